/-! The reference's sound, noteNow, strengthNow, loudest, asks; the class's heldNote, heldStrength, loudestOf, tellWords. -/
/-- what sounds without a clause -/
def wo_of (w : Nat → Int64) (s : Nat) : Int64 := if s = 0 then w 0 - w 6 else w 1 - w 7
set_option maxRecDepth 100000 in
set_option maxHeartbeats 4000000 in
theorem mX11_sound (d : Nat) (h : mm_H) (Q : LD) (r : Nat) (hr : r < 6) (hQ : lawOK Q) (hM : lawM h.1 r Q) (s : Nat) (hs : s ≤ 1) : ∃ g, mm_M (d + 3) YX11_sound [.ref 165, .int (nI r), .int (nI s)] h (some (.long (tell Q (h.2.1 194) s (wo_of (h.2.1 194) s)))) (h.1, mm_rowL h.2.1 195 g, h.2.2) := by
  have hQ0 := hQ
  have hM0 := hM
  obtain ⟨q1, q2, q3⟩ := hQ
  obtain ⟨c1, c2, c3⟩ := hM
  have e12 : (12 : Int32) * nI r = nI (12 * r) := pk_mul 12 r
  have K5 : ∀ k i, i + k = ldn Q → ∀ g0, ∃ g, mm_R (d + 3) YX11_sound 5 [some (.ref 165), some (.int (nI r)), some (.int (nI s)), some (.int (nI (12 * r + i)))] [] (h.1, mm_rowL h.2.1 195 g0, h.2.2) (some (.long (sel Q (h.2.1 194) s (wo_of (h.2.1 194) s) k i))) (h.1, mm_rowL h.2.1 195 g, h.2.2) := by
    intro k
    induction k with
    | zero =>
      intro i hi g0
      have hi : i = ldn Q := by omega
      subst hi
      refine ⟨g0, ?_⟩
      refine mm_iload_n dX11_sound_5 rfl rfl ?_
      refine mm_bipush (x := 12) dX11_sound_6 (by decide) ?_
      refine mm_iload_n dX11_sound_8 rfl rfl ?_
      refine mm_imul dX11_sound_9 ?_
      refine mm_aload_n dX11_sound_10 rfl rfl ?_
      refine mm_getS dX11_sound_11 fX11_81 sh_165 rfl gr_165_35 ?_
      refine mm_iload_n dX11_sound_14 rfl rfl ?_
      refine mm_iald (r) dX11_sound_15 sh_188 rfl (by omega) ?_
      refine mm_iadd dX11_sound_16 ?_
      refine mm_icmp_ge 91 dX11_sound_17 (by decide) (fun c_17 => ?_) (fun c_17 => ?_)
      · refine mm_iload_n dX11_sound_91 rfl rfl ?_
        refine mm_if_ne 112 dX11_sound_92 (by decide) (fun c_92 => ?_) (fun c_92 => ?_)
        · refine mm_aload_n dX11_sound_112 rfl rfl ?_
          refine mm_getS dX11_sound_113 fX11_99 sh_165 rfl gr_165_41 ?_
          refine mm_iconst (x := 1) dX11_sound_116 (by decide) ?_
          refine mm_lald (1) dX11_sound_117 sh_194 rfl (by decide) ?_
          refine mm_aload_n dX11_sound_118 rfl rfl ?_
          refine mm_getS dX11_sound_119 fX11_99 sh_165 rfl gr_165_41 ?_
          refine mm_bipush (x := 7) dX11_sound_122 (by decide) ?_
          refine mm_lald (7) dX11_sound_124 sh_194 rfl (by decide) ?_
          refine mm_lsub dX11_sound_125 ?_
          exact mm_lretE dX11_sound_126 rfl (by simp only [sel, wo_of]; (try dsimp only); rw [mm_rowL_n (show 194 ≠ 195 by decide)]; first | rw [if_pos (nI_inj (b := 0) (by omega) (by omega) c_92)] | rw [if_neg (fun z => c_92 (by rw [z]; rfl))]) rfl
        · refine mm_aload_n dX11_sound_95 rfl rfl ?_
          refine mm_getS dX11_sound_96 fX11_99 sh_165 rfl gr_165_41 ?_
          refine mm_iconst (x := 0) dX11_sound_99 (by decide) ?_
          refine mm_lald (0) dX11_sound_100 sh_194 rfl (by decide) ?_
          refine mm_aload_n dX11_sound_101 rfl rfl ?_
          refine mm_getS dX11_sound_102 fX11_99 sh_165 rfl gr_165_41 ?_
          refine mm_bipush (x := 6) dX11_sound_105 (by decide) ?_
          refine mm_lald (6) dX11_sound_107 sh_194 rfl (by decide) ?_
          refine mm_lsub dX11_sound_108 ?_
          refine mm_goto 126 dX11_sound_109 (by decide) ?_
          exact mm_lretE dX11_sound_126 rfl (by simp only [sel, wo_of]; (try dsimp only); rw [mm_rowL_n (show 194 ≠ 195 by decide)]; first | rw [if_pos (nI_inj (b := 0) (by omega) (by omega) c_92)] | rw [if_neg (fun z => c_92 (by rw [z]; rfl))]) rfl
      · exact absurd (by dsimp only; rw [e12, c1, nI_add]; exact nI_le (Nat.le_refl _) (by omega)) c_17
    | succ k ih =>
      intro i hi g0
      have hin : i < ldn Q := by omega
      obtain ⟨a1, a2, a3, a4, a5⟩ := q3 i hin
      obtain ⟨b1, b2, b3, b4⟩ := c3 i hin
      have st1 := a2.1
      by_cases e1 : ldw Q i = s
      · by_cases e2 : ldt Q i = lde Q i
        · have es : sel Q (h.2.1 194) s (wo_of (h.2.1 194) s) (k + 1) i = val (h.2.1 194) (ldT Q) (lds Q i) (ldt Q i) := by simp only [sel]; rw [if_pos ⟨e1, Or.inl e2⟩]
          rw [es]
          refine ⟨evs (h.2.1 194) g0 (ldT Q) (lds Q i) (ldt Q i - lds Q i), ?_⟩
          refine mm_iload_n dX11_sound_5 rfl rfl ?_
          refine mm_bipush (x := 12) dX11_sound_6 (by decide) ?_
          refine mm_iload_n dX11_sound_8 rfl rfl ?_
          refine mm_imul dX11_sound_9 ?_
          refine mm_aload_n dX11_sound_10 rfl rfl ?_
          refine mm_getS dX11_sound_11 fX11_81 sh_165 rfl gr_165_35 ?_
          refine mm_iload_n dX11_sound_14 rfl rfl ?_
          refine mm_iald (r) dX11_sound_15 sh_188 rfl (by omega) ?_
          refine mm_iadd dX11_sound_16 ?_
          refine mm_icmp_ge 91 dX11_sound_17 (by decide) (fun c_17 => ?_) (fun c_17 => ?_)
          · exact absurd (by dsimp only at c_17; rw [e12, c1, nI_add] at c_17; exact c_17) (nI_ge (by omega) (by omega))
          · refine mm_aload_n dX11_sound_20 rfl rfl ?_
            refine mm_getS dX11_sound_21 fX11_84 sh_165 rfl gr_165_36 ?_
            refine mm_iload_n dX11_sound_24 rfl rfl ?_
            refine mm_iald (12 * r + i) dX11_sound_25 sh_189 rfl (by omega) ?_
            refine mm_iload_n dX11_sound_26 rfl rfl ?_
            refine mm_icmp_ne 85 dX11_sound_27 (by decide) (fun c_27 => ?_) (fun c_27 => ?_)
            · exact absurd (by dsimp only; rw [b1, e1]) c_27
            · refine mm_aload_n dX11_sound_30 rfl rfl ?_
              refine mm_getS dX11_sound_31 fX11_90 sh_165 rfl gr_165_38 ?_
              refine mm_iload_n dX11_sound_34 rfl rfl ?_
              refine mm_iald (12 * r + i) dX11_sound_35 sh_191 rfl (by omega) ?_
              refine mm_aload_n dX11_sound_36 rfl rfl ?_
              refine mm_getS dX11_sound_37 fX11_93 sh_165 rfl gr_165_39 ?_
              refine mm_iload_n dX11_sound_40 rfl rfl ?_
              refine mm_iald (12 * r + i) dX11_sound_41 sh_192 rfl (by omega) ?_
              refine mm_icmp_eq 67 dX11_sound_42 (by decide) (fun c_42 => ?_) (fun c_42 => ?_)
              · refine mm_aload_n dX11_sound_67 rfl rfl ?_
                refine mm_iload_n dX11_sound_68 rfl rfl ?_
                refine mm_aload_n dX11_sound_69 rfl rfl ?_
                refine mm_getS dX11_sound_70 fX11_87 sh_165 rfl gr_165_37 ?_
                refine mm_iload_n dX11_sound_73 rfl rfl ?_
                refine mm_iald (12 * r + i) dX11_sound_74 sh_190 rfl (by omega) ?_
                refine mm_aload_n dX11_sound_75 rfl rfl ?_
                refine mm_getS dX11_sound_76 fX11_90 sh_165 rfl gr_165_38 ?_
                refine mm_iload_n dX11_sound_79 rfl rfl ?_
                refine mm_iald (12 * r + i) dX11_sound_80 sh_191 rfl (by omega) ?_
                refine mm_cast (st' := [.int (nI (ldt Q i)), .int (nI (lds Q i)), .int (nI r), .ref 165]) rfl (by dsimp only; rw [b2, b3]; try rfl) rfl ?_
                refine mm_cV (Y1 := YX11_answer) dX11_sound_81 lX11_368 vX11_answer (mX11_answer d (h.1, mm_rowL h.2.1 195 g0, h.2.2) Q r hr hQ0 hM0 (lds Q i) (ldt Q i) a2 (by omega)) sh_165 rfl rfl (by simp [Value.category]) ?_
                exact mm_lretE dX11_sound_84 rfl (by dsimp only; rw [mm_rowL_n (by decide)]) (by dsimp only; rw [mm_rowL_n (show 194 ≠ 195 by decide), mm_rowL_s, mm_rowL_row])
              · exact absurd (by dsimp only; rw [b3, b4, e2]) c_42
        · have a6 := (a5.resolve_left e2).1
          have a7 := (a5.resolve_left e2).2
          by_cases e3 : val (h.2.1 194) (ldT Q) (ldt Q i) (lde Q i) = 0
          · have es : sel Q (h.2.1 194) s (wo_of (h.2.1 194) s) (k + 1) i = sel Q (h.2.1 194) s (wo_of (h.2.1 194) s) k (i + 1) := by simp only [sel]; rw [if_neg (fun z => z.2.elim e2 (fun y => y e3))]
            rw [es]
            obtain ⟨g, hg⟩ := ih (i + 1) (by omega) (evs (h.2.1 194) g0 (ldT Q) (ldt Q i) (lde Q i - ldt Q i))
            refine ⟨g, ?_⟩
            refine mm_iload_n dX11_sound_5 rfl rfl ?_
            refine mm_bipush (x := 12) dX11_sound_6 (by decide) ?_
            refine mm_iload_n dX11_sound_8 rfl rfl ?_
            refine mm_imul dX11_sound_9 ?_
            refine mm_aload_n dX11_sound_10 rfl rfl ?_
            refine mm_getS dX11_sound_11 fX11_81 sh_165 rfl gr_165_35 ?_
            refine mm_iload_n dX11_sound_14 rfl rfl ?_
            refine mm_iald (r) dX11_sound_15 sh_188 rfl (by omega) ?_
            refine mm_iadd dX11_sound_16 ?_
            refine mm_icmp_ge 91 dX11_sound_17 (by decide) (fun c_17 => ?_) (fun c_17 => ?_)
            · exact absurd (by dsimp only at c_17; rw [e12, c1, nI_add] at c_17; exact c_17) (nI_ge (by omega) (by omega))
            · refine mm_aload_n dX11_sound_20 rfl rfl ?_
              refine mm_getS dX11_sound_21 fX11_84 sh_165 rfl gr_165_36 ?_
              refine mm_iload_n dX11_sound_24 rfl rfl ?_
              refine mm_iald (12 * r + i) dX11_sound_25 sh_189 rfl (by omega) ?_
              refine mm_iload_n dX11_sound_26 rfl rfl ?_
              refine mm_icmp_ne 85 dX11_sound_27 (by decide) (fun c_27 => ?_) (fun c_27 => ?_)
              · exact absurd (by dsimp only; rw [b1, e1]) c_27
              · refine mm_aload_n dX11_sound_30 rfl rfl ?_
                refine mm_getS dX11_sound_31 fX11_90 sh_165 rfl gr_165_38 ?_
                refine mm_iload_n dX11_sound_34 rfl rfl ?_
                refine mm_iald (12 * r + i) dX11_sound_35 sh_191 rfl (by omega) ?_
                refine mm_aload_n dX11_sound_36 rfl rfl ?_
                refine mm_getS dX11_sound_37 fX11_93 sh_165 rfl gr_165_39 ?_
                refine mm_iload_n dX11_sound_40 rfl rfl ?_
                refine mm_iald (12 * r + i) dX11_sound_41 sh_192 rfl (by omega) ?_
                refine mm_icmp_eq 67 dX11_sound_42 (by decide) (fun c_42 => ?_) (fun c_42 => ?_)
                · exact absurd (nI_inj (by omega) (by omega) (by dsimp only at c_42; rw [b3, b4] at c_42; exact c_42)) e2
                · refine mm_aload_n dX11_sound_45 rfl rfl ?_
                  refine mm_iload_n dX11_sound_46 rfl rfl ?_
                  refine mm_aload_n dX11_sound_47 rfl rfl ?_
                  refine mm_getS dX11_sound_48 fX11_90 sh_165 rfl gr_165_38 ?_
                  refine mm_iload_n dX11_sound_51 rfl rfl ?_
                  refine mm_iald (12 * r + i) dX11_sound_52 sh_191 rfl (by omega) ?_
                  refine mm_aload_n dX11_sound_53 rfl rfl ?_
                  refine mm_getS dX11_sound_54 fX11_93 sh_165 rfl gr_165_39 ?_
                  refine mm_iload_n dX11_sound_57 rfl rfl ?_
                  refine mm_iald (12 * r + i) dX11_sound_58 sh_192 rfl (by omega) ?_
                  refine mm_cast (st' := [.int (nI (lde Q i)), .int (nI (ldt Q i)), .int (nI r), .ref 165]) rfl (by dsimp only; rw [b3, b4]; try rfl) rfl ?_
                  refine mm_cV (Y1 := YX11_answer) dX11_sound_59 lX11_368 vX11_answer (mX11_answer d (h.1, mm_rowL h.2.1 195 g0, h.2.2) Q r hr hQ0 hM0 (ldt Q i) (lde Q i) a6 (by omega)) sh_165 rfl rfl (by simp [Value.category]) ?_
                  refine mm_cast (g := (h.1, mm_rowL h.2.1 195 (evs (h.2.1 194) g0 (ldT Q) (ldt Q i) (lde Q i - ldt Q i)), h.2.2)) rfl rfl (by dsimp only; rw [mm_rowL_n (show 194 ≠ 195 by decide), mm_rowL_s, mm_rowL_row]) ?_
                  refine mm_lconst (x := 1) dX11_sound_62 (by decide) ?_
                  refine mm_lcmp dX11_sound_63 ?_
                  refine mm_if_ne 85 dX11_sound_64 (by decide) (fun c_64 => ?_) (fun c_64 => ?_)
                  · refine mm_iinc dX11_sound_85 rfl rfl rfl ?_
                    refine mm_goto 5 dX11_sound_88 (by decide) ?_
                    refine mm_cast ?_ rfl rfl hg
                    rw [← Nat.add_assoc, ← nI_inc]; rfl
                  · have z := (lg_e0 _ _).mp c_64
                    dsimp only at z
                    rw [mm_rowL_n (show 194 ≠ 195 by decide), e3] at z
                    exact absurd z (by decide)
          · have es : sel Q (h.2.1 194) s (wo_of (h.2.1 194) s) (k + 1) i = val (h.2.1 194) (ldT Q) (lds Q i) (ldt Q i) := by simp only [sel]; rw [if_pos ⟨e1, Or.inr e3⟩]
            rw [es]
            refine ⟨evs (h.2.1 194) (evs (h.2.1 194) g0 (ldT Q) (ldt Q i) (lde Q i - ldt Q i)) (ldT Q) (lds Q i) (ldt Q i - lds Q i), ?_⟩
            refine mm_iload_n dX11_sound_5 rfl rfl ?_
            refine mm_bipush (x := 12) dX11_sound_6 (by decide) ?_
            refine mm_iload_n dX11_sound_8 rfl rfl ?_
            refine mm_imul dX11_sound_9 ?_
            refine mm_aload_n dX11_sound_10 rfl rfl ?_
            refine mm_getS dX11_sound_11 fX11_81 sh_165 rfl gr_165_35 ?_
            refine mm_iload_n dX11_sound_14 rfl rfl ?_
            refine mm_iald (r) dX11_sound_15 sh_188 rfl (by omega) ?_
            refine mm_iadd dX11_sound_16 ?_
            refine mm_icmp_ge 91 dX11_sound_17 (by decide) (fun c_17 => ?_) (fun c_17 => ?_)
            · exact absurd (by dsimp only at c_17; rw [e12, c1, nI_add] at c_17; exact c_17) (nI_ge (by omega) (by omega))
            · refine mm_aload_n dX11_sound_20 rfl rfl ?_
              refine mm_getS dX11_sound_21 fX11_84 sh_165 rfl gr_165_36 ?_
              refine mm_iload_n dX11_sound_24 rfl rfl ?_
              refine mm_iald (12 * r + i) dX11_sound_25 sh_189 rfl (by omega) ?_
              refine mm_iload_n dX11_sound_26 rfl rfl ?_
              refine mm_icmp_ne 85 dX11_sound_27 (by decide) (fun c_27 => ?_) (fun c_27 => ?_)
              · exact absurd (by dsimp only; rw [b1, e1]) c_27
              · refine mm_aload_n dX11_sound_30 rfl rfl ?_
                refine mm_getS dX11_sound_31 fX11_90 sh_165 rfl gr_165_38 ?_
                refine mm_iload_n dX11_sound_34 rfl rfl ?_
                refine mm_iald (12 * r + i) dX11_sound_35 sh_191 rfl (by omega) ?_
                refine mm_aload_n dX11_sound_36 rfl rfl ?_
                refine mm_getS dX11_sound_37 fX11_93 sh_165 rfl gr_165_39 ?_
                refine mm_iload_n dX11_sound_40 rfl rfl ?_
                refine mm_iald (12 * r + i) dX11_sound_41 sh_192 rfl (by omega) ?_
                refine mm_icmp_eq 67 dX11_sound_42 (by decide) (fun c_42 => ?_) (fun c_42 => ?_)
                · exact absurd (nI_inj (by omega) (by omega) (by dsimp only at c_42; rw [b3, b4] at c_42; exact c_42)) e2
                · refine mm_aload_n dX11_sound_45 rfl rfl ?_
                  refine mm_iload_n dX11_sound_46 rfl rfl ?_
                  refine mm_aload_n dX11_sound_47 rfl rfl ?_
                  refine mm_getS dX11_sound_48 fX11_90 sh_165 rfl gr_165_38 ?_
                  refine mm_iload_n dX11_sound_51 rfl rfl ?_
                  refine mm_iald (12 * r + i) dX11_sound_52 sh_191 rfl (by omega) ?_
                  refine mm_aload_n dX11_sound_53 rfl rfl ?_
                  refine mm_getS dX11_sound_54 fX11_93 sh_165 rfl gr_165_39 ?_
                  refine mm_iload_n dX11_sound_57 rfl rfl ?_
                  refine mm_iald (12 * r + i) dX11_sound_58 sh_192 rfl (by omega) ?_
                  refine mm_cast (st' := [.int (nI (lde Q i)), .int (nI (ldt Q i)), .int (nI r), .ref 165]) rfl (by dsimp only; rw [b3, b4]; try rfl) rfl ?_
                  refine mm_cV (Y1 := YX11_answer) dX11_sound_59 lX11_368 vX11_answer (mX11_answer d (h.1, mm_rowL h.2.1 195 g0, h.2.2) Q r hr hQ0 hM0 (ldt Q i) (lde Q i) a6 (by omega)) sh_165 rfl rfl (by simp [Value.category]) ?_
                  refine mm_cast (g := (h.1, mm_rowL h.2.1 195 (evs (h.2.1 194) g0 (ldT Q) (ldt Q i) (lde Q i - ldt Q i)), h.2.2)) rfl rfl (by dsimp only; rw [mm_rowL_n (show 194 ≠ 195 by decide), mm_rowL_s, mm_rowL_row]) ?_
                  refine mm_lconst (x := 1) dX11_sound_62 (by decide) ?_
                  refine mm_lcmp dX11_sound_63 ?_
                  refine mm_if_ne 85 dX11_sound_64 (by decide) (fun c_64 => ?_) (fun c_64 => ?_)
                  · exact absurd ((lg_e0 _ _).mpr (by dsimp only; rw [mm_rowL_n (show 194 ≠ 195 by decide)]; exact (a7 _).resolve_left e3)) c_64
                  · refine mm_aload_n dX11_sound_67 rfl rfl ?_
                    refine mm_iload_n dX11_sound_68 rfl rfl ?_
                    refine mm_aload_n dX11_sound_69 rfl rfl ?_
                    refine mm_getS dX11_sound_70 fX11_87 sh_165 rfl gr_165_37 ?_
                    refine mm_iload_n dX11_sound_73 rfl rfl ?_
                    refine mm_iald (12 * r + i) dX11_sound_74 sh_190 rfl (by omega) ?_
                    refine mm_aload_n dX11_sound_75 rfl rfl ?_
                    refine mm_getS dX11_sound_76 fX11_90 sh_165 rfl gr_165_38 ?_
                    refine mm_iload_n dX11_sound_79 rfl rfl ?_
                    refine mm_iald (12 * r + i) dX11_sound_80 sh_191 rfl (by omega) ?_
                    refine mm_cast (st' := [.int (nI (ldt Q i)), .int (nI (lds Q i)), .int (nI r), .ref 165]) rfl (by dsimp only; rw [b2, b3]; try rfl) rfl ?_
                    refine mm_cV (Y1 := YX11_answer) dX11_sound_81 lX11_368 vX11_answer (mX11_answer d (h.1, mm_rowL h.2.1 195 (evs (h.2.1 194) g0 (ldT Q) (ldt Q i) (lde Q i - ldt Q i)), h.2.2) Q r hr hQ0 hM0 (lds Q i) (ldt Q i) a2 (by omega)) sh_165 rfl rfl (by simp [Value.category]) ?_
                    exact mm_lretE dX11_sound_84 rfl (by dsimp only; rw [mm_rowL_n (by decide)]) (by dsimp only; rw [mm_rowL_n (show 194 ≠ 195 by decide), mm_rowL_s, mm_rowL_row])
      · have es : sel Q (h.2.1 194) s (wo_of (h.2.1 194) s) (k + 1) i = sel Q (h.2.1 194) s (wo_of (h.2.1 194) s) k (i + 1) := by simp only [sel]; rw [if_neg (fun z => e1 z.1)]
        rw [es]
        obtain ⟨g, hg⟩ := ih (i + 1) (by omega) g0
        refine ⟨g, ?_⟩
        refine mm_iload_n dX11_sound_5 rfl rfl ?_
        refine mm_bipush (x := 12) dX11_sound_6 (by decide) ?_
        refine mm_iload_n dX11_sound_8 rfl rfl ?_
        refine mm_imul dX11_sound_9 ?_
        refine mm_aload_n dX11_sound_10 rfl rfl ?_
        refine mm_getS dX11_sound_11 fX11_81 sh_165 rfl gr_165_35 ?_
        refine mm_iload_n dX11_sound_14 rfl rfl ?_
        refine mm_iald (r) dX11_sound_15 sh_188 rfl (by omega) ?_
        refine mm_iadd dX11_sound_16 ?_
        refine mm_icmp_ge 91 dX11_sound_17 (by decide) (fun c_17 => ?_) (fun c_17 => ?_)
        · exact absurd (by dsimp only at c_17; rw [e12, c1, nI_add] at c_17; exact c_17) (nI_ge (by omega) (by omega))
        · refine mm_aload_n dX11_sound_20 rfl rfl ?_
          refine mm_getS dX11_sound_21 fX11_84 sh_165 rfl gr_165_36 ?_
          refine mm_iload_n dX11_sound_24 rfl rfl ?_
          refine mm_iald (12 * r + i) dX11_sound_25 sh_189 rfl (by omega) ?_
          refine mm_iload_n dX11_sound_26 rfl rfl ?_
          refine mm_icmp_ne 85 dX11_sound_27 (by decide) (fun c_27 => ?_) (fun c_27 => ?_)
          · refine mm_iinc dX11_sound_85 rfl rfl rfl ?_
            refine mm_goto 5 dX11_sound_88 (by decide) ?_
            refine mm_cast ?_ rfl rfl hg
            rw [← Nat.add_assoc, ← nI_inc]; rfl
          · exact absurd (nI_inj (by omega) (by omega) (by dsimp only at c_27; rw [b1] at c_27; exact c_27)) e1
  obtain ⟨g, hg⟩ := K5 (ldn Q) 0 (by omega) (h.2.1 195)
  refine ⟨g, ?_⟩
  refine mm_M.of [some (.ref 165), some (.int (nI r)), some (.int (nI s)), none] rfl rfl (Nat.le_of_ble_eq_true rfl) ?_
  refine mm_bipush (x := 12) dX11_sound_0 (by decide) ?_
  refine mm_iload_n dX11_sound_2 rfl rfl ?_
  refine mm_imul dX11_sound_3 ?_
  refine mm_istore_n dX11_sound_4 rfl (by decide) rfl ?_
  exact mm_cast (by rw [e12]; rfl) rfl (by rw [mm_rowL_self]) hg
/-- held to -9999 .. 9999, to 0 .. 9999 -/
def hold (s : Nat) (x : Int64) : Int64 := if s = 0 then (if x < -9999 then -9999 else if 9999 < x then 9999 else x) else (if x < 0 then 0 else if 9999 < x then 9999 else x)
/-- what sounds: s 0 the note, 1 the strength -/
def snd_ (Q : LD) (w : Nat → Int64) (s : Nat) : Int32 := (hold s (tell Q w s (wo_of w s))).toInt32
set_option maxRecDepth 100000 in
set_option maxHeartbeats 4000000 in
theorem mX11_noteNow (d : Nat) (h : mm_H) (Q : LD) (r : Nat) (hr : r < 6) (hQ : lawOK Q) (hM : lawM h.1 r Q) : ∃ g, mm_M (d + 4) YX11_noteNow [.ref 165, .int (nI r)] h (some (.int (snd_ Q (h.2.1 194) 0))) (h.1, mm_rowL h.2.1 195 g, h.2.2) := by
  obtain ⟨g, hg⟩ := mX11_sound d h Q r hr hQ hM 0 (by decide)
  refine ⟨g, ?_⟩
  refine mm_M.of [some (.ref 165), some (.int (nI r))] rfl rfl (Nat.le_of_ble_eq_true rfl) ?_
  refine mm_aload_n dX11_noteNow_0 rfl rfl ?_
  refine mm_iload_n dX11_noteNow_1 rfl rfl ?_
  refine mm_iconst (x := 0) dX11_noteNow_2 (by decide) ?_
  refine mm_cV (Y1 := YX11_sound) dX11_noteNow_3 lX11_372 vX11_sound (hg) sh_165 rfl rfl (by simp [Value.category]) ?_
  refine mm_ldc2 dX11_noteNow_6 kX11_376 ?_
  refine mm_ldc2 dX11_noteNow_9 kX11_378 ?_
  refine mm_cS (Y1 := YX11_held) dX11_noteNow_12 lX11_380 sX11_held (mX11_held (d + 3) _ _ _ _) rfl rfl (by simp [Value.category]) ?_
  refine mm_l2i dX11_noteNow_15 rfl ?_
  exact mm_iretE dX11_noteNow_16 rfl rfl rfl
set_option maxRecDepth 100000 in
set_option maxHeartbeats 4000000 in
theorem mX11_strengthNow (d : Nat) (h : mm_H) (Q : LD) (r : Nat) (hr : r < 6) (hQ : lawOK Q) (hM : lawM h.1 r Q) : ∃ g, mm_M (d + 4) YX11_strengthNow [.ref 165, .int (nI r)] h (some (.int (snd_ Q (h.2.1 194) 1))) (h.1, mm_rowL h.2.1 195 g, h.2.2) := by
  obtain ⟨g, hg⟩ := mX11_sound d h Q r hr hQ hM 1 (by decide)
  refine ⟨g, ?_⟩
  refine mm_M.of [some (.ref 165), some (.int (nI r))] rfl rfl (Nat.le_of_ble_eq_true rfl) ?_
  refine mm_aload_n dX11_strengthNow_0 rfl rfl ?_
  refine mm_iload_n dX11_strengthNow_1 rfl rfl ?_
  refine mm_iconst (x := 1) dX11_strengthNow_2 (by decide) ?_
  refine mm_cV (Y1 := YX11_sound) dX11_strengthNow_3 lX11_372 vX11_sound (hg) sh_165 rfl rfl (by simp [Value.category]) ?_
  refine mm_lconst (x := 0) dX11_strengthNow_6 (by decide) ?_
  refine mm_ldc2 dX11_strengthNow_7 kX11_378 ?_
  refine mm_cS (Y1 := YX11_held) dX11_strengthNow_10 lX11_380 sX11_held (mX11_held (d + 3) _ _ _ _) rfl rfl (by simp [Value.category]) ?_
  refine mm_l2i dX11_strengthNow_13 rfl ?_
  exact mm_iretE dX11_strengthNow_14 rfl rfl rfl
theorem hold_mm0 (x : Int64) : (if (if x < 9999 then x else 9999) < -9999 then -9999 else (if x < 9999 then x else 9999)) = hold 0 x := by
  unfold hold
  rw [if_pos rfl]
  simp only [Int64.lt_iff_toInt_lt, li_m9999, li_9999]
  by_cases h1 : x.toInt < 9999
  · rw [if_pos h1, if_neg (show ¬ 9999 < x.toInt by omega)]
  · rw [if_neg h1]
    by_cases h2 : 9999 < x.toInt
    · rw [if_pos h2, if_neg (show ¬ x.toInt < -9999 by omega), li_9999, if_neg (by omega)]
    · have e : x = 9999 := Int64.toInt_inj.mp (by rw [li_9999]; omega)
      rw [e, li_9999, if_neg (by omega), if_neg (by omega), if_neg (by omega)]
theorem hold_mm1 (x : Int64) : (if (if x < 9999 then x else 9999) < 0 then 0 else (if x < 9999 then x else 9999)) = hold 1 x := by
  unfold hold
  rw [if_neg (show ¬ (1 : Nat) = 0 by decide)]
  simp only [Int64.lt_iff_toInt_lt, li_0, li_9999]
  by_cases h1 : x.toInt < 9999
  · rw [if_pos h1, if_neg (show ¬ 9999 < x.toInt by omega)]
  · rw [if_neg h1]
    by_cases h2 : 9999 < x.toInt
    · rw [if_pos h2, if_neg (show ¬ x.toInt < 0 by omega), li_9999, if_neg (by omega)]
    · have e : x = 9999 := Int64.toInt_inj.mp (by rw [li_9999]; omega)
      rw [e, li_9999, if_neg (by omega), if_neg (by omega), if_neg (by omega)]
set_option maxRecDepth 100000 in
set_option maxHeartbeats 4000000 in
theorem mX1_heldNote (d : Nat) (h : mm_H) (x : Int64) : mm_M (d + 1) YX1_heldNote [.long x] h (some (.int (hold 0 x).toInt32)) h := by
  refine mm_M.of [some (.long x), none] rfl rfl (Nat.le_of_ble_eq_true rfl) ?_
  refine mm_ldc2 dX1_heldNote_0 kX1_98 ?_
  refine mm_ldc2 dX1_heldNote_3 kX1_100 ?_
  refine mm_lload_n dX1_heldNote_6 rfl rfl ?_
  refine mm_minL dX1_heldNote_7 lX1_102 (by simp [Value.category]) ?_
  refine mm_maxL dX1_heldNote_10 lX1_108 (by simp [Value.category]) ?_
  refine mm_l2i dX1_heldNote_13 rfl ?_
  exact mm_iretE dX1_heldNote_14 rfl (congrArg Int64.toInt32 (hold_mm0 x)) rfl
set_option maxRecDepth 100000 in
set_option maxHeartbeats 4000000 in
theorem mX1_heldStrength (d : Nat) (h : mm_H) (x : Int64) : mm_M (d + 1) YX1_heldStrength [.long x] h (some (.int (hold 1 x).toInt32)) h := by
  refine mm_M.of [some (.long x), none] rfl rfl (Nat.le_of_ble_eq_true rfl) ?_
  refine mm_lconst (x := 0) dX1_heldStrength_0 (by decide) ?_
  refine mm_ldc2 dX1_heldStrength_1 kX1_100 ?_
  refine mm_lload_n dX1_heldStrength_4 rfl rfl ?_
  refine mm_minL dX1_heldStrength_5 lX1_102 (by simp [Value.category]) ?_
  refine mm_maxL dX1_heldStrength_8 lX1_108 (by simp [Value.category]) ?_
  refine mm_l2i dX1_heldStrength_11 rfl ?_
  exact mm_iretE dX1_heldStrength_12 rfl (congrArg Int64.toInt32 (hold_mm1 x)) rfl
