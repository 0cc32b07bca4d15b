/-! A law as data; Law.told; the reference's answer and sound. -/
/-- a law: tokens, of each clause 0 note or 1 strength, where its sum and its test begin, where it ends; clauses; tokens -/
abbrev LD : Type := (Nat → Nat) × (Nat → Nat) × (Nat → Nat) × (Nat → Nat) × (Nat → Nat) × Nat × Nat
def ldT (Q : LD) : Nat → Nat := Q.1
def ldw (Q : LD) : Nat → Nat := Q.2.1
def lds (Q : LD) : Nat → Nat := Q.2.2.1
def ldt (Q : LD) : Nat → Nat := Q.2.2.2.1
def lde (Q : LD) : Nat → Nat := Q.2.2.2.2.1
def ldn (Q : LD) : Nat := Q.2.2.2.2.2.1
def ldl (Q : LD) : Nat := Q.2.2.2.2.2.2
/-- it is well made -/
def lawOK (Q : LD) : Prop := ldn Q ≤ 12 ∧ ldl Q ≤ 300 ∧ ∀ c, c < ldn Q → ldw Q c ≤ 1 ∧ seg (ldT Q) (lds Q c) (ldt Q c) ∧ ldt Q c ≤ lde Q c ∧ lde Q c ≤ ldl Q ∧ (ldt Q c = lde Q c ∨ (seg (ldT Q) (ldt Q c) (lde Q c) ∧ ∀ w, val w (ldT Q) (ldt Q c) (lde Q c) = 0 ∨ val w (ldT Q) (ldt Q c) (lde Q c) = 1))
/-- the class holds it at b -/
def lawC (I : Nat → Nat → Int32) (b : Nat) (Q : LD) : Prop := I b 6 = nI (ldn Q) ∧ (∀ k, k < ldl Q → I (b + 1) k = enc (ldT Q k)) ∧ ∀ c, c < ldn Q → I (b + 2) c = nI (16 + ldw Q c) ∧ I (b + 3) c = nI (lds Q c) ∧ I (b + 4) c = nI (ldt Q c) ∧ I (b + 5) c = nI (lde Q c)
/-- a token in the reference: its sort, its number -/
def rs (t : Nat) : Nat := if t < 100000 then 0 else if 100016 ≤ t ∧ t ≤ 100025 then 1 else match t - 100000 with
  | 6 => 2
  | 7 => 3
  | 8 => 13
  | 9 => 14
  | 10 => 15
  | 11 => 4
  | 12 => 5
  | 13 => 6
  | 14 => 7
  | 15 => 8
  | 30 => 9
  | 31 => 10
  | _ => 11
def rn (t : Nat) : Nat := if t < 100000 then t else if 100016 ≤ t ∧ t ≤ 100025 then t - 100016 else 0
/-- the reference holds it as its law r -/
def lawM (I : Nat → Nat → Int32) (r : Nat) (Q : LD) : Prop := I 188 r = nI (ldn Q) ∧ (∀ k, k < ldl Q → I 186 (300 * r + k) = nI (rs (ldT Q k)) ∧ I 187 (300 * r + k) = nI (rn (ldT Q k))) ∧ ∀ c, c < ldn Q → I 189 (12 * r + c) = nI (ldw Q c) ∧ I 190 (12 * r + c) = nI (lds Q c) ∧ I 191 (12 * r + c) = nI (ldt Q c) ∧ I 192 (12 * r + c) = nI (lde Q c)
def sel (Q : LD) (w : Nat → Int64) (s : Nat) (wo : Int64) : Nat → Nat → Int64
  | 0, _ => wo
  | k + 1, i => if ldw Q i = s ∧ (ldt Q i = lde Q i ∨ ¬ val w (ldT Q) (ldt Q i) (lde Q i) = 0) then val w (ldT Q) (lds Q i) (ldt Q i) else sel Q w s wo k (i + 1)
/-- what the law says of a word (0 note, 1 strength) -/
def tell (Q : LD) (w : Nat → Int64) (s : Nat) (wo : Int64) : Int64 := sel Q w s wo (ldn Q) 0
set_option maxRecDepth 100000 in
set_option maxHeartbeats 4000000 in
theorem mX3_told (d : Nat) (h : mm_H) (b : Nat) (hb : mm_law b) (Q : LD) (hQ : lawOK Q) (hC : lawC h.1 b Q) (s : Nat) (hs : s ≤ 1) (wo : Int64) : ∃ g, mm_M (d + 2) YX3_told [.ref b, .int (nI (16 + s)), .ref 148, .ref 149, .long wo] h (some (.long (tell Q (h.2.1 148) s wo))) (h.1, mm_rowL h.2.1 149 g, h.2.2) := by
  obtain ⟨q1, q2, q3⟩ := hQ
  obtain ⟨c1, c2, c3⟩ := hC
  have K3 : ∀ k i, i + k = ldn Q → ∀ g0, ∃ g, mm_R (d + 2) YX3_told 3 [some (.ref b), some (.int (nI (16 + s))), some (.ref 148), some (.ref 149), some (.long wo), none, some (.int (nI i)), none] [] (h.1, mm_rowL h.2.1 149 g0, h.2.2) (some (.long (sel Q (h.2.1 148) s wo k i))) (h.1, mm_rowL h.2.1 149 g, h.2.2) := by
    intro k
    induction k with
    | zero =>
      intro i hi g0
      have hi : i = ldn Q := by omega
      subst hi
      refine ⟨g0, ?_⟩
      refine mm_iload dX3_told_3 rfl ?_
      refine mm_aload_n dX3_told_5 rfl rfl ?_
      refine mm_getI dX3_told_6 fX3_31 hb.1 rfl ?_
      refine mm_icmp_ge 104 dX3_told_9 (by decide) (fun c_9 => ?_) (fun c_9 => ?_)
      · refine mm_lload dX3_told_104 rfl ?_
        exact mm_lretE dX3_told_106 rfl rfl rfl
      · exact absurd (by dsimp only; rw [c1]; exact nI_le (Nat.le_refl _) (by omega)) c_9
    | succ k ih =>
      intro i hi g0
      have hin : i < ldn Q := by omega
      obtain ⟨a1, a2, a3, a4, a5⟩ := q3 i hin
      obtain ⟨b1, b2, b3, b4⟩ := c3 i hin
      have st1 := a2.1
      have hT0 : ∀ g1 : Nat → Int64, ∀ j, j < ldl Q → ((h.1, mm_rowL h.2.1 149 g1, h.2.2) : mm_H).1 (b + 1) j = enc (ldT Q j) := fun g1 => c2
      by_cases e1 : ldw Q i = s
      · by_cases e2 : ldt Q i = lde Q i
        · have es : sel Q (h.2.1 148) s wo (k + 1) i = val (h.2.1 148) (ldT Q) (lds Q i) (ldt Q i) := by simp only [sel]; rw [if_pos ⟨e1, Or.inl e2⟩]
          rw [es]
          refine ⟨evs (h.2.1 148) g0 (ldT Q) (lds Q i) (ldt Q i - lds Q i), ?_⟩
          refine mm_iload dX3_told_3 rfl ?_
          refine mm_aload_n dX3_told_5 rfl rfl ?_
          refine mm_getI dX3_told_6 fX3_31 hb.1 rfl ?_
          refine mm_icmp_ge 104 dX3_told_9 (by decide) (fun c_9 => ?_) (fun c_9 => ?_)
          · exact absurd (by dsimp only at c_9; rw [c1] at c_9; exact c_9) (nI_ge hin (by omega))
          · refine mm_aload_n dX3_told_12 rfl rfl ?_
            refine mm_getS dX3_told_13 fX3_15 hb.1 rfl hb.2.2.2.2.2.2.2.1 ?_
            refine mm_iload dX3_told_16 rfl ?_
            refine mm_iald (i) dX3_told_18 hb.2.2.1 rfl (by omega) ?_
            refine mm_iload_n dX3_told_19 rfl rfl ?_
            refine mm_icmp_ne 98 dX3_told_20 (by decide) (fun c_20 => ?_) (fun c_20 => ?_)
            · exact absurd (by dsimp only; rw [b1, e1]) c_20
            · refine mm_aload_n dX3_told_23 rfl rfl ?_
              refine mm_getS dX3_told_24 fX3_21 hb.1 rfl hb.2.2.2.2.2.2.2.2.2.1 ?_
              refine mm_iload dX3_told_27 rfl ?_
              refine mm_iald (i) dX3_told_29 hb.2.2.2.2.1 rfl (by omega) ?_
              refine mm_aload_n dX3_told_30 rfl rfl ?_
              refine mm_getS dX3_told_31 fX3_24 hb.1 rfl hb.2.2.2.2.2.2.2.2.2.2 ?_
              refine mm_iload dX3_told_34 rfl ?_
              refine mm_iald (i) dX3_told_36 hb.2.2.2.2.2.1 rfl (by omega) ?_
              refine mm_icmp_ne 44 dX3_told_37 (by decide) (fun c_37 => ?_) (fun c_37 => ?_)
              · exact absurd (by dsimp only; rw [b3, b4, e2]) c_37
              · refine mm_iconst (x := 1) dX3_told_40 (by decide) ?_
                refine mm_goto 45 dX3_told_41 (by decide) ?_
                refine mm_istore dX3_told_45 (by decide) rfl ?_
                refine mm_iload dX3_told_47 rfl ?_
                refine mm_if_ne 77 dX3_told_49 (by decide) (fun c_49 => ?_) (fun c_49 => ?_)
                · refine mm_aload_n dX3_told_77 rfl rfl ?_
                  refine mm_aload_n dX3_told_78 rfl rfl ?_
                  refine mm_getS dX3_told_79 fX3_18 hb.1 rfl hb.2.2.2.2.2.2.2.2.1 ?_
                  refine mm_iload dX3_told_82 rfl ?_
                  refine mm_iald (i) dX3_told_84 hb.2.2.2.1 rfl (by omega) ?_
                  refine mm_aload_n dX3_told_85 rfl rfl ?_
                  refine mm_getS dX3_told_86 fX3_21 hb.1 rfl hb.2.2.2.2.2.2.2.2.2.1 ?_
                  refine mm_iload dX3_told_89 rfl ?_
                  refine mm_iald (i) dX3_told_91 hb.2.2.2.2.1 rfl (by omega) ?_
                  refine mm_aload_n dX3_told_92 rfl rfl ?_
                  refine mm_aload_n dX3_told_93 rfl rfl ?_
                  refine mm_cast (st' := [.ref 149, .ref 148, .int (nI (ldt Q i)), .int (nI (lds Q i)), .ref b]) rfl (by dsimp only; rw [b2, b3]; try rfl) rfl ?_
                  refine mm_cV (Y1 := YX3_valueOf) dX3_told_94 lX3_34 vX3_valueOf (mX3_valueOf d _ b hb (ldT Q) (ldl Q) (by omega) (hT0 _) (lds Q i) (ldt Q i) a2 (by omega)) hb.1 rfl rfl (by simp [Value.category]) ?_
                  exact mm_lretE dX3_told_97 rfl (by dsimp only; rw [mm_rowL_n (by decide)]) (by dsimp only; rw [mm_rowL_n (show 148 ≠ 149 by decide), mm_rowL_s, mm_rowL_row])
                · exact absurd c_49 (by decide)
        · have a6 := (a5.resolve_left e2).1
          have a7 := (a5.resolve_left e2).2
          by_cases e3 : val (h.2.1 148) (ldT Q) (ldt Q i) (lde Q i) = 0
          · have es : sel Q (h.2.1 148) s wo (k + 1) i = sel Q (h.2.1 148) s wo k (i + 1) := by simp only [sel]; rw [if_neg (fun z => z.2.elim e2 (fun y => y e3))]
            rw [es]
            obtain ⟨g, hg⟩ := ih (i + 1) (by omega) (evs (h.2.1 148) g0 (ldT Q) (ldt Q i) (lde Q i - ldt Q i))
            refine ⟨g, ?_⟩
            refine mm_iload dX3_told_3 rfl ?_
            refine mm_aload_n dX3_told_5 rfl rfl ?_
            refine mm_getI dX3_told_6 fX3_31 hb.1 rfl ?_
            refine mm_icmp_ge 104 dX3_told_9 (by decide) (fun c_9 => ?_) (fun c_9 => ?_)
            · exact absurd (by dsimp only at c_9; rw [c1] at c_9; exact c_9) (nI_ge hin (by omega))
            · refine mm_aload_n dX3_told_12 rfl rfl ?_
              refine mm_getS dX3_told_13 fX3_15 hb.1 rfl hb.2.2.2.2.2.2.2.1 ?_
              refine mm_iload dX3_told_16 rfl ?_
              refine mm_iald (i) dX3_told_18 hb.2.2.1 rfl (by omega) ?_
              refine mm_iload_n dX3_told_19 rfl rfl ?_
              refine mm_icmp_ne 98 dX3_told_20 (by decide) (fun c_20 => ?_) (fun c_20 => ?_)
              · exact absurd (by dsimp only; rw [b1, e1]) c_20
              · refine mm_aload_n dX3_told_23 rfl rfl ?_
                refine mm_getS dX3_told_24 fX3_21 hb.1 rfl hb.2.2.2.2.2.2.2.2.2.1 ?_
                refine mm_iload dX3_told_27 rfl ?_
                refine mm_iald (i) dX3_told_29 hb.2.2.2.2.1 rfl (by omega) ?_
                refine mm_aload_n dX3_told_30 rfl rfl ?_
                refine mm_getS dX3_told_31 fX3_24 hb.1 rfl hb.2.2.2.2.2.2.2.2.2.2 ?_
                refine mm_iload dX3_told_34 rfl ?_
                refine mm_iald (i) dX3_told_36 hb.2.2.2.2.2.1 rfl (by omega) ?_
                refine mm_icmp_ne 44 dX3_told_37 (by decide) (fun c_37 => ?_) (fun c_37 => ?_)
                · refine mm_iconst (x := 0) dX3_told_44 (by decide) ?_
                  refine mm_istore dX3_told_45 (by decide) rfl ?_
                  refine mm_iload dX3_told_47 rfl ?_
                  refine mm_if_ne 77 dX3_told_49 (by decide) (fun c_49 => ?_) (fun c_49 => ?_)
                  · exact absurd rfl c_49
                  · refine mm_aload_n dX3_told_52 rfl rfl ?_
                    refine mm_aload_n dX3_told_53 rfl rfl ?_
                    refine mm_getS dX3_told_54 fX3_21 hb.1 rfl hb.2.2.2.2.2.2.2.2.2.1 ?_
                    refine mm_iload dX3_told_57 rfl ?_
                    refine mm_iald (i) dX3_told_59 hb.2.2.2.2.1 rfl (by omega) ?_
                    refine mm_aload_n dX3_told_60 rfl rfl ?_
                    refine mm_getS dX3_told_61 fX3_24 hb.1 rfl hb.2.2.2.2.2.2.2.2.2.2 ?_
                    refine mm_iload dX3_told_64 rfl ?_
                    refine mm_iald (i) dX3_told_66 hb.2.2.2.2.2.1 rfl (by omega) ?_
                    refine mm_aload_n dX3_told_67 rfl rfl ?_
                    refine mm_aload_n dX3_told_68 rfl rfl ?_
                    refine mm_cast (st' := [.ref 149, .ref 148, .int (nI (lde Q i)), .int (nI (ldt Q i)), .ref b]) rfl (by dsimp only; rw [b3, b4]; try rfl) rfl ?_
                    refine mm_cV (Y1 := YX3_valueOf) dX3_told_69 lX3_34 vX3_valueOf (mX3_valueOf d (h.1, mm_rowL h.2.1 149 g0, h.2.2) b hb (ldT Q) (ldl Q) (by omega) (hT0 g0) (ldt Q i) (lde Q i) a6 (by omega)) hb.1 rfl rfl (by simp [Value.category]) ?_
                    refine mm_cast (g := (h.1, mm_rowL h.2.1 149 (evs (h.2.1 148) g0 (ldT Q) (ldt Q i) (lde Q i - ldt Q i)), h.2.2)) rfl rfl (by dsimp only; rw [mm_rowL_n (show 148 ≠ 149 by decide), mm_rowL_s, mm_rowL_row]) ?_
                    refine mm_lconst (x := 0) dX3_told_72 (by decide) ?_
                    refine mm_lcmp dX3_told_73 ?_
                    refine mm_if_eq 98 dX3_told_74 (by decide) (fun c_74 => ?_) (fun c_74 => ?_)
                    · refine mm_iinc dX3_told_98 rfl rfl rfl ?_
                      refine mm_goto 3 dX3_told_101 (by decide) ?_
                      refine mm_lessE (ls' := [some (.ref b), some (.int (nI (16 + s))), some (.ref 148), some (.ref 149), some (.long wo), none, some (.int (nI (i + 1))), none]) ⟨rfl, rfl, rfl, rfl, rfl, ?_, trivial⟩ (mm_cast rfl rfl ?_ hg)
                      · rw [nI_succ]; rfl
                      · rfl
                    · exact absurd ((lg_e0 _ _).mpr (by dsimp only; rw [mm_rowL_n (by decide)]; exact e3)) c_74
                · exact absurd (nI_inj (by omega) (by omega) (by dsimp only at c_37; rw [b3, b4] at c_37; exact c_37)) e2
          · have es : sel Q (h.2.1 148) s wo (k + 1) i = val (h.2.1 148) (ldT Q) (lds Q i) (ldt Q i) := by simp only [sel]; rw [if_pos ⟨e1, Or.inr e3⟩]
            rw [es]
            refine ⟨evs (h.2.1 148) (evs (h.2.1 148) g0 (ldT Q) (ldt Q i) (lde Q i - ldt Q i)) (ldT Q) (lds Q i) (ldt Q i - lds Q i), ?_⟩
            refine mm_iload dX3_told_3 rfl ?_
            refine mm_aload_n dX3_told_5 rfl rfl ?_
            refine mm_getI dX3_told_6 fX3_31 hb.1 rfl ?_
            refine mm_icmp_ge 104 dX3_told_9 (by decide) (fun c_9 => ?_) (fun c_9 => ?_)
            · exact absurd (by dsimp only at c_9; rw [c1] at c_9; exact c_9) (nI_ge hin (by omega))
            · refine mm_aload_n dX3_told_12 rfl rfl ?_
              refine mm_getS dX3_told_13 fX3_15 hb.1 rfl hb.2.2.2.2.2.2.2.1 ?_
              refine mm_iload dX3_told_16 rfl ?_
              refine mm_iald (i) dX3_told_18 hb.2.2.1 rfl (by omega) ?_
              refine mm_iload_n dX3_told_19 rfl rfl ?_
              refine mm_icmp_ne 98 dX3_told_20 (by decide) (fun c_20 => ?_) (fun c_20 => ?_)
              · exact absurd (by dsimp only; rw [b1, e1]) c_20
              · refine mm_aload_n dX3_told_23 rfl rfl ?_
                refine mm_getS dX3_told_24 fX3_21 hb.1 rfl hb.2.2.2.2.2.2.2.2.2.1 ?_
                refine mm_iload dX3_told_27 rfl ?_
                refine mm_iald (i) dX3_told_29 hb.2.2.2.2.1 rfl (by omega) ?_
                refine mm_aload_n dX3_told_30 rfl rfl ?_
                refine mm_getS dX3_told_31 fX3_24 hb.1 rfl hb.2.2.2.2.2.2.2.2.2.2 ?_
                refine mm_iload dX3_told_34 rfl ?_
                refine mm_iald (i) dX3_told_36 hb.2.2.2.2.2.1 rfl (by omega) ?_
                refine mm_icmp_ne 44 dX3_told_37 (by decide) (fun c_37 => ?_) (fun c_37 => ?_)
                · refine mm_iconst (x := 0) dX3_told_44 (by decide) ?_
                  refine mm_istore dX3_told_45 (by decide) rfl ?_
                  refine mm_iload dX3_told_47 rfl ?_
                  refine mm_if_ne 77 dX3_told_49 (by decide) (fun c_49 => ?_) (fun c_49 => ?_)
                  · exact absurd rfl c_49
                  · refine mm_aload_n dX3_told_52 rfl rfl ?_
                    refine mm_aload_n dX3_told_53 rfl rfl ?_
                    refine mm_getS dX3_told_54 fX3_21 hb.1 rfl hb.2.2.2.2.2.2.2.2.2.1 ?_
                    refine mm_iload dX3_told_57 rfl ?_
                    refine mm_iald (i) dX3_told_59 hb.2.2.2.2.1 rfl (by omega) ?_
                    refine mm_aload_n dX3_told_60 rfl rfl ?_
                    refine mm_getS dX3_told_61 fX3_24 hb.1 rfl hb.2.2.2.2.2.2.2.2.2.2 ?_
                    refine mm_iload dX3_told_64 rfl ?_
                    refine mm_iald (i) dX3_told_66 hb.2.2.2.2.2.1 rfl (by omega) ?_
                    refine mm_aload_n dX3_told_67 rfl rfl ?_
                    refine mm_aload_n dX3_told_68 rfl rfl ?_
                    refine mm_cast (st' := [.ref 149, .ref 148, .int (nI (lde Q i)), .int (nI (ldt Q i)), .ref b]) rfl (by dsimp only; rw [b3, b4]; try rfl) rfl ?_
                    refine mm_cV (Y1 := YX3_valueOf) dX3_told_69 lX3_34 vX3_valueOf (mX3_valueOf d (h.1, mm_rowL h.2.1 149 g0, h.2.2) b hb (ldT Q) (ldl Q) (by omega) (hT0 g0) (ldt Q i) (lde Q i) a6 (by omega)) hb.1 rfl rfl (by simp [Value.category]) ?_
                    refine mm_cast (g := (h.1, mm_rowL h.2.1 149 (evs (h.2.1 148) g0 (ldT Q) (ldt Q i) (lde Q i - ldt Q i)), h.2.2)) rfl rfl (by dsimp only; rw [mm_rowL_n (show 148 ≠ 149 by decide), mm_rowL_s, mm_rowL_row]) ?_
                    refine mm_lconst (x := 0) dX3_told_72 (by decide) ?_
                    refine mm_lcmp dX3_told_73 ?_
                    refine mm_if_eq 98 dX3_told_74 (by decide) (fun c_74 => ?_) (fun c_74 => ?_)
                    · exact absurd (by dsimp only at c_74; rw [mm_rowL_n (by decide)] at c_74; exact (lg_e0 _ _).mp c_74) e3
                    · refine mm_aload_n dX3_told_77 rfl rfl ?_
                      refine mm_aload_n dX3_told_78 rfl rfl ?_
                      refine mm_getS dX3_told_79 fX3_18 hb.1 rfl hb.2.2.2.2.2.2.2.2.1 ?_
                      refine mm_iload dX3_told_82 rfl ?_
                      refine mm_iald (i) dX3_told_84 hb.2.2.2.1 rfl (by omega) ?_
                      refine mm_aload_n dX3_told_85 rfl rfl ?_
                      refine mm_getS dX3_told_86 fX3_21 hb.1 rfl hb.2.2.2.2.2.2.2.2.2.1 ?_
                      refine mm_iload dX3_told_89 rfl ?_
                      refine mm_iald (i) dX3_told_91 hb.2.2.2.2.1 rfl (by omega) ?_
                      refine mm_aload_n dX3_told_92 rfl rfl ?_
                      refine mm_aload_n dX3_told_93 rfl rfl ?_
                      refine mm_cast (st' := [.ref 149, .ref 148, .int (nI (ldt Q i)), .int (nI (lds Q i)), .ref b]) rfl (by dsimp only; rw [b2, b3]; try rfl) rfl ?_
                      refine mm_cV (Y1 := YX3_valueOf) dX3_told_94 lX3_34 vX3_valueOf (mX3_valueOf d _ b hb (ldT Q) (ldl Q) (by omega) (hT0 _) (lds Q i) (ldt Q i) a2 (by omega)) hb.1 rfl rfl (by simp [Value.category]) ?_
                      exact mm_lretE dX3_told_97 rfl (by dsimp only; rw [mm_rowL_n (by decide)]) (by dsimp only; rw [mm_rowL_n (show 148 ≠ 149 by decide), mm_rowL_s, mm_rowL_row])
                · exact absurd (nI_inj (by omega) (by omega) (by dsimp only at c_37; rw [b3, b4] at c_37; exact c_37)) e2
      · have es : sel Q (h.2.1 148) s wo (k + 1) i = sel Q (h.2.1 148) s wo k (i + 1) := by simp only [sel]; rw [if_neg (fun z => e1 z.1)]
        rw [es]
        obtain ⟨g, hg⟩ := ih (i + 1) (by omega) g0
        refine ⟨g, ?_⟩
        refine mm_iload dX3_told_3 rfl ?_
        refine mm_aload_n dX3_told_5 rfl rfl ?_
        refine mm_getI dX3_told_6 fX3_31 hb.1 rfl ?_
        refine mm_icmp_ge 104 dX3_told_9 (by decide) (fun c_9 => ?_) (fun c_9 => ?_)
        · exact absurd (by dsimp only at c_9; rw [c1] at c_9; exact c_9) (nI_ge hin (by omega))
        · refine mm_aload_n dX3_told_12 rfl rfl ?_
          refine mm_getS dX3_told_13 fX3_15 hb.1 rfl hb.2.2.2.2.2.2.2.1 ?_
          refine mm_iload dX3_told_16 rfl ?_
          refine mm_iald (i) dX3_told_18 hb.2.2.1 rfl (by omega) ?_
          refine mm_iload_n dX3_told_19 rfl rfl ?_
          refine mm_icmp_ne 98 dX3_told_20 (by decide) (fun c_20 => ?_) (fun c_20 => ?_)
          · refine mm_iinc dX3_told_98 rfl rfl rfl ?_
            refine mm_goto 3 dX3_told_101 (by decide) ?_
            refine mm_lessE (ls' := [some (.ref b), some (.int (nI (16 + s))), some (.ref 148), some (.ref 149), some (.long wo), none, some (.int (nI (i + 1))), none]) ⟨rfl, rfl, rfl, rfl, rfl, ?_, trivial⟩ hg
            rw [nI_succ]; rfl
          · exact absurd (by have z := nI_inj (a := 16 + ldw Q i) (b := 16 + s) (by omega) (by omega) (by dsimp only at c_20; rw [b1] at c_20; exact c_20); omega) e1
  obtain ⟨g, hg⟩ := K3 (ldn Q) 0 (by omega) (h.2.1 149)
  refine ⟨g, ?_⟩
  refine mm_M.of [some (.ref b), some (.int (nI (16 + s))), some (.ref 148), some (.ref 149), some (.long wo), none, none, none] rfl rfl (Nat.le_of_ble_eq_true rfl) ?_
  refine mm_iconst (x := 0) dX3_told_0 (by decide) ?_
  refine mm_istore dX3_told_1 (by decide) rfl ?_
  exact mm_cast rfl rfl (by rw [mm_rowL_self]) hg
