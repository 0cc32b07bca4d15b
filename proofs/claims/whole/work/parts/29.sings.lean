/-! What the reference hears: the words' reach, tones0, sings. -/
theorem evs_wat {f w f0 : Nat → Int64} {T : Nat → Nat} {a : Nat} (hw : wat f w) : ∀ k, evs f f0 T a k = evs w f0 T a k := by
  intro k
  induction k with
  | zero => rfl
  | succ k ih =>
    simp only [evs, ih]
    split
    · rfl
    · split
      · rename_i h; rw [hw _ (by omega)]
      · rfl
theorem val_wat {f w : Nat → Int64} {T : Nat → Nat} {a e : Nat} (hw : wat f w) : val f T a e = val w T a e := by unfold val; rw [evs_wat hw]
theorem sel_wat {f w : Nat → Int64} {Q : LD} {s : Nat} {wo : Int64} (hw : wat f w) : ∀ k i, sel Q f s wo k i = sel Q w s wo k i := by
  intro k
  induction k with
  | zero => intro i; rfl
  | succ k ih => intro i; simp only [sel, val_wat hw, ih]
theorem snd_wat {f w : Nat → Int64} {Q : LD} {s : Nat} (hw : wat f w) : snd_ Q f s = snd_ Q w s := by
  have : wo_of f s = wo_of w s := by unfold wo_of; rw [hw 0 (by omega), hw 1 (by omega), hw 6 (by omega), hw 7 (by omega)]
  unfold snd_ tell
  rw [this, sel_wat hw]
/-- a MINT as told and what has happened to it: rows (note, strength, worth, tough, holder, falls, down, damp), coins, counters, blur, deaf -/
abbrev MD : Type := (Nat → Nat → Int32) × Nat × Nat × Int32 × Int32
def mr (A : MD) : Nat → Nat → Int32 := A.1
def mn (A : MD) : Nat := A.2.1
def mk (A : MD) : Nat := A.2.2.1
def mb (A : MD) : Int32 := A.2.2.2.1
def mf (A : MD) : Int32 := A.2.2.2.2
def mdOK (A : MD) : Prop := mn A ≤ 12 ∧ mk A ≤ 4 ∧ ∀ c, c < mn A → 0 < mr A 1 c ∧ 0 < mr A 3 c ∧ (0 ≤ (mr A 2 c).toInt ∧ (mr A 2 c).toInt ≤ 999)
/-- the reference's rows -/
def viewM (h : mm_H) (A : MD) : Prop := h.1 166 0 = nI (mn A) ∧ h.1 166 1 = nI (mk A) ∧ h.1 166 2 = mb A ∧ h.1 166 3 = mf A ∧ (∀ c, c < mn A → h.1 167 c = mr A 0 c ∧ h.1 168 c = mr A 1 c ∧ h.1 169 c = mr A 2 c ∧ h.1 170 c = mr A 3 c ∧ h.1 180 c = mr A 4 c ∧ h.1 181 c = mr A 5 c) ∧ ∀ c, c < mk A → h.1 171 c = mr A 6 c ∧ h.1 172 c = mr A 7 c
/-- the class's rows -/
def viewC (h : mm_H) (A : MD) : Prop := h.1 65 0 = nI (mn A) ∧ h.1 65 7 = nI (mk A) ∧ h.1 65 10 = mb A ∧ h.1 65 11 = mf A ∧ (∀ c, c < mn A → h.1 66 c = mr A 0 c ∧ h.1 67 c = mr A 1 c ∧ h.1 68 c = mr A 2 c ∧ h.1 69 c = mr A 3 c ∧ h.1 70 c = mr A 4 c ∧ h.1 71 c = mr A 5 c) ∧ ∀ c, c < mk A → h.1 72 c = mr A 6 c ∧ h.1 73 c = mr A 7 c
def sw (A : MD) (k a c : Nat) : Nat → Int64 := wds (mr A 0) (mr A 1) (mr A 2) (mr A 5) (mr A 3) (mr A 6 k) (mr A 7 k) (nI (pc a)) (sp_lm (mr A 1) (nI a) (mn A)) c
/-- what a coin sounds in a set that falls on a counter: note and strength -/
def kN (A : MD) (Q : LD) (k a c : Nat) : Int32 := snd_ Q (sw A k a c) 0
def kS (A : MD) (Q : LD) (k a c : Nat) : Int32 := snd_ Q (sw A k a c) 1
noncomputable def oL (A : MD) (Q : LD) (k a : Nat) : List Nat := ordL (kN A Q k a) (kS A Q k a) (mf A) (nI a) (mn A)
noncomputable def tL (A : MD) (Q : LD) (k a : Nat) : List TN := tonL (kN A Q k a) (kS A Q k a) (mb A) (oL A Q k a)
theorem sp_lm_c {f g : Nat → Int32} {set : Int32} : ∀ n, (∀ c, c < n → f c = g c) → sp_lm f set n = sp_lm g set n := by
  intro n
  induction n with
  | zero => intro _; rfl
  | succ i ih => intro h; simp only [sp_lm, ih (fun c hc => h c (by omega)), h i (by omega)]
theorem sp_lo_c {f g : Nat → Int32} {set : Int32} : ∀ n, (∀ c, c < n → f c = g c) → sp_lo f set n = sp_lo g set n := by
  intro n
  induction n with
  | zero => intro _; rfl
  | succ i ih =>
    intro h
    have e := ih (fun c hc => h c (by omega))
    simp only [sp_lo, e]
    cases q : sp_lo g set i with
    | none => rfl
    | some l => have := sp_lo_lt q; simp only [h i (by omega), h l (by omega)]
theorem wds_c {n1 n2 s1 s2 w1 w2 f1 f2 t1 t2 : Nat → Int32} {dn dm mn ld : Int32} {c : Nat} (a1 : n1 c = n2 c) (a2 : s1 c = s2 c) (a3 : w1 c = w2 c) (a4 : f1 c = f2 c) (a5 : t1 c = t2 c) : wds n1 s1 w1 f1 t1 dn dm mn ld c = wds n2 s2 w2 f2 t2 dn dm mn ld c := by
  funext j
  unfold wds
  rw [a1, a2, a3, a4]
  unfold sp_crack
  rw [a4, a5]
theorem ton_new {cn cs cl cc ck : Nat} {h g : mm_H} {T : List TN} {x : TN} (d1 : cs ≠ cn) (d2 : cl ≠ cn) (d3 : cc ≠ cn) (d4 : cl ≠ cs) (d5 : cc ≠ cs) (d6 : cc ≠ cl) (S : ton_st cn cs cl cc ck h g T) : ton_st cn cs cl cc ck h (mm_up (mm_up (mm_up (mm_up g.1 cn T.length x.1) cs T.length x.2.1) cl T.length x.2.2) cc ck (nI (T.length + 1)), g.2.1, g.2.2) (x :: T) := by
  obtain ⟨s1, s2, s3, s4, s5⟩ := S
  refine ⟨s1, fun c0 h1 h2 h3 h4 => ?_, fun k0 h1 => ?_, ?_, ?_⟩
  · dsimp only; rw [mm_up_n h4, mm_up_n h3, mm_up_n h2, mm_up_n h1]; exact s2 c0 h1 h2 h3 h4
  · dsimp only; rw [mm_up_k h1, mm_up_n d6, mm_up_n d5, mm_up_n d3]; exact s3 k0 h1
  · dsimp only; rw [mm_up_e]; rfl
  · dsimp only
    rw [mm_up_n d3.symm, mm_up_n d2.symm, mm_up_n d1.symm, mm_up_s, mm_up_n d5.symm, mm_up_n d4.symm, mm_up_s, mm_up_n d1, mm_up_n d6.symm, mm_up_s, mm_up_n d4, mm_up_n d2]
    exact trep_new s5
theorem ton_old {cn cs cl cc ck : Nat} {h g : mm_H} {r : List TN} {x : TN} {s ld : Int32} (d1 : cs ≠ cn) (d2 : cl ≠ cn) (d4 : cl ≠ cs) (d5 : cc ≠ cs) (d6 : cc ≠ cl) (S : ton_st cn cs cl cc ck h g (x :: r)) : ton_st cn cs cl cc ck h (mm_up (mm_up g.1 cs r.length s) cl r.length ld, g.2.1, g.2.2) ((x.1, s, ld) :: r) := by
  obtain ⟨s1, s2, s3, s4, s5⟩ := S
  refine ⟨s1, fun c0 h1 h2 h3 h4 => ?_, fun k0 h1 => ?_, ?_, ?_⟩
  · dsimp only; rw [mm_up_n h3, mm_up_n h2]; exact s2 c0 h1 h2 h3 h4
  · dsimp only; rw [mm_up_n d6, mm_up_n d5]; exact s3 k0 h1
  · dsimp only; rw [mm_up_n d6, mm_up_n d5]; exact s4
  · dsimp only
    rw [mm_up_n d2.symm, mm_up_n d1.symm, mm_up_n d4.symm, mm_up_s, mm_up_s, mm_up_n d4]
    exact trep_old s5
set_option maxRecDepth 100000 in
set_option maxHeartbeats 4000000 in
theorem mX11_tones0 (d : Nat) (h : mm_H) (h0 : mm_H) (T : List TN) (S : ton_st 199 200 201 165 49 h0 h T) (hT : T.length < 12) (c : Nat) (hc : c < 12) (key str : Nat → Int32) (e1 : h.1 197 c = key c) (e2 : h.1 198 c = str c) : ∃ g, mm_M d YX11_tones0 [.ref 165, .int (nI c)] h none g ∧ ton_st 199 200 201 165 49 h0 g (gt1 key str (h.1 166 2) T c) := by
  refine mm_EM.v (mm_EM.of [some (.ref 165), some (.int (nI c)), none, none] rfl rfl (Nat.le_of_ble_eq_true rfl) ?_)
  obtain ⟨s1, s2, s3, s4, s5⟩ := S
  have S : ton_st 199 200 201 165 49 h0 h T := ⟨s1, s2, s3, s4, s5⟩
  cases T with
  | nil =>
    refine mm_Es (fun _ _ => mm_aload_n dX11_tones0_0 rfl rfl) ?_
    refine mm_Es (fun _ _ => mm_getI dX11_tones0_1 fX11_422 sh_165 rfl) ?_
    refine mm_Es (fun _ _ => mm_iconst (x := 1) dX11_tones0_4 (by decide)) ?_
    refine mm_Es (fun _ _ => mm_isub dX11_tones0_5) ?_
    refine mm_Es (fun _ _ => mm_istore_n dX11_tones0_6 rfl (by decide) rfl) ?_
    refine mm_Es (fun _ _ => mm_iload_n dX11_tones0_7 rfl rfl) ?_
    refine mm_Eb (fun _ _ => mm_if_lt 52 dX11_tones0_8 (by decide)) (fun c_8 => ?_) (fun c_8 => ?_)
    · refine mm_Es (fun _ _ => mm_iconst (x := 0) dX11_tones0_52 (by decide)) ?_
      refine mm_Es (fun _ _ => mm_istore_n dX11_tones0_53 rfl (by decide) rfl) ?_
      refine mm_Es (fun _ _ => mm_iload_n dX11_tones0_54 rfl rfl) ?_
      refine mm_Eb (fun _ _ => mm_if_eq 102 dX11_tones0_55 (by decide)) (fun c_55 => ?_) (fun c_55 => ?_)
      · refine mm_Es (fun _ _ => mm_aload_n dX11_tones0_102 rfl rfl) ?_
        refine mm_Es (fun _ _ => mm_getS dX11_tones0_103 fX11_115 sh_165 rfl gr_165_46) ?_
        refine mm_Es (fun _ _ => mm_aload_n dX11_tones0_106 rfl rfl) ?_
        refine mm_Es (fun _ _ => mm_getI dX11_tones0_107 fX11_422 sh_165 rfl) ?_
        refine mm_Es (fun _ _ => mm_aload_n dX11_tones0_110 rfl rfl) ?_
        refine mm_Es (fun _ _ => mm_getS dX11_tones0_111 fX11_109 sh_165 rfl gr_165_44) ?_
        refine mm_Es (fun _ _ => mm_iload_n dX11_tones0_114 rfl rfl) ?_
        refine mm_Es (fun _ _ => mm_iald (c) dX11_tones0_115 sh_197 rfl (by omega)) ?_
        refine mm_Es (fun _ _ => mm_iast (0) dX11_tones0_116 sh_199 s4 (by omega)) ?_
        refine mm_Es (fun _ _ => mm_aload_n dX11_tones0_117 rfl rfl) ?_
        refine mm_Es (fun _ _ => mm_getS dX11_tones0_118 fX11_118 sh_165 rfl gr_165_47) ?_
        refine mm_Es (fun _ _ => mm_aload_n dX11_tones0_121 rfl rfl) ?_
        refine mm_Es (fun _ _ => mm_getI dX11_tones0_122 fX11_422 sh_165 rfl) ?_
        refine mm_Es (fun _ _ => mm_aload_n dX11_tones0_125 rfl rfl) ?_
        refine mm_Es (fun _ _ => mm_getS dX11_tones0_126 fX11_112 sh_165 rfl gr_165_45) ?_
        refine mm_Es (fun _ _ => mm_iload_n dX11_tones0_129 rfl rfl) ?_
        refine mm_Es (fun _ _ => mm_iald (c) dX11_tones0_130 sh_198 rfl (by omega)) ?_
        refine mm_Es (fun _ _ => mm_iast (0) dX11_tones0_131 sh_200 (by dsimp only; rw [mm_up_n (by decide)]; exact s4) (by omega)) ?_
        refine mm_Es (fun _ _ => mm_aload_n dX11_tones0_132 rfl rfl) ?_
        refine mm_Es (fun _ _ => mm_getS dX11_tones0_133 fX11_121 sh_165 rfl gr_165_48) ?_
        refine mm_Es (fun _ _ => mm_aload_n dX11_tones0_136 rfl rfl) ?_
        refine mm_Es (fun _ _ => mm_getI dX11_tones0_137 fX11_422 sh_165 rfl) ?_
        refine mm_Es (fun _ _ => mm_iload_n dX11_tones0_140 rfl rfl) ?_
        refine mm_Es (fun _ _ => mm_iast (0) dX11_tones0_141 sh_201 (by dsimp only; rw [mm_up_n (by decide), mm_up_n (by decide)]; exact s4) (by omega)) ?_
        refine mm_Es (fun _ _ => mm_aload_n dX11_tones0_142 rfl rfl) ?_
        refine mm_Es (fun _ _ => mm_dup dX11_tones0_143 rfl) ?_
        refine mm_Es (fun _ _ => mm_getI dX11_tones0_144 fX11_422 sh_165 rfl) ?_
        refine mm_Es (fun _ _ => mm_iconst (x := 1) dX11_tones0_147 (by decide)) ?_
        refine mm_Es (fun _ _ => mm_iadd dX11_tones0_148) ?_
        refine mm_Es (fun _ _ => mm_putI dX11_tones0_149 fX11_422 sh_165 rfl rfl rfl) ?_
        refine mm_Er (mm_return dX11_tones0_152 rfl) ?_
        refine ⟨rfl, ?_⟩
        have Z := ton_new (x := (key c, str c, nI c)) (by decide) (by decide) (by decide) (by decide) (by decide) (by decide) S
        refine Eq.mp (congrArg (fun q => ton_st 199 200 201 165 49 h0 q _) ?_) Z
        dsimp only
        simp only [mm_up_n (show 165 ≠ 201 by decide), mm_up_n (show 165 ≠ 200 by decide), mm_up_n (show 165 ≠ 199 by decide), mm_up_n (show 198 ≠ 199 by decide), e1, e2, s4]
        rw [nI_succ]
        rfl
      · exact absurd rfl c_55
    · exact absurd (by rw [s4]; decide) c_8
  | cons x r =>
    have x5 := (s5 r.length (by simp)).1
    have x6 := (s5 r.length (by simp)).2.1
    have x7 := (s5 r.length (by simp)).2.2
    have z0 : (x :: r).length - 1 - r.length = 0 := by simp
    rw [z0] at x5 x6 x7
    simp only [List.getD_cons_zero] at x5 x6 x7
    simp only [List.length_cons] at hT s4
    have ep : nI (r.length + 1) - 1 = nI r.length := nI_pred r.length
    by_cases hw : key c - x.1 < h.1 166 2 ∨ key c - x.1 = 0
    · have en : gt1 key str (h.1 166 2) (x :: r) c = (x.1, x.2.1 + str c, if nI c < x.2.2 then nI c else x.2.2) :: r := by simp only [gt1]; rw [if_pos hw]
      rw [en]
      refine mm_Es (fun _ _ => mm_aload_n dX11_tones0_0 rfl rfl) ?_
      refine mm_Es (fun _ _ => mm_getI dX11_tones0_1 fX11_422 sh_165 rfl) ?_
      refine mm_Es (fun _ _ => mm_iconst (x := 1) dX11_tones0_4 (by decide)) ?_
      refine mm_Es (fun _ _ => mm_isub dX11_tones0_5) ?_
      refine mm_Es (fun _ _ => mm_istore_n dX11_tones0_6 rfl (by decide) rfl) ?_
      refine mm_Es (fun _ _ => mm_cast (ls' := [some (.ref 165), some (.int (nI c)), some (.int (nI r.length)), none]) (by rw [s4, ep]; rfl) rfl rfl) ?_
      refine mm_Es (fun _ _ => mm_iload_n dX11_tones0_7 rfl rfl) ?_
      refine mm_Eb (fun _ _ => mm_if_lt 52 dX11_tones0_8 (by decide)) (fun c_8 => ?_) (fun c_8 => ?_)
      · exact absurd c_8 (nI_pos (by omega))
      · refine mm_Es (fun _ _ => mm_aload_n dX11_tones0_11 rfl rfl) ?_
        refine mm_Es (fun _ _ => mm_getS dX11_tones0_12 fX11_109 sh_165 rfl gr_165_44) ?_
        refine mm_Es (fun _ _ => mm_iload_n dX11_tones0_15 rfl rfl) ?_
        refine mm_Es (fun _ _ => mm_iald (c) dX11_tones0_16 sh_197 rfl (by omega)) ?_
        refine mm_Es (fun _ _ => mm_aload_n dX11_tones0_17 rfl rfl) ?_
        refine mm_Es (fun _ _ => mm_getS dX11_tones0_18 fX11_115 sh_165 rfl gr_165_46) ?_
        refine mm_Es (fun _ _ => mm_iload_n dX11_tones0_21 rfl rfl) ?_
        refine mm_Es (fun _ _ => mm_iald (r.length) dX11_tones0_22 sh_199 rfl (by omega)) ?_
        refine mm_Eb (fun _ _ => mm_icmp_eq 48 dX11_tones0_23 (by decide)) (fun c_23 => ?_) (fun c_23 => ?_)
        · refine mm_Es (fun _ _ => mm_iconst (x := 1) dX11_tones0_48 (by decide)) ?_
          refine mm_Es (fun _ _ => mm_goto 53 dX11_tones0_49 (by decide)) ?_
          refine mm_Es (fun _ _ => mm_istore_n dX11_tones0_53 rfl (by decide) rfl) ?_
          refine mm_Es (fun _ _ => mm_iload_n dX11_tones0_54 rfl rfl) ?_
          refine mm_Eb (fun _ _ => mm_if_eq 102 dX11_tones0_55 (by decide)) (fun c_55 => ?_) (fun c_55 => ?_)
          · exact absurd c_55 (by decide)
          · refine mm_Es (fun _ _ => mm_aload_n dX11_tones0_58 rfl rfl) ?_
            refine mm_Es (fun _ _ => mm_getS dX11_tones0_59 fX11_118 sh_165 rfl gr_165_47) ?_
            refine mm_Es (fun _ _ => mm_iload_n dX11_tones0_62 rfl rfl) ?_
            refine mm_Es (fun _ _ => mm_dup2 dX11_tones0_63 rfl rfl) ?_
            refine mm_Es (fun _ _ => mm_iald (r.length) dX11_tones0_64 sh_200 rfl (by omega)) ?_
            refine mm_Es (fun _ _ => mm_aload_n dX11_tones0_65 rfl rfl) ?_
            refine mm_Es (fun _ _ => mm_getS dX11_tones0_66 fX11_112 sh_165 rfl gr_165_45) ?_
            refine mm_Es (fun _ _ => mm_iload_n dX11_tones0_69 rfl rfl) ?_
            refine mm_Es (fun _ _ => mm_iald (c) dX11_tones0_70 sh_198 rfl (by omega)) ?_
            refine mm_Es (fun _ _ => mm_iadd dX11_tones0_71) ?_
            refine mm_Es (fun _ _ => mm_iast (r.length) dX11_tones0_72 sh_200 rfl (by omega)) ?_
            refine mm_Es (fun _ _ => mm_aload_n dX11_tones0_73 rfl rfl) ?_
            refine mm_Es (fun _ _ => mm_getS dX11_tones0_74 fX11_121 sh_165 rfl gr_165_48) ?_
            refine mm_Es (fun _ _ => mm_iload_n dX11_tones0_77 rfl rfl) ?_
            refine mm_Es (fun _ _ => mm_iload_n dX11_tones0_78 rfl rfl) ?_
            refine mm_Es (fun _ _ => mm_aload_n dX11_tones0_79 rfl rfl) ?_
            refine mm_Es (fun _ _ => mm_getS dX11_tones0_80 fX11_121 sh_165 rfl gr_165_48) ?_
            refine mm_Es (fun _ _ => mm_iload_n dX11_tones0_83 rfl rfl) ?_
            refine mm_Es (fun _ _ => mm_iald (r.length) dX11_tones0_84 sh_201 rfl (by omega)) ?_
            refine mm_Eb (fun _ _ => mm_icmp_ge 92 dX11_tones0_85 (by decide)) (fun c_85 => ?_) (fun c_85 => ?_)
            · refine mm_Es (fun _ _ => mm_aload_n dX11_tones0_92 rfl rfl) ?_
              refine mm_Es (fun _ _ => mm_getS dX11_tones0_93 fX11_121 sh_165 rfl gr_165_48) ?_
              refine mm_Es (fun _ _ => mm_iload_n dX11_tones0_96 rfl rfl) ?_
              refine mm_Es (fun _ _ => mm_iald (r.length) dX11_tones0_97 sh_201 rfl (by omega)) ?_
              refine mm_Es (fun _ _ => mm_iast (r.length) dX11_tones0_98 sh_201 rfl (by omega)) ?_
              refine mm_Es (fun _ _ => mm_goto 152 dX11_tones0_99 (by decide)) ?_
              refine mm_Er (mm_return dX11_tones0_152 rfl) ?_
              refine ⟨rfl, ?_⟩
              have Z := ton_old (s := x.2.1 + str c) (ld := if nI c < x.2.2 then nI c else x.2.2) (by decide) (by decide) (by decide) (by decide) (by decide) S
              refine Eq.mp (congrArg (fun q => ton_st 199 200 201 165 49 h0 q _) ?_) Z
              dsimp only
              simp only [mm_up_n (show 201 ≠ 200 by decide), mm_up_n (show 198 ≠ 200 by decide), x6, e2, x7] at c_85 ⊢
              first | rw [if_pos (Int32.not_le.mp c_85)] | rw [if_neg (Int32.not_lt.mpr c_85)]
            · refine mm_Es (fun _ _ => mm_iload_n dX11_tones0_88 rfl rfl) ?_
              refine mm_Es (fun _ _ => mm_goto 98 dX11_tones0_89 (by decide)) ?_
              refine mm_Es (fun _ _ => mm_iast (r.length) dX11_tones0_98 sh_201 rfl (by omega)) ?_
              refine mm_Es (fun _ _ => mm_goto 152 dX11_tones0_99 (by decide)) ?_
              refine mm_Er (mm_return dX11_tones0_152 rfl) ?_
              refine ⟨rfl, ?_⟩
              have Z := ton_old (s := x.2.1 + str c) (ld := if nI c < x.2.2 then nI c else x.2.2) (by decide) (by decide) (by decide) (by decide) (by decide) S
              refine Eq.mp (congrArg (fun q => ton_st 199 200 201 165 49 h0 q _) ?_) Z
              dsimp only
              simp only [mm_up_n (show 201 ≠ 200 by decide), mm_up_n (show 198 ≠ 200 by decide), x6, e2, x7] at c_85 ⊢
              first | rw [if_pos (Int32.not_le.mp c_85)] | rw [if_neg (Int32.not_lt.mpr c_85)]
        · refine mm_Es (fun _ _ => mm_aload_n dX11_tones0_26 rfl rfl) ?_
          refine mm_Es (fun _ _ => mm_getS dX11_tones0_27 fX11_109 sh_165 rfl gr_165_44) ?_
          refine mm_Es (fun _ _ => mm_iload_n dX11_tones0_30 rfl rfl) ?_
          refine mm_Es (fun _ _ => mm_iald (c) dX11_tones0_31 sh_197 rfl (by omega)) ?_
          refine mm_Es (fun _ _ => mm_aload_n dX11_tones0_32 rfl rfl) ?_
          refine mm_Es (fun _ _ => mm_getS dX11_tones0_33 fX11_115 sh_165 rfl gr_165_46) ?_
          refine mm_Es (fun _ _ => mm_iload_n dX11_tones0_36 rfl rfl) ?_
          refine mm_Es (fun _ _ => mm_iald (r.length) dX11_tones0_37 sh_199 rfl (by omega)) ?_
          refine mm_Es (fun _ _ => mm_isub dX11_tones0_38) ?_
          refine mm_Es (fun _ _ => mm_aload_n dX11_tones0_39 rfl rfl) ?_
          refine mm_Es (fun _ _ => mm_getS dX11_tones0_40 fX11_9 sh_165 rfl gr_165_1) ?_
          refine mm_Es (fun _ _ => mm_iconst (x := 2) dX11_tones0_43 (by decide)) ?_
          refine mm_Es (fun _ _ => mm_iald (2) dX11_tones0_44 sh_166 rfl (by decide)) ?_
          refine mm_Eb (fun _ _ => mm_icmp_ge 52 dX11_tones0_45 (by decide)) (fun c_45 => ?_) (fun c_45 => ?_)
          · exact absurd hw (fun z => z.elim (fun q => (Int32.not_lt.mpr (by rw [e1, x5] at c_45; exact c_45)) q) (fun q => c_23 (by rw [e1, x5]; exact sub0.mp q)))
          · refine mm_Es (fun _ _ => mm_iconst (x := 1) dX11_tones0_48 (by decide)) ?_
            refine mm_Es (fun _ _ => mm_goto 53 dX11_tones0_49 (by decide)) ?_
            refine mm_Es (fun _ _ => mm_istore_n dX11_tones0_53 rfl (by decide) rfl) ?_
            refine mm_Es (fun _ _ => mm_iload_n dX11_tones0_54 rfl rfl) ?_
            refine mm_Eb (fun _ _ => mm_if_eq 102 dX11_tones0_55 (by decide)) (fun c_55 => ?_) (fun c_55 => ?_)
            · exact absurd c_55 (by decide)
            · refine mm_Es (fun _ _ => mm_aload_n dX11_tones0_58 rfl rfl) ?_
              refine mm_Es (fun _ _ => mm_getS dX11_tones0_59 fX11_118 sh_165 rfl gr_165_47) ?_
              refine mm_Es (fun _ _ => mm_iload_n dX11_tones0_62 rfl rfl) ?_
              refine mm_Es (fun _ _ => mm_dup2 dX11_tones0_63 rfl rfl) ?_
              refine mm_Es (fun _ _ => mm_iald (r.length) dX11_tones0_64 sh_200 rfl (by omega)) ?_
              refine mm_Es (fun _ _ => mm_aload_n dX11_tones0_65 rfl rfl) ?_
              refine mm_Es (fun _ _ => mm_getS dX11_tones0_66 fX11_112 sh_165 rfl gr_165_45) ?_
              refine mm_Es (fun _ _ => mm_iload_n dX11_tones0_69 rfl rfl) ?_
              refine mm_Es (fun _ _ => mm_iald (c) dX11_tones0_70 sh_198 rfl (by omega)) ?_
              refine mm_Es (fun _ _ => mm_iadd dX11_tones0_71) ?_
              refine mm_Es (fun _ _ => mm_iast (r.length) dX11_tones0_72 sh_200 rfl (by omega)) ?_
              refine mm_Es (fun _ _ => mm_aload_n dX11_tones0_73 rfl rfl) ?_
              refine mm_Es (fun _ _ => mm_getS dX11_tones0_74 fX11_121 sh_165 rfl gr_165_48) ?_
              refine mm_Es (fun _ _ => mm_iload_n dX11_tones0_77 rfl rfl) ?_
              refine mm_Es (fun _ _ => mm_iload_n dX11_tones0_78 rfl rfl) ?_
              refine mm_Es (fun _ _ => mm_aload_n dX11_tones0_79 rfl rfl) ?_
              refine mm_Es (fun _ _ => mm_getS dX11_tones0_80 fX11_121 sh_165 rfl gr_165_48) ?_
              refine mm_Es (fun _ _ => mm_iload_n dX11_tones0_83 rfl rfl) ?_
              refine mm_Es (fun _ _ => mm_iald (r.length) dX11_tones0_84 sh_201 rfl (by omega)) ?_
              refine mm_Eb (fun _ _ => mm_icmp_ge 92 dX11_tones0_85 (by decide)) (fun c_85 => ?_) (fun c_85 => ?_)
              · refine mm_Es (fun _ _ => mm_aload_n dX11_tones0_92 rfl rfl) ?_
                refine mm_Es (fun _ _ => mm_getS dX11_tones0_93 fX11_121 sh_165 rfl gr_165_48) ?_
                refine mm_Es (fun _ _ => mm_iload_n dX11_tones0_96 rfl rfl) ?_
                refine mm_Es (fun _ _ => mm_iald (r.length) dX11_tones0_97 sh_201 rfl (by omega)) ?_
                refine mm_Es (fun _ _ => mm_iast (r.length) dX11_tones0_98 sh_201 rfl (by omega)) ?_
                refine mm_Es (fun _ _ => mm_goto 152 dX11_tones0_99 (by decide)) ?_
                refine mm_Er (mm_return dX11_tones0_152 rfl) ?_
                refine ⟨rfl, ?_⟩
                have Z := ton_old (s := x.2.1 + str c) (ld := if nI c < x.2.2 then nI c else x.2.2) (by decide) (by decide) (by decide) (by decide) (by decide) S
                refine Eq.mp (congrArg (fun q => ton_st 199 200 201 165 49 h0 q _) ?_) Z
                dsimp only
                simp only [mm_up_n (show 201 ≠ 200 by decide), mm_up_n (show 198 ≠ 200 by decide), x6, e2, x7] at c_85 ⊢
                first | rw [if_pos (Int32.not_le.mp c_85)] | rw [if_neg (Int32.not_lt.mpr c_85)]
              · refine mm_Es (fun _ _ => mm_iload_n dX11_tones0_88 rfl rfl) ?_
                refine mm_Es (fun _ _ => mm_goto 98 dX11_tones0_89 (by decide)) ?_
                refine mm_Es (fun _ _ => mm_iast (r.length) dX11_tones0_98 sh_201 rfl (by omega)) ?_
                refine mm_Es (fun _ _ => mm_goto 152 dX11_tones0_99 (by decide)) ?_
                refine mm_Er (mm_return dX11_tones0_152 rfl) ?_
                refine ⟨rfl, ?_⟩
                have Z := ton_old (s := x.2.1 + str c) (ld := if nI c < x.2.2 then nI c else x.2.2) (by decide) (by decide) (by decide) (by decide) (by decide) S
                refine Eq.mp (congrArg (fun q => ton_st 199 200 201 165 49 h0 q _) ?_) Z
                dsimp only
                simp only [mm_up_n (show 201 ≠ 200 by decide), mm_up_n (show 198 ≠ 200 by decide), x6, e2, x7] at c_85 ⊢
                first | rw [if_pos (Int32.not_le.mp c_85)] | rw [if_neg (Int32.not_lt.mpr c_85)]
    · have en : gt1 key str (h.1 166 2) (x :: r) c = (key c, str c, nI c) :: x :: r := by simp only [gt1]; rw [if_neg hw]
      rw [en]
      refine mm_Es (fun _ _ => mm_aload_n dX11_tones0_0 rfl rfl) ?_
      refine mm_Es (fun _ _ => mm_getI dX11_tones0_1 fX11_422 sh_165 rfl) ?_
      refine mm_Es (fun _ _ => mm_iconst (x := 1) dX11_tones0_4 (by decide)) ?_
      refine mm_Es (fun _ _ => mm_isub dX11_tones0_5) ?_
      refine mm_Es (fun _ _ => mm_istore_n dX11_tones0_6 rfl (by decide) rfl) ?_
      refine mm_Es (fun _ _ => mm_cast (ls' := [some (.ref 165), some (.int (nI c)), some (.int (nI r.length)), none]) (by rw [s4, ep]; rfl) rfl rfl) ?_
      refine mm_Es (fun _ _ => mm_iload_n dX11_tones0_7 rfl rfl) ?_
      refine mm_Eb (fun _ _ => mm_if_lt 52 dX11_tones0_8 (by decide)) (fun c_8 => ?_) (fun c_8 => ?_)
      · exact absurd c_8 (nI_pos (by omega))
      · refine mm_Es (fun _ _ => mm_aload_n dX11_tones0_11 rfl rfl) ?_
        refine mm_Es (fun _ _ => mm_getS dX11_tones0_12 fX11_109 sh_165 rfl gr_165_44) ?_
        refine mm_Es (fun _ _ => mm_iload_n dX11_tones0_15 rfl rfl) ?_
        refine mm_Es (fun _ _ => mm_iald (c) dX11_tones0_16 sh_197 rfl (by omega)) ?_
        refine mm_Es (fun _ _ => mm_aload_n dX11_tones0_17 rfl rfl) ?_
        refine mm_Es (fun _ _ => mm_getS dX11_tones0_18 fX11_115 sh_165 rfl gr_165_46) ?_
        refine mm_Es (fun _ _ => mm_iload_n dX11_tones0_21 rfl rfl) ?_
        refine mm_Es (fun _ _ => mm_iald (r.length) dX11_tones0_22 sh_199 rfl (by omega)) ?_
        refine mm_Eb (fun _ _ => mm_icmp_eq 48 dX11_tones0_23 (by decide)) (fun c_23 => ?_) (fun c_23 => ?_)
        · exact absurd (Or.inr (sub0.mpr (by rw [e1, x5] at c_23; exact c_23))) hw
        · refine mm_Es (fun _ _ => mm_aload_n dX11_tones0_26 rfl rfl) ?_
          refine mm_Es (fun _ _ => mm_getS dX11_tones0_27 fX11_109 sh_165 rfl gr_165_44) ?_
          refine mm_Es (fun _ _ => mm_iload_n dX11_tones0_30 rfl rfl) ?_
          refine mm_Es (fun _ _ => mm_iald (c) dX11_tones0_31 sh_197 rfl (by omega)) ?_
          refine mm_Es (fun _ _ => mm_aload_n dX11_tones0_32 rfl rfl) ?_
          refine mm_Es (fun _ _ => mm_getS dX11_tones0_33 fX11_115 sh_165 rfl gr_165_46) ?_
          refine mm_Es (fun _ _ => mm_iload_n dX11_tones0_36 rfl rfl) ?_
          refine mm_Es (fun _ _ => mm_iald (r.length) dX11_tones0_37 sh_199 rfl (by omega)) ?_
          refine mm_Es (fun _ _ => mm_isub dX11_tones0_38) ?_
          refine mm_Es (fun _ _ => mm_aload_n dX11_tones0_39 rfl rfl) ?_
          refine mm_Es (fun _ _ => mm_getS dX11_tones0_40 fX11_9 sh_165 rfl gr_165_1) ?_
          refine mm_Es (fun _ _ => mm_iconst (x := 2) dX11_tones0_43 (by decide)) ?_
          refine mm_Es (fun _ _ => mm_iald (2) dX11_tones0_44 sh_166 rfl (by decide)) ?_
          refine mm_Eb (fun _ _ => mm_icmp_ge 52 dX11_tones0_45 (by decide)) (fun c_45 => ?_) (fun c_45 => ?_)
          · refine mm_Es (fun _ _ => mm_iconst (x := 0) dX11_tones0_52 (by decide)) ?_
            refine mm_Es (fun _ _ => mm_istore_n dX11_tones0_53 rfl (by decide) rfl) ?_
            refine mm_Es (fun _ _ => mm_iload_n dX11_tones0_54 rfl rfl) ?_
            refine mm_Eb (fun _ _ => mm_if_eq 102 dX11_tones0_55 (by decide)) (fun c_55 => ?_) (fun c_55 => ?_)
            · refine mm_Es (fun _ _ => mm_aload_n dX11_tones0_102 rfl rfl) ?_
              refine mm_Es (fun _ _ => mm_getS dX11_tones0_103 fX11_115 sh_165 rfl gr_165_46) ?_
              refine mm_Es (fun _ _ => mm_aload_n dX11_tones0_106 rfl rfl) ?_
              refine mm_Es (fun _ _ => mm_getI dX11_tones0_107 fX11_422 sh_165 rfl) ?_
              refine mm_Es (fun _ _ => mm_aload_n dX11_tones0_110 rfl rfl) ?_
              refine mm_Es (fun _ _ => mm_getS dX11_tones0_111 fX11_109 sh_165 rfl gr_165_44) ?_
              refine mm_Es (fun _ _ => mm_iload_n dX11_tones0_114 rfl rfl) ?_
              refine mm_Es (fun _ _ => mm_iald (c) dX11_tones0_115 sh_197 rfl (by omega)) ?_
              refine mm_Es (fun _ _ => mm_iast (r.length + 1) dX11_tones0_116 sh_199 s4 (by omega)) ?_
              refine mm_Es (fun _ _ => mm_aload_n dX11_tones0_117 rfl rfl) ?_
              refine mm_Es (fun _ _ => mm_getS dX11_tones0_118 fX11_118 sh_165 rfl gr_165_47) ?_
              refine mm_Es (fun _ _ => mm_aload_n dX11_tones0_121 rfl rfl) ?_
              refine mm_Es (fun _ _ => mm_getI dX11_tones0_122 fX11_422 sh_165 rfl) ?_
              refine mm_Es (fun _ _ => mm_aload_n dX11_tones0_125 rfl rfl) ?_
              refine mm_Es (fun _ _ => mm_getS dX11_tones0_126 fX11_112 sh_165 rfl gr_165_45) ?_
              refine mm_Es (fun _ _ => mm_iload_n dX11_tones0_129 rfl rfl) ?_
              refine mm_Es (fun _ _ => mm_iald (c) dX11_tones0_130 sh_198 rfl (by omega)) ?_
              refine mm_Es (fun _ _ => mm_iast (r.length + 1) dX11_tones0_131 sh_200 (by dsimp only; rw [mm_up_n (by decide)]; exact s4) (by omega)) ?_
              refine mm_Es (fun _ _ => mm_aload_n dX11_tones0_132 rfl rfl) ?_
              refine mm_Es (fun _ _ => mm_getS dX11_tones0_133 fX11_121 sh_165 rfl gr_165_48) ?_
              refine mm_Es (fun _ _ => mm_aload_n dX11_tones0_136 rfl rfl) ?_
              refine mm_Es (fun _ _ => mm_getI dX11_tones0_137 fX11_422 sh_165 rfl) ?_
              refine mm_Es (fun _ _ => mm_iload_n dX11_tones0_140 rfl rfl) ?_
              refine mm_Es (fun _ _ => mm_iast (r.length + 1) dX11_tones0_141 sh_201 (by dsimp only; rw [mm_up_n (by decide), mm_up_n (by decide)]; exact s4) (by omega)) ?_
              refine mm_Es (fun _ _ => mm_aload_n dX11_tones0_142 rfl rfl) ?_
              refine mm_Es (fun _ _ => mm_dup dX11_tones0_143 rfl) ?_
              refine mm_Es (fun _ _ => mm_getI dX11_tones0_144 fX11_422 sh_165 rfl) ?_
              refine mm_Es (fun _ _ => mm_iconst (x := 1) dX11_tones0_147 (by decide)) ?_
              refine mm_Es (fun _ _ => mm_iadd dX11_tones0_148) ?_
              refine mm_Es (fun _ _ => mm_putI dX11_tones0_149 fX11_422 sh_165 rfl rfl rfl) ?_
              refine mm_Er (mm_return dX11_tones0_152 rfl) ?_
              refine ⟨rfl, ?_⟩
              have Z := ton_new (x := (key c, str c, nI c)) (by decide) (by decide) (by decide) (by decide) (by decide) (by decide) S
              refine Eq.mp (congrArg (fun q => ton_st 199 200 201 165 49 h0 q _) ?_) Z
              dsimp only
              simp only [mm_up_n (show 165 ≠ 201 by decide), mm_up_n (show 165 ≠ 200 by decide), mm_up_n (show 165 ≠ 199 by decide), mm_up_n (show 198 ≠ 199 by decide), e1, e2, s4]
              rw [nI_succ]
              rfl
            · exact absurd rfl c_55
          · exact absurd (Or.inl (by rw [e1, x5] at c_45; exact Int32.not_le.mp c_45)) hw
def pS : Nat → Bool := rg 194 198
/-- after the first coins: their sounds, and the order of those that can be heard -/
def sing_st (A : MD) (Q : LD) (k a : Nat) (h g : mm_H) (i : Nat) : Prop := frm pS h g ∧ rrep (g.1 196) (ordL (kN A Q k a) (kS A Q k a) (mf A) (nI a) i) ∧ ∀ j, j < i → sp_bit (nI a) j = 1 → g.1 197 j = kN A Q k a j ∧ g.1 198 j = kS A Q k a j
theorem lawM_c {I J : Nat → Nat → Int32} {r : Nat} {Q : LD} (h : lawM I r Q) (e : ∀ c, 186 ≤ c → c ≤ 192 → J c = I c) : lawM J r Q := by
  unfold lawM at *
  rw [e 186 (by omega) (by omega), e 187 (by omega) (by omega), e 188 (by omega) (by omega), e 189 (by omega) (by omega), e 190 (by omega) (by omega), e 191 (by omega) (by omega), e 192 (by omega) (by omega)]
  exact h
theorem lawM_f {p : Nat → Bool} {h g : mm_H} {r : Nat} {Q : LD} (hm : lawM h.1 r Q) (e : frm p h g) (hp : ∀ c, 186 ≤ c → c ≤ 192 → p c = false) : lawM g.1 r Q := lawM_c hm (fun c h1 h2 => e.i (hp c h1 h2))
theorem viewM_f {p : Nat → Bool} {h g : mm_H} {A : MD} (hV : viewM h A) (e : frm p h g) (hp : ∀ c, (166 ≤ c ∧ c ≤ 172) ∨ c = 180 ∨ c = 181 → p c = false) : viewM g A := by
  unfold viewM at *
  rw [e.i (hp 166 (by omega)), e.i (hp 167 (by omega)), e.i (hp 168 (by omega)), e.i (hp 169 (by omega)), e.i (hp 170 (by omega)), e.i (hp 171 (by omega)), e.i (hp 172 (by omega)), e.i (hp 180 (by omega)), e.i (hp 181 (by omega))]
  exact hV
theorem viewC_f {p : Nat → Bool} {h g : mm_H} {A : MD} (hV : viewC h A) (e : frm p h g) (hp : ∀ c, 65 ≤ c ∧ c ≤ 73 → p c = false) : viewC g A := by
  unfold viewC at *
  rw [e.i (hp 65 (by omega)), e.i (hp 66 (by omega)), e.i (hp 67 (by omega)), e.i (hp 68 (by omega)), e.i (hp 69 (by omega)), e.i (hp 70 (by omega)), e.i (hp 71 (by omega)), e.i (hp 72 (by omega)), e.i (hp 73 (by omega))]
  exact hV
theorem rg_f {a b c : Nat} (h : ¬ (a ≤ c ∧ c ≤ b)) : rg a b c = false := by simp only [rg]; exact decide_eq_false h
theorem rg_t {a b c : Nat} (h : a ≤ c ∧ c ≤ b) : rg a b c = true := by simp only [rg]; exact decide_eq_true h
theorem le_pos {x : Int32} (h : 0 < x) : ¬ x ≤ 0 := by rw [Int32.not_le]; exact h
/-- the words that the reference asks with are the coin's -/
theorem asks_w {h : mm_H} {A : MD} (hV : viewM h A) {k a c : Nat} (hk : k < mk A) (hc : c < mn A) : wds (h.1 167) (h.1 168) (h.1 169) (h.1 181) (h.1 170) (h.1 171 k) (h.1 172 k) (nI (pc a)) (sp_lm (h.1 168) (nI a) (mn A)) c = sw A k a c := by
  obtain ⟨-, -, -, -, v5, v6⟩ := hV
  obtain ⟨w1, w2, w3, w4, -, w6⟩ := v5 c hc
  rw [(v6 k hk).1, (v6 k hk).2, sp_lm_c (mn A) (fun j hj => (v5 j hj).2.1)]
  exact wds_c w1 w2 w3 w6 w4
set_option maxRecDepth 100000 in
set_option maxHeartbeats 4000000 in
theorem sings_1 (d : Nat) (h : mm_H) (A : MD) (hA : mdOK A) (hV : viewM h A) (Q : LD) (r : Nat) (hr : r < 6) (hQ : lawOK Q) (hM : lawM h.1 r Q) (k : Nat) (hk : k < mk A) (a : Nat) (ha : a < 4096) : ∀ m i, i + m = mn A → ∀ g, sing_st A Q k a h g i → mm_E (d + 6) YX11_sings 6 [some (.ref 165), some (.int (nI r)), some (.int (nI k)), some (.int (nI a)), some (.int (nI (ordL (kN A Q k a) (kS A Q k a) (mf A) (nI a) i).length)), some (.int (nI i)), none] [] g (fun v g' => v = none ∧ ∃ g1, sing_st A Q k a h g1 (mn A) ∧ ton_st 199 200 201 165 49 g1 g' (tL A Q k a)) := by
  intro m
  induction m with
  | zero =>
    intro i hi g S
    have hi : i = mn A := by omega
    subst hi
    obtain ⟨fS, s2, s3⟩ := S
    have S : sing_st A Q k a h g (mn A) := ⟨fS, s2, s3⟩
    have hVg := viewM_f hV fS (fun c hc => rg_f (by omega))
    have hol := ordL_len (key := kN A Q k a) (str := kS A Q k a) (deaf := mf A) (set := nI a) (mn A)
    have h12 := hA.1
    have K165 : ∀ m i, i + m = (oL A Q k a).length → ∀ g2, ton_st 199 200 201 165 49 g g2 (tonL (kN A Q k a) (kS A Q k a) (mb A) ((oL A Q k a).take i)) → mm_E (d + 6) YX11_sings 165 [some (.ref 165), some (.int (nI r)), some (.int (nI k)), some (.int (nI a)), some (.int (nI (oL A Q k a).length)), some (.int (nI i)), none] [] g2 (fun v g' => v = none ∧ ton_st 199 200 201 165 49 g g' (tL A Q k a)) := by
      intro m
      induction m with
      | zero =>
        intro i hi g2 S2
        have hi : i = (oL A Q k a).length := by omega
        subst hi
        rw [List.take_length] at S2
        refine mm_Es (fun _ _ => mm_iload dX11_sings_165 rfl) ?_
        refine mm_Es (fun _ _ => mm_iload dX11_sings_167 rfl) ?_
        refine mm_Eb (fun _ _ => mm_icmp_ge 189 dX11_sings_169 (by decide)) (fun c_169 => ?_) (fun c_169 => ?_)
        · refine mm_Er (mm_return dX11_sings_189 rfl) ?_
          exact ⟨rfl, S2⟩
        · exact absurd (Int32.le_refl _) c_169
      | succ m ih =>
        intro i hi g2 S2
        have hin : i < (oL A Q k a).length := by omega
        have hcm := ordL_mem (mn A) _ (getD_mem (show i < (ordL (kN A Q k a) (kS A Q k a) (mf A) (nI a) (mn A)).length from hin))
        obtain ⟨c, hc⟩ : ∃ c, c = (oL A Q k a).getD i 0 := ⟨_, rfl⟩
        have hcm : c < mn A ∧ sp_bit (nI a) c = 1 := by rw [hc]; exact ⟨hcm.1, hcm.2.1⟩
        have hle := tonL_len (kN A Q k a) (kS A Q k a) (mb A) ((oL A Q k a).take i)
        rw [List.length_take] at hle
        have hol2 : (oL A Q k a).length ≤ mn A := hol
        have e197 := (s3 c hcm.1 hcm.2).1
        have e198 := (s3 c hcm.1 hcm.2).2
        have e3 : g2.1 166 2 = mb A := by rw [S2.2.1 166 (by decide) (by decide) (by decide) (by decide)]; exact hVg.2.2.1
        have e196 : g2.1 196 i = nI c := by rw [S2.2.1 196 (by decide) (by decide) (by decide) (by decide), hc]; exact s2 i hin
        obtain ⟨g3, M3, S3⟩ := mX11_tones0 (d + 5) g2 g _ S2 (by omega) c (by omega) (kN A Q k a) (kS A Q k a) (by rw [S2.2.1 197 (by decide) (by decide) (by decide) (by decide)]; exact e197) (by rw [S2.2.1 198 (by decide) (by decide) (by decide) (by decide)]; exact e198)
        rw [e3, hc, ← tonL_s _ _ _ hin] at S3
        have K := ih (i + 1) (by omega) g3 S3
        refine mm_Es (fun _ _ => mm_iload dX11_sings_165 rfl) ?_
        refine mm_Es (fun _ _ => mm_iload dX11_sings_167 rfl) ?_
        refine mm_Eb (fun _ _ => mm_icmp_ge 189 dX11_sings_169 (by decide)) (fun c_169 => ?_) (fun c_169 => ?_)
        · exact absurd c_169 (nI_ge hin (by omega))
        · refine mm_Es (fun _ _ => mm_aload_n dX11_sings_172 rfl rfl) ?_
          refine mm_Es (fun _ _ => mm_aload_n dX11_sings_173 rfl rfl) ?_
          refine mm_Es (fun _ _ => mm_getS dX11_sings_174 fX11_106 sh_165 rfl gr_165_43) ?_
          refine mm_Es (fun _ _ => mm_iload dX11_sings_177 rfl) ?_
          refine mm_Es (fun _ _ => mm_iald (i) dX11_sings_179 sh_196 rfl (by omega)) ?_
          refine mm_Es (fun _ _ => mm_cast (st' := [.int (nI c), .ref 165]) rfl (by rw [e196]) rfl) ?_
          refine mm_Es (fun _ _ => mm_cV (Y1 := YX11_tones0) dX11_sings_180 lX11_425 vX11_tones0 (M3) sh_165 rfl rfl (by simp [Value.category])) ?_
          refine mm_Es (fun _ _ => mm_iinc dX11_sings_183 rfl rfl rfl) ?_
          refine mm_Es (fun _ _ => mm_goto 165 dX11_sings_186 (by decide)) ?_
          exact mm_Es (fun _ _ => mm_cast (by rw [nI_succ]; rfl) rfl rfl) K
    have S0 : ton_st 199 200 201 165 49 g (mm_up g.1 165 49 0, g.2.1, g.2.2) (tonL (kN A Q k a) (kS A Q k a) (mb A) ((oL A Q k a).take 0)) := by
      refine ⟨rfl, fun c h1 h2 h3 h4 => ?_, fun k hk0 => ?_, ?_, fun k hk0 => ?_⟩
      · dsimp only; rw [mm_up_n h4]
      · dsimp only; rw [mm_up_k hk0]
      · dsimp only; rw [mm_up_e]; rfl
      · simp [tonL] at hk0
    have K := (K165 (oL A Q k a).length 0 (by omega) _ S0).imp (Q := fun v g' => v = none ∧ ∃ g1, sing_st A Q k a h g1 (mn A) ∧ ton_st 199 200 201 165 49 g1 g' (tL A Q k a)) (fun v g' z => ⟨z.1, g, S, z.2⟩)
    refine mm_Es (fun _ _ => mm_iload dX11_sings_6 rfl) ?_
    refine mm_Es (fun _ _ => mm_aload_n dX11_sings_8 rfl rfl) ?_
    refine mm_Es (fun _ _ => mm_getS dX11_sings_9 fX11_9 sh_165 rfl gr_165_1) ?_
    refine mm_Es (fun _ _ => mm_iconst (x := 0) dX11_sings_12 (by decide)) ?_
    refine mm_Es (fun _ _ => mm_iald (0) dX11_sings_13 sh_166 rfl (by decide)) ?_
    refine mm_Eb (fun _ _ => mm_icmp_ge 157 dX11_sings_14 (by decide)) (fun c_14 => ?_) (fun c_14 => ?_)
    · refine mm_Es (fun _ _ => mm_aload_n dX11_sings_157 rfl rfl) ?_
      refine mm_Es (fun _ _ => mm_iconst (x := 0) dX11_sings_158 (by decide)) ?_
      refine mm_Es (fun _ _ => mm_putI dX11_sings_159 fX11_422 sh_165 rfl rfl rfl) ?_
      refine mm_Es (fun _ _ => mm_iconst (x := 0) dX11_sings_162 (by decide)) ?_
      refine mm_Es (fun _ _ => mm_istore dX11_sings_163 (by decide) rfl) ?_
      exact K
    · exact absurd (by rw [hVg.1]; exact Int32.le_refl _) c_14
  | succ m ih =>
    intro i hi g S
    have hin : i < mn A := by omega
    have h12 := hA.1
    have hk4 := hA.2.1
    obtain ⟨fS, s2, s3⟩ := S
    have hVg := viewM_f hV fS (fun c hc => rg_f (by omega))
    have hMg := lawM_f hM fS (fun c h1 h2 => rg_f (by omega))
    have hol := ordL_len (key := kN A Q k a) (str := kS A Q k a) (deaf := mf A) (set := nI a) i
    have K151 : ∀ g2, sing_st A Q k a h g2 (i + 1) → ∀ x6, mm_E (d + 6) YX11_sings 151 [some (.ref 165), some (.int (nI r)), some (.int (nI k)), some (.int (nI a)), some (.int (nI (ordL (kN A Q k a) (kS A Q k a) (mf A) (nI a) (i + 1)).length)), some (.int (nI i)), x6] [] g2 (fun v g' => v = none ∧ ∃ g1, sing_st A Q k a h g1 (mn A) ∧ ton_st 199 200 201 165 49 g1 g' (tL A Q k a)) := by
      intro g2 S2 x6
      have K := ih (i + 1) (by omega) g2 S2
      refine mm_Es (fun _ _ => mm_iinc dX11_sings_151 rfl rfl rfl) ?_
      refine mm_Es (fun _ _ => mm_goto 6 dX11_sings_154 (by decide)) ?_
      refine mm_El ?_ K
      exact ⟨rfl, rfl, rfl, rfl, rfl, by rw [nI_succ]; rfl, trivial⟩
    by_cases hb : sp_bit (nI a) i = 1
    · have ht := le_pos (hA.2.2 i hin).2.1
      obtain ⟨w, M1, W1⟩ := mX11_asks (d + 3) g (mn A) hVg.1 h12 k a i (by omega) ha (by omega) (by rw [(hVg.2.2.2.2.1 i hin).2.2.2.1]; exact ht)
      rw [asks_w hVg hk hin] at W1
      obtain ⟨w2, M2⟩ := mX11_noteNow (d + 1) (g.1, mm_rowL g.2.1 194 w, g.2.2) Q r hr hQ hMg
      have q2 : snd_ Q (mm_rowL g.2.1 194 w 194) 0 = kN A Q k a i := by rw [mm_rowL_s]; exact snd_wat W1
      dsimp only at M2
      rw [q2] at M2
      obtain ⟨w3, M3⟩ := mX11_strengthNow (d + 1) (mm_up g.1 197 i (kN A Q k a i), mm_rowL (mm_rowL g.2.1 194 w) 195 w2, g.2.2) Q r hr hQ (lawM_c hMg (fun c h1 h2 => mm_up_n (by omega)))
      have q3 : snd_ Q (mm_rowL (mm_rowL g.2.1 194 w) 195 w2 194) 1 = kS A Q k a i := by rw [mm_rowL_n (by decide), mm_rowL_s]; exact snd_wat W1
      dsimp only at M3
      rw [q3] at M3
      obtain ⟨G, hG⟩ : ∃ G : mm_H, G = (mm_up (mm_up g.1 197 i (kN A Q k a i)) 198 i (kS A Q k a i), mm_rowL (mm_rowL (mm_rowL g.2.1 194 w) 195 w2) 195 w3, g.2.2) := ⟨_, rfl⟩
      have fG : frm pS h G := by
        rw [hG]
        exact ((((fS.rowL (c := 194) rfl).rowL (c := 195) rfl).rowL (c := 195) rfl).up (c := 197) rfl).up (c := 198) rfl
      have G197 : ∀ j, G.1 197 j = if j = i then kN A Q k a i else g.1 197 j := by
        intro j; rw [hG]; dsimp only; rw [mm_up_n (by decide), mm_up_s]; rfl
      have G198 : ∀ j, G.1 198 j = if j = i then kS A Q k a i else g.1 198 j := by
        intro j; rw [hG]; dsimp only; rw [mm_up_s, mm_up_n (by decide)]; rfl
      have G196 : G.1 196 = g.1 196 := by rw [hG]; dsimp only; rw [mm_up_n (by decide), mm_up_n (by decide)]
      have G166 : G.1 166 = g.1 166 := by rw [hG]; dsimp only; rw [mm_up_n (by decide), mm_up_n (by decide)]
      have s3' : ∀ j, j < i + 1 → sp_bit (nI a) j = 1 → G.1 197 j = kN A Q k a j ∧ G.1 198 j = kS A Q k a j := by
        intro j hj hbj
        rw [G197, G198]
        by_cases z : j = i
        · subst z; rw [if_pos rfl, if_pos rfl]; exact ⟨rfl, rfl⟩
        · rw [if_neg z, if_neg z]; exact s3 j (by omega) hbj
      by_cases hau : aud (kS A Q k a) (mf A) i
      · have hO := ordL_y (key := kN A Q k a) (str := kS A Q k a) (deaf := mf A) (set := nI a) (i := i) ⟨hb, hau⟩
        obtain ⟨l, el⟩ : ∃ l, l = (ordL (kN A Q k a) (kS A Q k a) (mf A) (nI a) i) := ⟨_, rfl⟩
        rw [← el] at hO s2 hol ⊢
        obtain ⟨ps, eps⟩ : ∃ p, p = posD (kN A Q k a) (kN A Q k a i) l l.length := ⟨_, rfl⟩
        have hP := posD_le (key := kN A Q k a) (kc := kN A Q k a i) (l := l) l.length
        rw [← eps] at hP
        have keyl : ∀ w, w < l.length → l.getD w 0 < i ∧ G.1 197 (l.getD w 0) = kN A Q k a (l.getD w 0) := by
          intro w hw
          have q := ordL_mem i (l.getD w 0) (by rw [← el]; exact getD_mem hw)
          exact ⟨q.1, (s3' _ (by omega) q.2.1).1⟩
        have S2 : sing_st A Q k a h (mm_row G.1 196 (sp_ins (g.1 196) ps (nI i) l.length), G.2.1, G.2.2) (i + 1) := by
          refine ⟨fG.row rfl, ?_, fun j hj hbj => ?_⟩
          · dsimp only; rw [mm_row_s, hO, eps]; exact insO_rrep s2
          · dsimp only; rw [mm_row_n (by decide), mm_row_n (by decide)]; exact s3' j hj hbj
        have K := K151 _ S2
        rw [hO, insO_len] at K
        have K139 : mm_E (d + 6) YX11_sings 139 [some (.ref 165), some (.int (nI r)), some (.int (nI k)), some (.int (nI a)), some (.int (nI l.length)), some (.int (nI i)), some (.int (nI ps))] [] (mm_row G.1 196 (sp_shf (g.1 196) ps l.length), G.2.1, G.2.2) (fun v g' => v = none ∧ ∃ g1, sing_st A Q k a h g1 (mn A) ∧ ton_st 199 200 201 165 49 g1 g' (tL A Q k a)) := by
          refine mm_Es (fun _ _ => mm_aload_n dX11_sings_139 rfl rfl) ?_
          refine mm_Es (fun _ _ => mm_getS dX11_sings_140 fX11_106 sh_165 rfl gr_165_43) ?_
          refine mm_Es (fun _ _ => mm_iload dX11_sings_143 rfl) ?_
          refine mm_Es (fun _ _ => mm_iload dX11_sings_145 rfl) ?_
          refine mm_Es (fun _ _ => mm_iast (ps) dX11_sings_147 sh_196 rfl (by omega)) ?_
          refine mm_Es (fun _ _ => mm_iinc dX11_sings_148 rfl (nI_succ l.length).symm rfl) ?_
          exact mm_Es (fun _ _ => mm_cast rfl rfl (by dsimp only; rw [mm_up_row]; rfl)) (K _)
        have K88 : ∀ q, q ≤ l.length - ps → mm_E (d + 6) YX11_sings 88 [some (.ref 165), some (.int (nI r)), some (.int (nI k)), some (.int (nI a)), some (.int (nI l.length)), some (.int (nI i)), some (.int (nI (l.length - q)))] [] (mm_row G.1 196 (sp_shf (g.1 196) (l.length - q) l.length), G.2.1, G.2.2) (fun v g' => v = none ∧ ∃ g1, sing_st A Q k a h g1 (mn A) ∧ ton_st 199 200 201 165 49 g1 g' (tL A Q k a)) := by
          refine mm_down (l.length - ps) ?_ (fun q hq ihq => ?_)
          · have e1 : l.length - (l.length - ps) = ps := by omega
            rw [e1]
            rcases Nat.eq_zero_or_pos ps with z | z
            · rw [z] at K139 ⊢
              refine mm_Es (fun _ _ => mm_iload dX11_sings_88 rfl) ?_
              refine mm_Eb (fun _ _ => mm_if_le 139 dX11_sings_90 (by decide)) (fun c_90 => ?_) (fun c_90 => ?_)
              · exact K139
              · exact absurd (by decide) c_90
            · obtain ⟨w, hw⟩ : ∃ w, ps = w + 1 := ⟨ps - 1, by omega⟩
              have hkw := posD_at (key := kN A Q k a) (kc := kN A Q k a i) (l := l) l.length w (by rw [← eps]; exact hw)
              have ew : sp_shf (g.1 196) ps l.length w = nI (l.getD w 0) := by
                have : ¬ (ps < w ∧ w ≤ l.length) := by omega
                simp only [sp_shf, if_neg this]
                exact s2 w (by omega)
              have kw := keyl w (by omega)
              refine mm_Es (fun _ _ => mm_iload dX11_sings_88 rfl) ?_
              refine mm_Eb (fun _ _ => mm_if_le 139 dX11_sings_90 (by decide)) (fun c_90 => ?_) (fun c_90 => ?_)
              · exact K139
              · refine mm_Es (fun _ _ => mm_aload_n dX11_sings_93 rfl rfl) ?_
                refine mm_Es (fun _ _ => mm_getS dX11_sings_94 fX11_109 sh_165 rfl gr_165_44) ?_
                refine mm_Es (fun _ _ => mm_aload_n dX11_sings_97 rfl rfl) ?_
                refine mm_Es (fun _ _ => mm_getS dX11_sings_98 fX11_106 sh_165 rfl gr_165_43) ?_
                refine mm_Es (fun _ _ => mm_iload dX11_sings_101 rfl) ?_
                refine mm_Es (fun _ _ => mm_iconst (x := 1) dX11_sings_103 (by decide)) ?_
                refine mm_Es (fun _ _ => mm_isub dX11_sings_104) ?_
                refine mm_Es (fun _ _ => mm_iald (w) dX11_sings_105 sh_196 (by rw [hw]; exact nI_pred w) (by omega)) ?_
                refine mm_Es (fun _ _ => mm_cast (st' := [.int (nI (l.getD w 0)), .ref 197]) rfl (by dsimp only; rw [mm_row_s, ew]) rfl) ?_
                refine mm_Es (fun _ _ => mm_iald (l.getD w 0) dX11_sings_106 sh_197 rfl (by omega)) ?_
                refine mm_Es (fun _ _ => mm_aload_n dX11_sings_107 rfl rfl) ?_
                refine mm_Es (fun _ _ => mm_getS dX11_sings_108 fX11_109 sh_165 rfl gr_165_44) ?_
                refine mm_Es (fun _ _ => mm_iload dX11_sings_111 rfl) ?_
                refine mm_Es (fun _ _ => mm_iald (i) dX11_sings_113 sh_197 rfl (by omega)) ?_
                refine mm_Eb (fun _ _ => mm_icmp_le 139 dX11_sings_114 (by decide)) (fun c_114 => ?_) (fun c_114 => ?_)
                · exact K139
                · exfalso
                  dsimp only at c_114
                  rw [mm_row_n (show 197 ≠ 196 by decide), kw.2, (s3' i (by omega) hb).1] at c_114
                  exact c_114 hkw
          · obtain ⟨w, hw⟩ : ∃ w, l.length - q = w + 1 := ⟨l.length - q - 1, by omega⟩
            have hw2 : l.length - (q + 1) = w := by omega
            rw [hw2] at ihq
            rw [hw]
            have hkw := posD_gt (key := kN A Q k a) (kc := kN A Q k a i) (l := l) l.length w (by rw [← eps]; omega) (by omega)
            have ew : sp_shf (g.1 196) (w + 1) l.length w = nI (l.getD w 0) := by
              have : ¬ (w + 1 < w ∧ w ≤ l.length) := by omega
              simp only [sp_shf, if_neg this]
              exact s2 w (by omega)
            have kw := keyl w (by omega)
            refine mm_Es (fun _ _ => mm_iload dX11_sings_88 rfl) ?_
            refine mm_Eb (fun _ _ => mm_if_le 139 dX11_sings_90 (by decide)) (fun c_90 => ?_) (fun c_90 => ?_)
            · exact absurd c_90 (nI_nle (by omega) (by omega))
            · refine mm_Es (fun _ _ => mm_aload_n dX11_sings_93 rfl rfl) ?_
              refine mm_Es (fun _ _ => mm_getS dX11_sings_94 fX11_109 sh_165 rfl gr_165_44) ?_
              refine mm_Es (fun _ _ => mm_aload_n dX11_sings_97 rfl rfl) ?_
              refine mm_Es (fun _ _ => mm_getS dX11_sings_98 fX11_106 sh_165 rfl gr_165_43) ?_
              refine mm_Es (fun _ _ => mm_iload dX11_sings_101 rfl) ?_
              refine mm_Es (fun _ _ => mm_iconst (x := 1) dX11_sings_103 (by decide)) ?_
              refine mm_Es (fun _ _ => mm_isub dX11_sings_104) ?_
              refine mm_Es (fun _ _ => mm_iald (w) dX11_sings_105 sh_196 (nI_pred w) (by omega)) ?_
              refine mm_Es (fun _ _ => mm_cast (st' := [.int (nI (l.getD w 0)), .ref 197]) rfl (by dsimp only; rw [mm_row_s, ew]) rfl) ?_
              refine mm_Es (fun _ _ => mm_iald (l.getD w 0) dX11_sings_106 sh_197 rfl (by omega)) ?_
              refine mm_Es (fun _ _ => mm_aload_n dX11_sings_107 rfl rfl) ?_
              refine mm_Es (fun _ _ => mm_getS dX11_sings_108 fX11_109 sh_165 rfl gr_165_44) ?_
              refine mm_Es (fun _ _ => mm_iload dX11_sings_111 rfl) ?_
              refine mm_Es (fun _ _ => mm_iald (i) dX11_sings_113 sh_197 rfl (by omega)) ?_
              refine mm_Eb (fun _ _ => mm_icmp_le 139 dX11_sings_114 (by decide)) (fun c_114 => ?_) (fun c_114 => ?_)
              · exfalso
                dsimp only at c_114
                rw [mm_row_n (show 197 ≠ 196 by decide), kw.2, (s3' i (by omega) hb).1] at c_114
                exact hkw c_114
              · refine mm_Es (fun _ _ => mm_aload_n dX11_sings_117 rfl rfl) ?_
                refine mm_Es (fun _ _ => mm_getS dX11_sings_118 fX11_106 sh_165 rfl gr_165_43) ?_
                refine mm_Es (fun _ _ => mm_iload dX11_sings_121 rfl) ?_
                refine mm_Es (fun _ _ => mm_aload_n dX11_sings_123 rfl rfl) ?_
                refine mm_Es (fun _ _ => mm_getS dX11_sings_124 fX11_106 sh_165 rfl gr_165_43) ?_
                refine mm_Es (fun _ _ => mm_iload dX11_sings_127 rfl) ?_
                refine mm_Es (fun _ _ => mm_iconst (x := 1) dX11_sings_129 (by decide)) ?_
                refine mm_Es (fun _ _ => mm_isub dX11_sings_130) ?_
                refine mm_Es (fun _ _ => mm_iald (w) dX11_sings_131 sh_196 (nI_pred w) (by omega)) ?_
                refine mm_Es (fun _ _ => mm_iast (w + 1) dX11_sings_132 sh_196 rfl (by omega)) ?_
                refine mm_Es (fun _ _ => mm_iinc dX11_sings_133 rfl rfl rfl) ?_
                refine mm_Es (fun _ _ => mm_goto 88 dX11_sings_136 (by decide)) ?_
                refine mm_Es (fun _ _ => mm_cast (by rw [nI_m1]; rfl) rfl ?_) ihq
                dsimp only
                rw [mm_up_row, mm_row_s, sp_shf_s _ _ _ (by omega)]
        have K0 := K88 0 (Nat.zero_le _)
        rw [Nat.sub_zero, sp_shf_q, ← G196, mm_row_self] at K0
        refine mm_Es (fun _ _ => mm_iload dX11_sings_6 rfl) ?_
        refine mm_Es (fun _ _ => mm_aload_n dX11_sings_8 rfl rfl) ?_
        refine mm_Es (fun _ _ => mm_getS dX11_sings_9 fX11_9 sh_165 rfl gr_165_1) ?_
        refine mm_Es (fun _ _ => mm_iconst (x := 0) dX11_sings_12 (by decide)) ?_
        refine mm_Es (fun _ _ => mm_iald (0) dX11_sings_13 sh_166 rfl (by decide)) ?_
        refine mm_Eb (fun _ _ => mm_icmp_ge 157 dX11_sings_14 (by decide)) (fun c_14 => ?_) (fun c_14 => ?_)
        · exact absurd (by rw [hVg.1] at c_14; exact c_14) (nI_ge hin (by omega))
        · refine mm_Es (fun _ _ => mm_iload_n dX11_sings_17 rfl rfl) ?_
          refine mm_Es (fun _ _ => mm_iload dX11_sings_18 rfl) ?_
          refine mm_Es (fun _ _ => mm_cS (Y1 := YX11_has) dX11_sings_20 lX11_177 sX11_has (mX11_has (d + 5) g (nI a) i) rfl rfl (by simp [Value.category])) ?_
          refine mm_Eb (fun _ _ => mm_if_eq 151 dX11_sings_23 (by decide)) (fun c_23 => ?_) (fun c_23 => ?_)
          · exact absurd hb (bI_e0.mp c_23)
          · refine mm_Es (fun _ _ => mm_aload_n dX11_sings_26 rfl rfl) ?_
            refine mm_Es (fun _ _ => mm_iload_n dX11_sings_27 rfl rfl) ?_
            refine mm_Es (fun _ _ => mm_iload_n dX11_sings_28 rfl rfl) ?_
            refine mm_Es (fun _ _ => mm_iload dX11_sings_29 rfl) ?_
            refine mm_Es (fun _ _ => mm_cV (Y1 := YX11_asks) dX11_sings_31 lX11_412 vX11_asks (M1) sh_165 rfl rfl (by simp [Value.category])) ?_
            refine mm_Es (fun _ _ => mm_aload_n dX11_sings_34 rfl rfl) ?_
            refine mm_Es (fun _ _ => mm_getS dX11_sings_35 fX11_109 sh_165 rfl gr_165_44) ?_
            refine mm_Es (fun _ _ => mm_iload dX11_sings_38 rfl) ?_
            refine mm_Es (fun _ _ => mm_aload_n dX11_sings_40 rfl rfl) ?_
            refine mm_Es (fun _ _ => mm_iload_n dX11_sings_41 rfl rfl) ?_
            refine mm_Es (fun _ _ => mm_cV (Y1 := YX11_noteNow) dX11_sings_42 lX11_416 vX11_noteNow (M2) sh_165 rfl rfl (by simp [Value.category])) ?_
            refine mm_Es (fun _ _ => mm_iast (i) dX11_sings_45 sh_197 rfl (by omega)) ?_
            refine mm_Es (fun _ _ => mm_aload_n dX11_sings_46 rfl rfl) ?_
            refine mm_Es (fun _ _ => mm_getS dX11_sings_47 fX11_112 sh_165 rfl gr_165_45) ?_
            refine mm_Es (fun _ _ => mm_iload dX11_sings_50 rfl) ?_
            refine mm_Es (fun _ _ => mm_aload_n dX11_sings_52 rfl rfl) ?_
            refine mm_Es (fun _ _ => mm_iload_n dX11_sings_53 rfl rfl) ?_
            refine mm_Es (fun _ _ => mm_cV (Y1 := YX11_strengthNow) dX11_sings_54 lX11_419 vX11_strengthNow (M3) sh_165 rfl rfl (by simp [Value.category])) ?_
            refine mm_Es (fun _ _ => mm_iast (i) dX11_sings_57 sh_198 rfl (by omega)) ?_
            refine mm_Es (fun _ _ => mm_cast (g := G) rfl rfl hG.symm) ?_
            refine mm_Es (fun _ _ => mm_aload_n dX11_sings_58 rfl rfl) ?_
            refine mm_Es (fun _ _ => mm_getS dX11_sings_59 fX11_112 sh_165 rfl gr_165_45) ?_
            refine mm_Es (fun _ _ => mm_iload dX11_sings_62 rfl) ?_
            refine mm_Es (fun _ _ => mm_iald (i) dX11_sings_64 sh_198 rfl (by omega)) ?_
            refine mm_Es (fun _ _ => mm_cast (st' := [.int (kS A Q k a i)]) rfl (by rw [G198, if_pos rfl]; rfl) rfl) ?_
            refine mm_Eb (fun _ _ => mm_if_le 151 dX11_sings_65 (by decide)) (fun c_65 => ?_) (fun c_65 => ?_)
            · exact absurd c_65 hau.1
            · refine mm_Es (fun _ _ => mm_aload_n dX11_sings_68 rfl rfl) ?_
              refine mm_Es (fun _ _ => mm_getS dX11_sings_69 fX11_112 sh_165 rfl gr_165_45) ?_
              refine mm_Es (fun _ _ => mm_iload dX11_sings_72 rfl) ?_
              refine mm_Es (fun _ _ => mm_iald (i) dX11_sings_74 sh_198 rfl (by omega)) ?_
              refine mm_Es (fun _ _ => mm_aload_n dX11_sings_75 rfl rfl) ?_
              refine mm_Es (fun _ _ => mm_getS dX11_sings_76 fX11_9 sh_165 rfl gr_165_1) ?_
              refine mm_Es (fun _ _ => mm_iconst (x := 3) dX11_sings_79 (by decide)) ?_
              refine mm_Es (fun _ _ => mm_iald (3) dX11_sings_80 sh_166 rfl (by decide)) ?_
              refine mm_Es (fun _ _ => mm_cast (st' := [.int (mf A), .int (kS A Q k a i)]) rfl (by rw [G198, if_pos rfl, G166, hVg.2.2.2.1]) rfl) ?_
              refine mm_Eb (fun _ _ => mm_icmp_lt 151 dX11_sings_81 (by decide)) (fun c_81 => ?_) (fun c_81 => ?_)
              · exact absurd c_81 hau.2
              · refine mm_Es (fun _ _ => mm_iload dX11_sings_84 rfl) ?_
                refine mm_Es (fun _ _ => mm_istore dX11_sings_86 (by decide) rfl) ?_
                exact K0
      · have hO := ordL_n (key := kN A Q k a) (str := kS A Q k a) (deaf := mf A) (set := nI a) (i := i) (fun z => hau z.2)
        have K := K151 G ⟨fG, by rw [G196, hO]; exact s2, s3'⟩
        rw [hO] at K
        refine mm_Es (fun _ _ => mm_iload dX11_sings_6 rfl) ?_
        refine mm_Es (fun _ _ => mm_aload_n dX11_sings_8 rfl rfl) ?_
        refine mm_Es (fun _ _ => mm_getS dX11_sings_9 fX11_9 sh_165 rfl gr_165_1) ?_
        refine mm_Es (fun _ _ => mm_iconst (x := 0) dX11_sings_12 (by decide)) ?_
        refine mm_Es (fun _ _ => mm_iald (0) dX11_sings_13 sh_166 rfl (by decide)) ?_
        refine mm_Eb (fun _ _ => mm_icmp_ge 157 dX11_sings_14 (by decide)) (fun c_14 => ?_) (fun c_14 => ?_)
        · exact absurd (by rw [hVg.1] at c_14; exact c_14) (nI_ge hin (by omega))
        · refine mm_Es (fun _ _ => mm_iload_n dX11_sings_17 rfl rfl) ?_
          refine mm_Es (fun _ _ => mm_iload dX11_sings_18 rfl) ?_
          refine mm_Es (fun _ _ => mm_cS (Y1 := YX11_has) dX11_sings_20 lX11_177 sX11_has (mX11_has (d + 5) g (nI a) i) rfl rfl (by simp [Value.category])) ?_
          refine mm_Eb (fun _ _ => mm_if_eq 151 dX11_sings_23 (by decide)) (fun c_23 => ?_) (fun c_23 => ?_)
          · exact absurd hb (bI_e0.mp c_23)
          · refine mm_Es (fun _ _ => mm_aload_n dX11_sings_26 rfl rfl) ?_
            refine mm_Es (fun _ _ => mm_iload_n dX11_sings_27 rfl rfl) ?_
            refine mm_Es (fun _ _ => mm_iload_n dX11_sings_28 rfl rfl) ?_
            refine mm_Es (fun _ _ => mm_iload dX11_sings_29 rfl) ?_
            refine mm_Es (fun _ _ => mm_cV (Y1 := YX11_asks) dX11_sings_31 lX11_412 vX11_asks (M1) sh_165 rfl rfl (by simp [Value.category])) ?_
            refine mm_Es (fun _ _ => mm_aload_n dX11_sings_34 rfl rfl) ?_
            refine mm_Es (fun _ _ => mm_getS dX11_sings_35 fX11_109 sh_165 rfl gr_165_44) ?_
            refine mm_Es (fun _ _ => mm_iload dX11_sings_38 rfl) ?_
            refine mm_Es (fun _ _ => mm_aload_n dX11_sings_40 rfl rfl) ?_
            refine mm_Es (fun _ _ => mm_iload_n dX11_sings_41 rfl rfl) ?_
            refine mm_Es (fun _ _ => mm_cV (Y1 := YX11_noteNow) dX11_sings_42 lX11_416 vX11_noteNow (M2) sh_165 rfl rfl (by simp [Value.category])) ?_
            refine mm_Es (fun _ _ => mm_iast (i) dX11_sings_45 sh_197 rfl (by omega)) ?_
            refine mm_Es (fun _ _ => mm_aload_n dX11_sings_46 rfl rfl) ?_
            refine mm_Es (fun _ _ => mm_getS dX11_sings_47 fX11_112 sh_165 rfl gr_165_45) ?_
            refine mm_Es (fun _ _ => mm_iload dX11_sings_50 rfl) ?_
            refine mm_Es (fun _ _ => mm_aload_n dX11_sings_52 rfl rfl) ?_
            refine mm_Es (fun _ _ => mm_iload_n dX11_sings_53 rfl rfl) ?_
            refine mm_Es (fun _ _ => mm_cV (Y1 := YX11_strengthNow) dX11_sings_54 lX11_419 vX11_strengthNow (M3) sh_165 rfl rfl (by simp [Value.category])) ?_
            refine mm_Es (fun _ _ => mm_iast (i) dX11_sings_57 sh_198 rfl (by omega)) ?_
            refine mm_Es (fun _ _ => mm_cast (g := G) rfl rfl hG.symm) ?_
            refine mm_Es (fun _ _ => mm_aload_n dX11_sings_58 rfl rfl) ?_
            refine mm_Es (fun _ _ => mm_getS dX11_sings_59 fX11_112 sh_165 rfl gr_165_45) ?_
            refine mm_Es (fun _ _ => mm_iload dX11_sings_62 rfl) ?_
            refine mm_Es (fun _ _ => mm_iald (i) dX11_sings_64 sh_198 rfl (by omega)) ?_
            refine mm_Es (fun _ _ => mm_cast (st' := [.int (kS A Q k a i)]) rfl (by rw [G198, if_pos rfl]; rfl) rfl) ?_
            refine mm_Eb (fun _ _ => mm_if_le 151 dX11_sings_65 (by decide)) (fun c_65 => ?_) (fun c_65 => ?_)
            · exact K _
            · refine mm_Es (fun _ _ => mm_aload_n dX11_sings_68 rfl rfl) ?_
              refine mm_Es (fun _ _ => mm_getS dX11_sings_69 fX11_112 sh_165 rfl gr_165_45) ?_
              refine mm_Es (fun _ _ => mm_iload dX11_sings_72 rfl) ?_
              refine mm_Es (fun _ _ => mm_iald (i) dX11_sings_74 sh_198 rfl (by omega)) ?_
              refine mm_Es (fun _ _ => mm_aload_n dX11_sings_75 rfl rfl) ?_
              refine mm_Es (fun _ _ => mm_getS dX11_sings_76 fX11_9 sh_165 rfl gr_165_1) ?_
              refine mm_Es (fun _ _ => mm_iconst (x := 3) dX11_sings_79 (by decide)) ?_
              refine mm_Es (fun _ _ => mm_iald (3) dX11_sings_80 sh_166 rfl (by decide)) ?_
              refine mm_Es (fun _ _ => mm_cast (st' := [.int (mf A), .int (kS A Q k a i)]) rfl (by rw [G198, if_pos rfl, G166, hVg.2.2.2.1]) rfl) ?_
              refine mm_Eb (fun _ _ => mm_icmp_lt 151 dX11_sings_81 (by decide)) (fun c_81 => ?_) (fun c_81 => ?_)
              · exact K _
              · exact absurd ⟨c_65, c_81⟩ hau
    · have hO := ordL_n (key := kN A Q k a) (str := kS A Q k a) (deaf := mf A) (set := nI a) (i := i) (fun z => hb z.1)
      have K := K151 g ⟨fS, by rw [hO]; exact s2, fun j hj hbj => by
        by_cases z : j = i
        · subst z; exact absurd hbj hb
        · exact s3 j (by omega) hbj⟩
      rw [hO] at K
      refine mm_Es (fun _ _ => mm_iload dX11_sings_6 rfl) ?_
      refine mm_Es (fun _ _ => mm_aload_n dX11_sings_8 rfl rfl) ?_
      refine mm_Es (fun _ _ => mm_getS dX11_sings_9 fX11_9 sh_165 rfl gr_165_1) ?_
      refine mm_Es (fun _ _ => mm_iconst (x := 0) dX11_sings_12 (by decide)) ?_
      refine mm_Es (fun _ _ => mm_iald (0) dX11_sings_13 sh_166 rfl (by decide)) ?_
      refine mm_Eb (fun _ _ => mm_icmp_ge 157 dX11_sings_14 (by decide)) (fun c_14 => ?_) (fun c_14 => ?_)
      · exact absurd (by rw [hVg.1] at c_14; exact c_14) (nI_ge hin (by omega))
      · refine mm_Es (fun _ _ => mm_iload_n dX11_sings_17 rfl rfl) ?_
        refine mm_Es (fun _ _ => mm_iload dX11_sings_18 rfl) ?_
        refine mm_Es (fun _ _ => mm_cS (Y1 := YX11_has) dX11_sings_20 lX11_177 sX11_has (mX11_has (d + 5) g (nI a) i) rfl rfl (by simp [Value.category])) ?_
        refine mm_Eb (fun _ _ => mm_if_eq 151 dX11_sings_23 (by decide)) (fun c_23 => ?_) (fun c_23 => ?_)
        · exact K _
        · exact absurd (bI_n0.mp c_23) hb
def pSing : Nat → Bool := fun c => rg 194 201 c || c == 165
/-- what sings leaves -/
def sung (A : MD) (Q : LD) (k a : Nat) (h g : mm_H) : Prop := frm pSing h g ∧ (∀ j, j ≠ 49 → g.1 165 j = h.1 165 j) ∧ g.1 165 49 = nI (tL A Q k a).length ∧ trep (g.1 199) (g.1 200) (g.1 201) (tL A Q k a)
set_option maxRecDepth 100000 in
set_option maxHeartbeats 4000000 in
theorem mX11_sings (d : Nat) (h : mm_H) (A : MD) (hA : mdOK A) (hV : viewM h A) (Q : LD) (r : Nat) (hr : r < 6) (hQ : lawOK Q) (hM : lawM h.1 r Q) (k : Nat) (hk : k < mk A) (a : Nat) (ha : a < 4096) : ∃ g, mm_M (d + 6) YX11_sings [.ref 165, .int (nI r), .int (nI k), .int (nI a)] h none g ∧ sung A Q k a h g := by
  refine mm_EM.v (mm_EM.of [some (.ref 165), some (.int (nI r)), some (.int (nI k)), some (.int (nI a)), none, none, none] rfl rfl (Nat.le_of_ble_eq_true rfl) ?_)
  have K := sings_1 d h A hA hV Q r hr hQ hM k hk a ha (mn A) 0 (by omega) h ⟨frm.refl _ _, fun k hk0 => by simp [ordL] at hk0, fun j hj => by omega⟩
  refine mm_E.imp (P := fun v g' => v = none ∧ ∃ g1, sing_st A Q k a h g1 (mn A) ∧ ton_st 199 200 201 165 49 g1 g' (tL A Q k a)) ?_ ?_
  rotate_left
  · rintro v g ⟨rfl, g1, ⟨f1, -, -⟩, t1, t2, t3, t4, t5⟩
    refine ⟨rfl, ⟨fun c hc => ?_, by rw [t1]; exact f1.2⟩, fun j hj => ?_, t4, t5⟩
    · simp only [pSing, Bool.or_eq_false_iff, rg, decide_eq_false_iff_not, beq_eq_false_iff_ne] at hc
      have hp : pS c = false := rg_f (by omega)
      exact ⟨(t2 c (by omega) (by omega) (by omega) (by omega)).trans (f1.i hp), by rw [t1]; exact f1.l hp⟩
    · rw [t3 j hj, f1.i rfl]
  refine mm_Es (fun _ _ => mm_iconst (x := 0) dX11_sings_0 (by decide)) ?_
  refine mm_Es (fun _ _ => mm_istore dX11_sings_1 (by decide) rfl) ?_
  refine mm_Es (fun _ _ => mm_iconst (x := 0) dX11_sings_3 (by decide)) ?_
  refine mm_Es (fun _ _ => mm_istore dX11_sings_4 (by decide) rfl) ?_
  exact K
