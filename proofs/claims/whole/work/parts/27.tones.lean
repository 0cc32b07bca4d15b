/-! The tones of those that sound; gatherTones, tones0. -/
abbrev TN : Type := Int32 × Int32 × Int32
/-- one more that sounds: of the last tone (the list's first), or another tone -/
def gt1 (key str : Nat → Int32) (blur : Int32) (t : List TN) (c : Nat) : List TN := match t with
  | [] => [(key c, str c, nI c)]
  | x :: r => if key c - x.1 < blur ∨ key c - x.1 = 0 then (x.1, x.2.1 + str c, if nI c < x.2.2 then nI c else x.2.2) :: r else (key c, str c, nI c) :: x :: r
def tonL (key str : Nat → Int32) (blur : Int32) (l : List Nat) : List TN := l.foldl (gt1 key str blur) []
/-- three rows hold the tones, the lowest first -/
def trep (fn fs fl : Nat → Int32) (t : List TN) : Prop := ∀ k, k < t.length → fn k = (t.getD (t.length - 1 - k) (0, 0, 0)).1 ∧ fs k = (t.getD (t.length - 1 - k) (0, 0, 0)).2.1 ∧ fl k = (t.getD (t.length - 1 - k) (0, 0, 0)).2.2
theorem gt1_len (key str : Nat → Int32) (blur : Int32) (t : List TN) (c : Nat) : (gt1 key str blur t c).length ≤ t.length + 1 := by
  unfold gt1
  split
  · simp
  · split <;> simp
theorem foldl_gt_len (key str : Nat → Int32) (blur : Int32) (l : List Nat) : ∀ t, (l.foldl (gt1 key str blur) t).length ≤ t.length + l.length := by
  induction l with
  | nil => intro t; simp
  | cons c l ih =>
    intro t
    have h1 := gt1_len key str blur t c
    have h2 := ih (gt1 key str blur t c)
    simp only [List.foldl_cons, List.length_cons]
    omega
theorem tonL_len (key str : Nat → Int32) (blur : Int32) (l : List Nat) : (tonL key str blur l).length ≤ l.length := by
  have := foldl_gt_len key str blur l []
  unfold tonL
  simpa using this
theorem take_s {l : List Nat} {i : Nat} (h : i < l.length) : l.take (i + 1) = l.take i ++ [l.getD i 0] := by
  rw [List.take_add_one, List.getD_eq_getElem?_getD, List.getElem?_eq_getElem h]
  rfl
theorem tonL_s (key str : Nat → Int32) (blur : Int32) {l : List Nat} {i : Nat} (h : i < l.length) : tonL key str blur (l.take (i + 1)) = gt1 key str blur (tonL key str blur (l.take i)) (l.getD i 0) := by
  rw [take_s h]
  simp only [tonL, List.foldl_append, List.foldl_cons, List.foldl_nil]
/-- a new tone -/
theorem trep_new {fn fs fl : Nat → Int32} {t : List TN} {x : TN} (h : trep fn fs fl t) : trep (upd fn t.length x.1) (upd fs t.length x.2.1) (upd fl t.length x.2.2) (x :: t) := by
  intro k hk
  simp only [List.length_cons] at hk ⊢
  by_cases e : k = t.length
  · subst e
    have : t.length + 1 - 1 - t.length = 0 := by omega
    rw [this]
    simp [upd]
  · have e2 : t.length + 1 - 1 - k = (t.length - 1 - k) + 1 := by omega
    rw [e2]
    simp only [upd, if_neg e, List.getD_cons_succ]
    exact h k (by omega)
/-- the last one grown -/
theorem trep_old {fn fs fl : Nat → Int32} {x : TN} {r : List TN} {s ld : Int32} (h : trep fn fs fl (x :: r)) : trep fn (upd fs r.length s) (upd fl r.length ld) ((x.1, s, ld) :: r) := by
  intro k hk
  have hk0 := h k (by simpa using hk)
  simp only [List.length_cons] at hk hk0 ⊢
  by_cases e : k = r.length
  · subst e
    have : r.length + 1 - 1 - r.length = 0 := by omega
    rw [this] at hk0 ⊢
    simp [upd]
    exact hk0.1
  · have e2 : r.length + 1 - 1 - k = (r.length - 1 - k) + 1 := by omega
    rw [e2] at hk0 ⊢
    simp only [upd, if_neg e, List.getD_cons_succ] at hk0 ⊢
    exact hk0
theorem sub0 {x y : Int32} : x - y = 0 ↔ x = y := by
  constructor
  · intro h; have : x - y + y = 0 + y := by rw [h]
    simpa using this
  · intro h; subst h; simp
/-- what a walk over tones has changed -/
def ton_st (cn cs cl cc ck : Nat) (h g : mm_H) (t : List TN) : Prop := g.2 = h.2 ∧ (∀ c, c ≠ cn → c ≠ cs → c ≠ cl → c ≠ cc → g.1 c = h.1 c) ∧ (∀ k, k ≠ ck → g.1 cc k = h.1 cc k) ∧ g.1 cc ck = nI t.length ∧ trep (g.1 cn) (g.1 cs) (g.1 cl) t
set_option maxRecDepth 100000 in
set_option maxHeartbeats 4000000 in
theorem mX1_gatherTones (d : Nat) (h : mm_H) (key str : Nat → Int32) (l : List Nat) (hl : l.length ≤ 12) (hn : h.1 145 9 = nI l.length) (hr : rrep (h.1 151) l) (hk : ∀ j, j ∈ l → j < 12 ∧ ∃ s, s < 1728 ∧ h.1 150 j = nI s ∧ h.1 146 s = key j ∧ h.1 147 s = str j) : ∃ g, mm_M (d + 1) YX1_gatherTones [.ref 145] h none g ∧ ton_st 152 153 154 145 13 h g (tonL key str (h.1 65 10) l) := by
  have K7 : ∀ k i, i + k = l.length → ∀ g, ton_st 152 153 154 145 13 h g (tonL key str (h.1 65 10) (l.take i)) → ∃ g', ton_st 152 153 154 145 13 h g' (tonL key str (h.1 65 10) l) ∧ mm_R (d + 1) YX1_gatherTones 7 [some (.ref 145), some (.int (nI i)), none, none] [] g none g' := by
    intro k
    induction k with
    | zero =>
      intro i hi g S
      have hi : i = l.length := by omega
      subst hi
      rw [List.take_length] at S
      refine ⟨g, S, ?_⟩
      refine mm_iload_n dX1_gatherTones_7 rfl rfl ?_
      refine mm_aload_n dX1_gatherTones_8 rfl rfl ?_
      refine mm_getI dX1_gatherTones_9 fX1_70 sh_145 rfl ?_
      refine mm_icmp_ge 139 dX1_gatherTones_12 (by decide) (fun c_12 => ?_) (fun c_12 => ?_)
      · exact mm_retE dX1_gatherTones_139 rfl rfl
      · exact absurd (by rw [S.2.2.1 9 (by decide), hn]; exact nI_le (Nat.le_refl _) (by omega)) c_12
    | succ k ih =>
      intro i hi g S
      have hin : i < l.length := by omega
      obtain ⟨s1, s2, s3, s4, s5⟩ := S
      obtain ⟨c, hc⟩ : ∃ c, c = l.getD i 0 := ⟨_, rfl⟩
      obtain ⟨w1, s, w2, w3, w4, w5⟩ := hk c (by rw [hc]; exact getD_mem hin)
      have g150 : g.1 150 c = nI s := by rw [s2 150 (by decide) (by decide) (by decide) (by decide)]; exact w3
      have g146 : g.1 146 s = key c := by rw [s2 146 (by decide) (by decide) (by decide) (by decide)]; exact w4
      have g147 : g.1 147 s = str c := by rw [s2 147 (by decide) (by decide) (by decide) (by decide)]; exact w5
      have g151 : g.1 151 i = nI c := by rw [s2 151 (by decide) (by decide) (by decide) (by decide), hc]; exact hr i hin
      have g65 : g.1 65 10 = h.1 65 10 := by rw [s2 65 (by decide) (by decide) (by decide) (by decide)]
      have htl := tonL_len key str (h.1 65 10) (l.take i)
      rw [List.length_take] at htl
      have es := tonL_s key str (h.1 65 10) hin
      rw [← hc] at es
      have ih2 : ∀ g1, ton_st 152 153 154 145 13 h g1 (tonL key str (h.1 65 10) (l.take (i + 1))) → ∃ g', ton_st 152 153 154 145 13 h g' (tonL key str (h.1 65 10) l) ∧ ∀ a b, mm_R (d + 1) YX1_gatherTones 133 [some (.ref 145), some (.int (nI i)), a, b] [] g1 none g' := by
        intro g1 S1
        obtain ⟨g', S', R'⟩ := ih (i + 1) (by omega) g1 S1
        refine ⟨g', S', fun a b => ?_⟩
        refine mm_iinc dX1_gatherTones_133 rfl rfl rfl ?_
        refine mm_goto 7 dX1_gatherTones_136 (by decide) ?_
        refine mm_lessE (ls' := [some (.ref 145), some (.int (nI (i + 1))), none, none]) ⟨rfl, by rw [nI_succ]; rfl, trivial⟩ R'
      generalize hT : (tonL key str (h.1 65 10) (l.take i)) = T at s4 s5 htl es
      have New : ton_st 152 153 154 145 13 h (mm_up (mm_up (mm_up (mm_up g.1 152 T.length (key c)) 153 T.length (str c)) 154 T.length (nI c)) 145 13 (nI (T.length + 1)), g.2.1, g.2.2) ((key c, str c, nI c) :: T) := by
        refine ⟨s1, fun c0 h1 h2 h3 h4 => ?_, fun k0 h1 => ?_, ?_, ?_⟩
        · dsimp only; rw [mm_up_n h4, mm_up_n h3, mm_up_n h2, mm_up_n h1]; exact s2 c0 h1 h2 h3 h4
        · dsimp only; rw [mm_up_k h1, mm_up_n (by decide), mm_up_n (by decide), mm_up_n (by decide)]; exact s3 k0 h1
        · dsimp only; rw [mm_up_e]; rfl
        · dsimp only
          rw [mm_up_n (show 152 ≠ 145 by decide), mm_up_n (show 152 ≠ 154 by decide), mm_up_n (show 152 ≠ 153 by decide), mm_up_s, mm_up_n (show 153 ≠ 145 by decide), mm_up_n (show 153 ≠ 154 by decide), mm_up_s, mm_up_n (show 153 ≠ 152 by decide), mm_up_n (show 154 ≠ 145 by decide), mm_up_s, mm_up_n (show 154 ≠ 153 by decide), mm_up_n (show 154 ≠ 152 by decide)]
          exact trep_new (x := (key c, str c, nI c)) s5
      have K85 : ∀ g', ∀ a3, (∀ a b, mm_R (d + 1) YX1_gatherTones 133 [some (.ref 145), some (.int (nI i)), a, b] [] (mm_up (mm_up (mm_up (mm_up g.1 152 T.length (key c)) 153 T.length (str c)) 154 T.length (nI c)) 145 13 (nI (T.length + 1)), g.2.1, g.2.2) none g') → mm_R (d + 1) YX1_gatherTones 85 [some (.ref 145), some (.int (nI i)), some (.int (nI c)), a3] [] g none g' := by
        intro g' a3 R' 
        refine mm_aload_n dX1_gatherTones_85 rfl rfl ?_
        refine mm_getS dX1_gatherTones_86 fX1_35 sh_145 rfl gr_145_10 ?_
        refine mm_aload_n dX1_gatherTones_89 rfl rfl ?_
        refine mm_getI dX1_gatherTones_90 fX1_135 sh_145 rfl ?_
        refine mm_aload_n dX1_gatherTones_93 rfl rfl ?_
        refine mm_iload_n dX1_gatherTones_94 rfl rfl ?_
        refine mm_cV (Y1 := YX1_noteOf) dX1_gatherTones_95 lX1_132 vX1_noteOf (mX1_noteOf d g c w1 s (by first | exact g150 | (dsimp only; rw [mm_up_n (by decide)]; exact g150) | (dsimp only; rw [mm_up_n (by decide), mm_up_n (by decide)]; exact g150)) w2) sh_145 rfl rfl (by simp [Value.category]) ?_
        refine mm_iast (T.length) dX1_gatherTones_98 sh_152 s4 (by omega) ?_
        refine mm_cast (g := (mm_up g.1 152 T.length (key c), g.2.1, g.2.2)) rfl rfl (by rw [g146]) ?_
        refine mm_aload_n dX1_gatherTones_99 rfl rfl ?_
        refine mm_getS dX1_gatherTones_100 fX1_38 sh_145 rfl gr_145_11 ?_
        refine mm_aload_n dX1_gatherTones_103 rfl rfl ?_
        refine mm_getI dX1_gatherTones_104 fX1_135 sh_145 rfl ?_
        refine mm_aload_n dX1_gatherTones_107 rfl rfl ?_
        refine mm_iload_n dX1_gatherTones_108 rfl rfl ?_
        refine mm_cV (Y1 := YX1_strengthOf) dX1_gatherTones_109 lX1_142 vX1_strengthOf (mX1_strengthOf d _ c w1 s (by first | exact g150 | (dsimp only; rw [mm_up_n (by decide)]; exact g150) | (dsimp only; rw [mm_up_n (by decide), mm_up_n (by decide)]; exact g150)) w2) sh_145 rfl rfl (by simp [Value.category]) ?_
        refine mm_iast (T.length) dX1_gatherTones_112 sh_153 (by dsimp only; rw [mm_up_n (by decide)]; exact s4) (by omega) ?_
        refine mm_cast (g := (mm_up (mm_up g.1 152 T.length (key c)) 153 T.length (str c), g.2.1, g.2.2)) rfl rfl (by dsimp only; rw [mm_up_n (show 147 ≠ 152 by decide), g147]) ?_
        refine mm_aload_n dX1_gatherTones_113 rfl rfl ?_
        refine mm_getS dX1_gatherTones_114 fX1_41 sh_145 rfl gr_145_12 ?_
        refine mm_aload_n dX1_gatherTones_117 rfl rfl ?_
        refine mm_getI dX1_gatherTones_118 fX1_135 sh_145 rfl ?_
        refine mm_iload_n dX1_gatherTones_121 rfl rfl ?_
        refine mm_iast (T.length) dX1_gatherTones_122 sh_154 (by dsimp only; rw [mm_up_n (by decide), mm_up_n (by decide)]; exact s4) (by omega) ?_
        refine mm_aload_n dX1_gatherTones_123 rfl rfl ?_
        refine mm_dup dX1_gatherTones_124 rfl ?_
        refine mm_getI dX1_gatherTones_125 fX1_135 sh_145 rfl ?_
        refine mm_iconst (x := 1) dX1_gatherTones_128 (by decide) ?_
        refine mm_iadd dX1_gatherTones_129 ?_
        refine mm_putI dX1_gatherTones_130 fX1_135 sh_145 rfl rfl rfl ?_
        refine mm_cast rfl rfl ?_ (R' _ _)
        dsimp only
        rw [mm_up_n (show 145 ≠ 154 by decide), mm_up_n (show 145 ≠ 153 by decide), mm_up_n (show 145 ≠ 152 by decide), s4, show nI T.length + 1 = nI (T.length + 1) from (nI_succ _).symm]
      cases T with
      | nil =>
        have en : gt1 key str (h.1 65 10) [] c = (key c, str c, nI c) :: [] := rfl
        rw [en] at es
        rw [← es] at New
        obtain ⟨g', S', R'⟩ := ih2 _ New
        refine ⟨g', S', ?_⟩
        refine mm_iload_n dX1_gatherTones_7 rfl rfl ?_
        refine mm_aload_n dX1_gatherTones_8 rfl rfl ?_
        refine mm_getI dX1_gatherTones_9 fX1_70 sh_145 rfl ?_
        refine mm_icmp_ge 139 dX1_gatherTones_12 (by decide) (fun c_12 => ?_) (fun c_12 => ?_)
        · exact absurd (by rw [s3 9 (by decide), hn] at c_12; exact c_12) (nI_ge hin (by omega))
        · refine mm_aload_n dX1_gatherTones_15 rfl rfl ?_
          refine mm_getS dX1_gatherTones_16 fX1_32 sh_145 rfl gr_145_8 ?_
          refine mm_iload_n dX1_gatherTones_19 rfl rfl ?_
          refine mm_iald (i) dX1_gatherTones_20 sh_151 rfl (by omega) ?_
          refine mm_istore_n dX1_gatherTones_21 rfl (by decide) rfl ?_
          refine mm_cast (ls' := [some (.ref 145), some (.int (nI i)), some (.int (nI c)), none]) (by rw [g151]; rfl) rfl rfl ?_
          refine mm_aload_n dX1_gatherTones_22 rfl rfl ?_
          refine mm_getI dX1_gatherTones_23 fX1_135 sh_145 rfl ?_
          refine mm_iconst (x := 1) dX1_gatherTones_26 (by decide) ?_
          refine mm_isub dX1_gatherTones_27 ?_
          refine mm_istore_n dX1_gatherTones_28 rfl (by decide) rfl ?_
          refine mm_iload_n dX1_gatherTones_29 rfl rfl ?_
          refine mm_if_lt 85 dX1_gatherTones_30 (by decide) (fun c_30 => ?_) (fun c_30 => ?_)
          · exact K85 g' _ R'
          · exact absurd (by rw [s4]; decide) c_30
      | cons x r =>
        have x5 := (s5 r.length (by simp)).1
        have x6 := (s5 r.length (by simp)).2.1
        have x7 := (s5 r.length (by simp)).2.2
        have z0 : (x :: r).length - 1 - r.length = 0 := by simp
        rw [z0] at x5 x6 x7
        simp only [List.getD_cons_zero] at x5 x6 x7
        have hrl : r.length < 12 := by simp only [List.length_cons] at htl; omega
        have ep : nI (r.length + 1) - 1 = nI r.length := nI_pred r.length
        have s4' : g.1 145 13 = nI (r.length + 1) := s4
        by_cases hw : key c - x.1 < h.1 65 10 ∨ key c - x.1 = 0
        · have en : gt1 key str (h.1 65 10) (x :: r) c = (x.1, x.2.1 + str c, if nI c < x.2.2 then nI c else x.2.2) :: r := by simp only [gt1]; rw [if_pos hw]
          rw [en] at es
          have Old : ton_st 152 153 154 145 13 h (mm_up (mm_up g.1 153 r.length (x.2.1 + str c)) 154 r.length (if nI c < x.2.2 then nI c else x.2.2), g.2.1, g.2.2) ((x.1, x.2.1 + str c, if nI c < x.2.2 then nI c else x.2.2) :: r) := by
            refine ⟨s1, fun c0 h1 h2 h3 h4 => ?_, fun k0 h1 => ?_, ?_, ?_⟩
            · dsimp only; rw [mm_up_n h3, mm_up_n h2]; exact s2 c0 h1 h2 h3 h4
            · dsimp only; rw [mm_up_n (by decide), mm_up_n (by decide)]; exact s3 k0 h1
            · dsimp only; rw [mm_up_n (by decide), mm_up_n (by decide)]; exact s4
            · dsimp only
              rw [mm_up_n (show 152 ≠ 154 by decide), mm_up_n (show 152 ≠ 153 by decide), mm_up_n (show 153 ≠ 154 by decide), mm_up_s, mm_up_s, mm_up_n (show 154 ≠ 153 by decide)]
              exact trep_old s5
          rw [← es] at Old
          obtain ⟨g', S', R'⟩ := ih2 _ Old
          refine ⟨g', S', ?_⟩
          refine mm_iload_n dX1_gatherTones_7 rfl rfl ?_
          refine mm_aload_n dX1_gatherTones_8 rfl rfl ?_
          refine mm_getI dX1_gatherTones_9 fX1_70 sh_145 rfl ?_
          refine mm_icmp_ge 139 dX1_gatherTones_12 (by decide) (fun c_12 => ?_) (fun c_12 => ?_)
          · exact absurd (by rw [s3 9 (by decide), hn] at c_12; exact c_12) (nI_ge hin (by omega))
          · refine mm_aload_n dX1_gatherTones_15 rfl rfl ?_
            refine mm_getS dX1_gatherTones_16 fX1_32 sh_145 rfl gr_145_8 ?_
            refine mm_iload_n dX1_gatherTones_19 rfl rfl ?_
            refine mm_iald (i) dX1_gatherTones_20 sh_151 rfl (by omega) ?_
            refine mm_istore_n dX1_gatherTones_21 rfl (by decide) rfl ?_
            refine mm_cast (ls' := [some (.ref 145), some (.int (nI i)), some (.int (nI c)), none]) (by rw [g151]; rfl) rfl rfl ?_
            refine mm_aload_n dX1_gatherTones_22 rfl rfl ?_
            refine mm_getI dX1_gatherTones_23 fX1_135 sh_145 rfl ?_
            refine mm_iconst (x := 1) dX1_gatherTones_26 (by decide) ?_
            refine mm_isub dX1_gatherTones_27 ?_
            refine mm_istore_n dX1_gatherTones_28 rfl (by decide) rfl ?_
            refine mm_cast (ls' := [some (.ref 145), some (.int (nI i)), some (.int (nI c)), some (.int (nI r.length))]) (by rw [s4', ep]; rfl) rfl rfl ?_
            refine mm_iload_n dX1_gatherTones_29 rfl rfl ?_
            refine mm_if_lt 85 dX1_gatherTones_30 (by decide) (fun c_30 => ?_) (fun c_30 => ?_)
            · exact absurd c_30 (nI_pos (by omega))
            · refine mm_aload_n dX1_gatherTones_33 rfl rfl ?_
              refine mm_aload_n dX1_gatherTones_34 rfl rfl ?_
              refine mm_iload_n dX1_gatherTones_35 rfl rfl ?_
              refine mm_cV (Y1 := YX1_noteOf) dX1_gatherTones_36 lX1_132 vX1_noteOf (mX1_noteOf d g c w1 s (by first | exact g150 | (dsimp only; rw [mm_up_n (by decide)]; exact g150) | (dsimp only; rw [mm_up_n (by decide), mm_up_n (by decide)]; exact g150)) w2) sh_145 rfl rfl (by simp [Value.category]) ?_
              refine mm_aload_n dX1_gatherTones_39 rfl rfl ?_
              refine mm_getS dX1_gatherTones_40 fX1_35 sh_145 rfl gr_145_10 ?_
              refine mm_iload_n dX1_gatherTones_43 rfl rfl ?_
              refine mm_iald (r.length) dX1_gatherTones_44 sh_152 rfl hrl ?_
              refine mm_isub dX1_gatherTones_45 ?_
              refine mm_cV (Y1 := YX1_isWithin) dX1_gatherTones_46 lX1_138 vX1_isWithin (mX1_isWithin d g _) sh_145 rfl rfl (by simp [Value.category]) ?_
              refine mm_if_eq 85 dX1_gatherTones_49 (by decide) (fun c_49 => ?_) (fun c_49 => ?_)
              · exact absurd (by rw [g146, x5, g65]; exact hw) (bI_e0.mp c_49)
              · refine mm_aload_n dX1_gatherTones_52 rfl rfl ?_
                refine mm_getS dX1_gatherTones_53 fX1_38 sh_145 rfl gr_145_11 ?_
                refine mm_iload_n dX1_gatherTones_56 rfl rfl ?_
                refine mm_dup2 dX1_gatherTones_57 rfl rfl ?_
                refine mm_iald (r.length) dX1_gatherTones_58 sh_153 rfl hrl ?_
                refine mm_aload_n dX1_gatherTones_59 rfl rfl ?_
                refine mm_iload_n dX1_gatherTones_60 rfl rfl ?_
                refine mm_cV (Y1 := YX1_strengthOf) dX1_gatherTones_61 lX1_142 vX1_strengthOf (mX1_strengthOf d g c w1 s (by first | exact g150 | (dsimp only; rw [mm_up_n (by decide)]; exact g150) | (dsimp only; rw [mm_up_n (by decide), mm_up_n (by decide)]; exact g150)) w2) sh_145 rfl rfl (by simp [Value.category]) ?_
                refine mm_iadd dX1_gatherTones_64 ?_
                refine mm_iast (r.length) dX1_gatherTones_65 sh_153 rfl hrl ?_
                refine mm_cast (g := (mm_up g.1 153 r.length (x.2.1 + str c), g.2.1, g.2.2)) rfl rfl (by rw [x6, g147]) ?_
                refine mm_aload_n dX1_gatherTones_66 rfl rfl ?_
                refine mm_getS dX1_gatherTones_67 fX1_41 sh_145 rfl gr_145_12 ?_
                refine mm_iload_n dX1_gatherTones_70 rfl rfl ?_
                refine mm_aload_n dX1_gatherTones_71 rfl rfl ?_
                refine mm_getS dX1_gatherTones_72 fX1_41 sh_145 rfl gr_145_12 ?_
                refine mm_iload_n dX1_gatherTones_75 rfl rfl ?_
                refine mm_iald (r.length) dX1_gatherTones_76 sh_154 rfl hrl ?_
                refine mm_iload_n dX1_gatherTones_77 rfl rfl ?_
                refine mm_minI dX1_gatherTones_78 lX1_145 (by simp [Value.category]) ?_
                refine mm_iast (r.length) dX1_gatherTones_81 sh_154 rfl hrl ?_
                refine mm_goto 133 dX1_gatherTones_82 (by decide) ?_
                refine mm_cast rfl rfl ?_ (R' _ _)
                simp only [mm_up_n (show 154 ≠ 153 by decide), x7]
        · have en : gt1 key str (h.1 65 10) (x :: r) c = (key c, str c, nI c) :: x :: r := by simp only [gt1]; rw [if_neg hw]
          rw [en] at es
          rw [← es] at New
          obtain ⟨g', S', R'⟩ := ih2 _ New
          refine ⟨g', S', ?_⟩
          refine mm_iload_n dX1_gatherTones_7 rfl rfl ?_
          refine mm_aload_n dX1_gatherTones_8 rfl rfl ?_
          refine mm_getI dX1_gatherTones_9 fX1_70 sh_145 rfl ?_
          refine mm_icmp_ge 139 dX1_gatherTones_12 (by decide) (fun c_12 => ?_) (fun c_12 => ?_)
          · exact absurd (by rw [s3 9 (by decide), hn] at c_12; exact c_12) (nI_ge hin (by omega))
          · refine mm_aload_n dX1_gatherTones_15 rfl rfl ?_
            refine mm_getS dX1_gatherTones_16 fX1_32 sh_145 rfl gr_145_8 ?_
            refine mm_iload_n dX1_gatherTones_19 rfl rfl ?_
            refine mm_iald (i) dX1_gatherTones_20 sh_151 rfl (by omega) ?_
            refine mm_istore_n dX1_gatherTones_21 rfl (by decide) rfl ?_
            refine mm_cast (ls' := [some (.ref 145), some (.int (nI i)), some (.int (nI c)), none]) (by rw [g151]; rfl) rfl rfl ?_
            refine mm_aload_n dX1_gatherTones_22 rfl rfl ?_
            refine mm_getI dX1_gatherTones_23 fX1_135 sh_145 rfl ?_
            refine mm_iconst (x := 1) dX1_gatherTones_26 (by decide) ?_
            refine mm_isub dX1_gatherTones_27 ?_
            refine mm_istore_n dX1_gatherTones_28 rfl (by decide) rfl ?_
            refine mm_cast (ls' := [some (.ref 145), some (.int (nI i)), some (.int (nI c)), some (.int (nI r.length))]) (by rw [s4', ep]; rfl) rfl rfl ?_
            refine mm_iload_n dX1_gatherTones_29 rfl rfl ?_
            refine mm_if_lt 85 dX1_gatherTones_30 (by decide) (fun c_30 => ?_) (fun c_30 => ?_)
            · exact absurd c_30 (nI_pos (by omega))
            · refine mm_aload_n dX1_gatherTones_33 rfl rfl ?_
              refine mm_aload_n dX1_gatherTones_34 rfl rfl ?_
              refine mm_iload_n dX1_gatherTones_35 rfl rfl ?_
              refine mm_cV (Y1 := YX1_noteOf) dX1_gatherTones_36 lX1_132 vX1_noteOf (mX1_noteOf d g c w1 s (by first | exact g150 | (dsimp only; rw [mm_up_n (by decide)]; exact g150) | (dsimp only; rw [mm_up_n (by decide), mm_up_n (by decide)]; exact g150)) w2) sh_145 rfl rfl (by simp [Value.category]) ?_
              refine mm_aload_n dX1_gatherTones_39 rfl rfl ?_
              refine mm_getS dX1_gatherTones_40 fX1_35 sh_145 rfl gr_145_10 ?_
              refine mm_iload_n dX1_gatherTones_43 rfl rfl ?_
              refine mm_iald (r.length) dX1_gatherTones_44 sh_152 rfl hrl ?_
              refine mm_isub dX1_gatherTones_45 ?_
              refine mm_cV (Y1 := YX1_isWithin) dX1_gatherTones_46 lX1_138 vX1_isWithin (mX1_isWithin d g _) sh_145 rfl rfl (by simp [Value.category]) ?_
              refine mm_if_eq 85 dX1_gatherTones_49 (by decide) (fun c_49 => ?_) (fun c_49 => ?_)
              · exact K85 g' _ R'
              · exact absurd (by have q := bI_n0.mp c_49; rw [g146, x5, g65] at q; exact q) hw
  have S0 : ton_st 152 153 154 145 13 h (mm_up h.1 145 13 0, h.2.1, h.2.2) (tonL key str (h.1 65 10) (l.take 0)) := by
    refine ⟨rfl, fun c h1 h2 h3 h4 => ?_, fun k hk0 => ?_, ?_, fun k hk0 => ?_⟩
    · dsimp only; rw [mm_up_n h4]
    · dsimp only; rw [mm_up_k hk0]
    · dsimp only; rw [mm_up_e]; rfl
    · simp [tonL] at hk0
  obtain ⟨g', S', R'⟩ := K7 l.length 0 (by omega) _ S0
  refine ⟨g', ?_, S'⟩
  refine mm_M.of [some (.ref 145), none, none, none] rfl rfl (Nat.le_of_ble_eq_true rfl) ?_
  refine mm_aload_n dX1_gatherTones_0 rfl rfl ?_
  refine mm_iconst (x := 0) dX1_gatherTones_1 (by decide) ?_
  refine mm_putI dX1_gatherTones_2 fX1_135 sh_145 rfl rfl rfl ?_
  refine mm_iconst (x := 0) dX1_gatherTones_5 (by decide) ?_
  refine mm_istore_n dX1_gatherTones_6 rfl (by decide) rfl ?_
  exact R'
