/-! mistaken: of both. -/
def o2I (o : Option Nat) : Int32 := match o with
  | none => -2
  | some b => nI b
theorem n2 {q : Nat} (hq : q < 2 ^ 31) : ¬ nI q = -2 := fun z => by
  have := nI_toInt hq
  rw [z] at this
  have e : (-2 : Int32).toInt = -2 := by decide
  omega
/-- the leader of each chord among the sets of P -/
def Linv (ch : Nat → List Int32) (P : Nat → Prop) (ld : List Int32 → Option Nat) : Prop := (∀ c l, ld c = some l → P l ∧ ch l = c ∧ ∀ t, P t → ch t = c → l ≤ t) ∧ ∀ c, ld c = none → ∀ t, P t → ¬ ch t = c
theorem Linv_step {ch : Nat → List Int32} {P P2 : Nat → Prop} {ld : List Int32 → Option Nat} {t : Nat} (h : Linv ch P ld) (hP : ∀ s, P s → s < t) (h2 : ∀ s, P2 s ↔ P s ∨ s = t) : Linv ch P2 (lup ld (ch t) t) := by
  refine ⟨fun c l e => ?_, fun c e s hs => ?_⟩
  · unfold lup at e
    by_cases z : c = ch t
    · rw [if_pos z] at e
      cases q : ld (ch t) with
      | none =>
        rw [q] at e
        simp at e
        subst e
        refine ⟨(h2 t).mpr (Or.inr rfl), z.symm, fun s hs hc => ?_⟩
        rcases (h2 s).mp hs with y | y
        · exact absurd (hc.trans z) (h.2 _ q s y)
        · omega
      | some l0 =>
        rw [q] at e
        simp at e
        subst e
        obtain ⟨a, b, d⟩ := h.1 _ _ q
        refine ⟨(h2 _).mpr (Or.inl a), b.trans z.symm, fun s hs hc => ?_⟩
        rcases (h2 s).mp hs with y | y
        · exact d s y (hc.trans z)
        · have := hP _ a; omega
    · rw [if_neg z] at e
      obtain ⟨a, b, d⟩ := h.1 _ _ e
      refine ⟨(h2 _).mpr (Or.inl a), b, fun s hs hc => ?_⟩
      rcases (h2 s).mp hs with y | y
      · exact d s y hc
      · exact absurd (by rw [← hc, y]) z
  · unfold lup at e
    by_cases z : c = ch t
    · rw [if_pos z] at e; simp at e
    · rw [if_neg z] at e
      rcases (h2 s).mp hs with y | y
      · exact h.2 c e s y
      · rw [y]; exact fun q => z q.symm
theorem Linv_0 {ch : Nat → List Int32} {P : Nat → Prop} (hP : ∀ s, ¬ P s) : Linv ch P (fun _ => none) := ⟨fun _ _ e => by simp at e, fun _ _ t ht => absurd ht (hP t)⟩
theorem Linv_c {ch : Nat → List Int32} {P P2 : Nat → Prop} {ld : List Int32 → Option Nat} (h : Linv ch P ld) (h2 : ∀ s, P2 s ↔ P s) : Linv ch P2 ld := by
  have : P2 = P := funext (fun s => propext (h2 s))
  rw [this]; exact h
/-- the first two that are alike and not worth alike -/
def MS (ch : Nat → List Int32) (wt : Nat → Int32) (P : Nat → Prop) (o : Option (Nat × Nat)) : Prop := (o = none → ∀ a b, P a → P b → a < b → ch a = ch b → wt a = wt b) ∧ ∀ a b, o = some (a, b) → P a ∧ P b ∧ a < b ∧ ch a = ch b ∧ ¬ wt a = wt b ∧ ∀ a2 b2, P a2 → P b2 → a2 < b2 → ch a2 = ch b2 → ¬ wt a2 = wt b2 → a ≤ a2 ∧ (a2 = a → b ≤ b2)
theorem MS_u {ch : Nat → List Int32} {wt : Nat → Int32} {P : Nat → Prop} {o o2 : Option (Nat × Nat)} (h : MS ch wt P o) (h2 : MS ch wt P o2) : o = o2 := by
  cases o with
  | none => cases o2 with
    | none => rfl
    | some p =>
      obtain ⟨a, b⟩ := p
      obtain ⟨p1, p2, p3, p4, p5, -⟩ := h2.2 a b rfl
      exact absurd (h.1 rfl a b p1 p2 p3 p4) p5
  | some p =>
    obtain ⟨a, b⟩ := p
    obtain ⟨p1, p2, p3, p4, p5, p6⟩ := h.2 a b rfl
    cases o2 with
    | none => exact absurd (h2.1 rfl a b p1 p2 p3 p4) p5
    | some q =>
      obtain ⟨c, e⟩ := q
      obtain ⟨q1, q2, q3, q4, q5, q6⟩ := h2.2 c e rfl
      have x1 := p6 c e q1 q2 q3 q4 q5
      have x2 := q6 a b p1 p2 p3 p4 p5
      have ac : a = c := by omega
      subst ac
      have := x1.2 rfl
      have := x2.2 rfl
      have : b = e := by omega
      rw [this]
theorem least_ex {p : Nat → Prop} (h : ∃ n, p n) : ∃ n, p n ∧ ∀ m, p m → n ≤ m := by
  obtain ⟨n, hn⟩ := h
  induction n using Nat.strongRecOn with
  | _ n ih =>
    by_cases z : ∃ m, m < n ∧ p m
    · obtain ⟨m, m1, m2⟩ := z
      exact ih m m1 m2
    · refine ⟨n, hn, fun m hm => ?_⟩
      rcases Nat.lt_or_ge m n with q | q
      · exact absurd ⟨m, q, hm⟩ z
      · exact q
theorem MS_ex (ch : Nat → List Int32) (wt : Nat → Int32) (P : Nat → Prop) : ∃ o, MS ch wt P o := by
  by_cases z : ∃ a b, P a ∧ P b ∧ a < b ∧ ch a = ch b ∧ ¬ wt a = wt b
  · obtain ⟨a, ⟨b0, hb0⟩, ha⟩ := least_ex z
    obtain ⟨b, hb, hm⟩ := least_ex (p := fun b => P a ∧ P b ∧ a < b ∧ ch a = ch b ∧ ¬ wt a = wt b) ⟨b0, hb0⟩
    refine ⟨some (a, b), fun z => by simp at z, fun a2 b2 e => ?_⟩
    simp at e
    obtain ⟨rfl, rfl⟩ := e
    refine ⟨hb.1, hb.2.1, hb.2.2.1, hb.2.2.2.1, hb.2.2.2.2, fun a2 b2 h1 h2 h3 h4 h5 => ⟨ha a2 ⟨b2, h1, h2, h3, h4, h5⟩, fun e => ?_⟩⟩
    subst e
    exact hm b2 ⟨h1, h2, h3, h4, h5⟩
  · refine ⟨none, fun _ a b h1 h2 h3 h4 => ?_, fun a b e => by simp at e⟩
    by_cases y : wt a = wt b
    · exact y
    · exact absurd ⟨a, b, h1, h2, h3, h4, y⟩ z
theorem MS_c {ch : Nat → List Int32} {wt : Nat → Int32} {P P2 : Nat → Prop} {o : Option (Nat × Nat)} (h : MS ch wt P o) (h2 : ∀ s, P2 s ↔ P s) : MS ch wt P2 o := by
  have : P2 = P := funext (fun s => propext (h2 s))
  rw [this]; exact h
/-- one more set -/
def msn (wt : Nat → Int32) (ld : Option Nat) (o : Option (Nat × Nat)) (t : Nat) : Option (Nat × Nat) := match ld with
  | none => o
  | some l => if wt l = wt t then o else match o with
    | none => some (l, t)
    | some p => if l < p.1 then some (l, t) else some p
theorem MS_step {ch : Nat → List Int32} {wt : Nat → Int32} {P P2 : Nat → Prop} {ld : List Int32 → Option Nat} {o : Option (Nat × Nat)} {t : Nat} (h : MS ch wt P o) (hl : Linv ch P ld) (hP : ∀ s, P s → s < t) (h2 : ∀ s, P2 s ↔ P s ∨ s = t) : MS ch wt P2 (msn wt (ld (ch t)) o t) := by
  have split2 : ∀ a2 b2, P2 a2 → P2 b2 → a2 < b2 → P a2 ∧ (P b2 ∨ b2 = t) := fun a2 b2 x y z => by
    rcases (h2 a2).mp x with q | q
    · exact ⟨q, (h2 b2).mp y⟩
    · subst q
      rcases (h2 b2).mp y with w | w
      · have := hP _ w; omega
      · omega
  cases e : ld (ch t) with
  | none =>
    simp only [msn]
    refine ⟨fun eo a b x y z w => ?_, fun a b eo => ?_⟩
    · obtain ⟨s1, s2⟩ := split2 a b x y z
      rcases s2 with s2 | s2
      · exact h.1 eo a b s1 s2 z w
      · subst s2; exact absurd w (hl.2 _ e a s1)
    · obtain ⟨p1, p2, p3, p4, p5, p6⟩ := h.2 a b eo
      refine ⟨(h2 a).mpr (Or.inl p1), (h2 b).mpr (Or.inl p2), p3, p4, p5, fun a2 b2 x y z w v => ?_⟩
      obtain ⟨s1, s2⟩ := split2 a2 b2 x y z
      rcases s2 with s2 | s2
      · exact p6 a2 b2 s1 s2 z w v
      · subst s2; exact absurd w (hl.2 _ e a2 s1)
  | some l =>
    obtain ⟨l1, l2, l3⟩ := hl.1 _ _ e
    have lt := hP l l1
    simp only [msn]
    by_cases hw : wt l = wt t
    · rw [if_pos hw]
      have key : ∀ a2, P a2 → ch a2 = ch t → ¬ wt a2 = wt t → l < a2 ∧ ch l = ch a2 ∧ ¬ wt l = wt a2 := fun a2 x y z => by
        have := l3 a2 x y
        have ne : l ≠ a2 := fun q => z (by rw [← q]; exact hw)
        exact ⟨by omega, l2.trans y.symm, fun q => z (q.symm.trans hw)⟩
      refine ⟨fun eo a b x y z w => ?_, fun a b eo => ?_⟩
      · obtain ⟨s1, s2⟩ := split2 a b x y z
        rcases s2 with s2 | s2
        · exact h.1 eo a b s1 s2 z w
        · subst s2
          by_cases v : wt a = wt b
          · exact v
          · obtain ⟨k1, k2, k3⟩ := key a s1 w v
            exact absurd (h.1 eo l a l1 s1 k1 k2) k3
      · obtain ⟨p1, p2, p3, p4, p5, p6⟩ := h.2 a b eo
        refine ⟨(h2 a).mpr (Or.inl p1), (h2 b).mpr (Or.inl p2), p3, p4, p5, fun a2 b2 x y z w v => ?_⟩
        obtain ⟨s1, s2⟩ := split2 a2 b2 x y z
        rcases s2 with s2 | s2
        · exact p6 a2 b2 s1 s2 z w v
        · subst s2
          obtain ⟨k1, k2, k3⟩ := key a2 s1 w v
          have := p6 l a2 l1 s1 k1 k2 k3
          exact ⟨by omega, fun q => by omega⟩
    · rw [if_neg hw]
      have new : ∀ a2, P a2 → ch a2 = ch t → l ≤ a2 := fun a2 x y => l3 a2 x y
      have mk : (∀ a2 b2, P a2 → P b2 → a2 < b2 → ch a2 = ch b2 → ¬ wt a2 = wt b2 → l < a2) → MS ch wt P2 (some (l, t)) := fun hold => by
        refine ⟨fun z => by simp at z, fun a b eo => ?_⟩
        simp at eo
        obtain ⟨rfl, rfl⟩ := eo
        refine ⟨(h2 l).mpr (Or.inl l1), (h2 t).mpr (Or.inr rfl), lt, l2, hw, fun a2 b2 x y z w v => ?_⟩
        obtain ⟨s1, s2⟩ := split2 a2 b2 x y z
        rcases s2 with s2 | s2
        · have := hold a2 b2 s1 s2 z w v; exact ⟨by omega, fun q => by omega⟩
        · subst s2; exact ⟨new a2 s1 w, fun _ => Nat.le_refl _⟩
      cases o with
      | none => exact mk (fun a2 b2 x y z w v => absurd (h.1 rfl a2 b2 x y z w) v)
      | some p =>
        obtain ⟨a, b⟩ := p
        obtain ⟨p1, p2, p3, p4, p5, p6⟩ := h.2 a b rfl
        dsimp only
        by_cases q : l < a
        · rw [if_pos q]
          exact mk (fun a2 b2 x y z w v => by have := p6 a2 b2 x y z w v; omega)
        · rw [if_neg q]
          refine ⟨fun z => by simp at z, fun a0 b0 eo => ?_⟩
          simp at eo
          obtain ⟨rfl, rfl⟩ := eo
          refine ⟨(h2 a).mpr (Or.inl p1), (h2 b).mpr (Or.inl p2), p3, p4, p5, fun a2 b2 x y z w v => ?_⟩
          obtain ⟨s1, s2⟩ := split2 a2 b2 x y z
          rcases s2 with s2 | s2
          · exact p6 a2 b2 s1 s2 z w v
          · subst s2
            have := new a2 s1 w
            have := hP b p2
            exact ⟨by omega, fun _ => by omega⟩
/-- the sets within W of at most q coins -/
abbrev dom (W q t : Nat) : Prop := sub t W ∧ pc t ≤ q
/-- of these the first i have been met -/
def PR (W q i t : Nat) : Prop := pc t ≤ q ∧ ∃ j, j < i ∧ t = sbs W j
theorem PR_s {W q i t : Nat} (hq : pc (sbs W i) ≤ q) : PR W q (i + 1) t ↔ PR W q i t ∨ t = sbs W i := by
  constructor
  · rintro ⟨h1, j, hj, e⟩
    by_cases z : j = i
    · subst z; exact Or.inr e
    · exact Or.inl ⟨h1, j, by omega, e⟩
  · rintro (⟨h1, j, hj, e⟩ | e)
    · exact ⟨h1, j, by omega, e⟩
    · exact ⟨by rw [e]; exact hq, i, by omega, e⟩
theorem PR_n {W q i t : Nat} (hq : ¬ pc (sbs W i) ≤ q) : PR W q (i + 1) t ↔ PR W q i t := by
  constructor
  · rintro ⟨h1, j, hj, e⟩
    by_cases z : j = i
    · subst z; rw [e] at h1; exact absurd h1 hq
    · exact ⟨h1, j, by omega, e⟩
  · rintro ⟨h1, j, hj, e⟩
    exact ⟨h1, j, by omega, e⟩
theorem PR_all {W q t : Nat} (h : W < 4096) : PR W q (2 ^ pc W) t ↔ dom W q t := by
  constructor
  · rintro ⟨h1, j, hj, e⟩
    exact ⟨by rw [e]; exact sbs_sub W j, h1⟩
  · rintro ⟨h1, h2⟩
    obtain ⟨j, hj, e⟩ := sbs_onto h h1
    exact ⟨h2, j, hj, e.symm⟩
theorem PR_lt {W q i t : Nat} (h : W < 4096) (hi : i < 2 ^ pc W) (hp : PR W q i t) : t < sbs W i := by
  obtain ⟨-, j, hj, e⟩ := hp
  rw [e]
  exact sbs_lt h hj hi
theorem PR_dom {W q i t : Nat} (hp : PR W q i t) : dom W q t := by
  obtain ⟨h1, j, hj, e⟩ := hp
  exact ⟨by rw [e]; exact sbs_sub W j, h1⟩
/-- all of the sets before the i-th have been met -/
theorem PR_bel {W q i t : Nat} (h : W < 4096) (hi : i < 2 ^ pc W) (hd : dom W q t) (ht : t < sbs W i) : PR W q i t := by
  obtain ⟨j, hj, e⟩ := sbs_onto h hd.1
  refine ⟨hd.2, j, ?_, e.symm⟩
  rcases (show j < i ∨ j = i ∨ i < j by omega) with z | z | z
  · exact z
  · subst z; omega
  · have := sbs_lt h z hj; omega
/-- how many chords -/
noncomputable def nst (W q : Nat) (ch : Nat → List Int32) (c t : Nat) : Nat := by
  classical
  exact if pc t ≤ q ∧ ∀ b, b < t → dom W q b → ¬ ch b = ch t then c + 1 else c
theorem nst_y {W q : Nat} {ch : Nat → List Int32} {c t : Nat} (h : pc t ≤ q ∧ ∀ b, b < t → dom W q b → ¬ ch b = ch t) : nst W q ch c t = c + 1 := by unfold nst; rw [if_pos h]
theorem nst_n {W q : Nat} {ch : Nat → List Int32} {c t : Nat} (h : ¬ (pc t ≤ q ∧ ∀ b, b < t → dom W q b → ¬ ch b = ch t)) : nst W q ch c t = c := by unfold nst; rw [if_neg h]
def msA (o : Option (Nat × Nat)) (c : Nat) (w : Int32) : Int32 := if w = 0 then o2I (o.map (fun p => p.1)) else if w = 1 then o2I (o.map (fun p => p.2)) else nI c
set_option maxRecDepth 100000 in
set_option maxHeartbeats 4000000 in
theorem mX2_mistakes (d : Nat) (h : mm_H) (A : MD) (hA : mdOK A) (Q : LD) (r : Nat) (hr : r < 6) (hQ : lawOK Q) (k : Nat) (hk : k < mk A) (hW : aimed A Q r k h) (G : Nat) (hG : gcn h G) (hGb : G + 1 < 2 ^ 31) (W : Nat) (hWn : W < 2 ^ mn A) (q : Nat) (hq : q ≤ 12) (w : Int32) (hw : w = 0 ∨ w = 1 ∨ w = 2) : ∃ o g, mm_M (d + 6) YX2_mistakes [.ref 159, .int (nI W), .int (nI q), .int w] h (some (.int (msA o (foldS W (nst W q (chd A Q k)) 0 (2 ^ pc W)) w))) g ∧ MS (chd A Q k) (wtA A) (dom W q) o ∧ aimed A Q r k g ∧ (frm (fun c => rg 135 154 c) h g ∧ (∀ j, j ≠ 6 → j ≠ 11 → g.1 135 j = h.1 135 j)) ∧ gcn g (G + 1) := by
  suffices hE : mm_E (d + 6) YX2_mistakes 0 [some (.ref 159), some (.int (nI W)), some (.int (nI q)), some (.int w), none, none, none, none, none, none, none, none] [] h (fun v g => ∃ o, MS (chd A Q k) (wtA A) (dom W q) o ∧ v = some (.int (msA o (foldS W (nst W q (chd A Q k)) 0 (2 ^ pc W)) w)) ∧ aimed A Q r k g ∧ (frm (fun c => rg 135 154 c) h g ∧ (∀ j, j ≠ 6 → j ≠ 11 → g.1 135 j = h.1 135 j)) ∧ gcn g (G + 1)) by
    obtain ⟨v, g, hR, o, h1, rfl, h2⟩ := hE
    exact ⟨o, g, mm_M.of _ rfl rfl (Nat.le_of_ble_eq_true rfl) hR, h1, h2⟩
  have h12 := hA.1
  have hp := p2_lt h12
  have hW4 : W < 4096 := by omega
  have hpW := pc_le hW4
  have hp2 := p2_lt hpW
  obtain ⟨g1, M1, a1, a2, a3, a4⟩ := mX0_learnWithin d h A hA Q r hr hQ k hk hW W hWn q hq
  have c1 := a2.gcn hG
  have M2 := mX0_beginGroups (d + 5) g1 G c1.1
  obtain ⟨b1, b2⟩ := begun hr a1 c1 hGb
  obtain ⟨g2, eg2⟩ : ∃ g2 : mm_H, g2 = (mm_up g1.1 135 11 (nI (G + 1)), g1.2.1, g1.2.2) := ⟨_, rfl⟩
  rw [← eg2] at M2 b1 b2
  have f2 : frm (fun c => rg 135 154 c) h g2 ∧ (∀ j, j ≠ 6 → j ≠ 11 → g2.1 135 j = h.1 135 j) := by
    rw [eg2]
    refine ⟨(a2.1.mono (fun c hc => ?_)).up rfl, fun j h1 h2 => by dsimp only; rw [mm_up_k h2]; exact a2.2 j h1⟩
    simp only [rg, decide_eq_false_iff_not] at hc
    simp only [pC, Bool.or_eq_false_iff]
    exact ⟨rg_f (by omega), rg_f (by omega)⟩
  have l2 : ∀ t, dom W q t → ¬ g2.1 136 t = 0 := fun t ht => by
    rw [eg2]; dsimp only; rw [mm_up_n (by decide)]; exact a4 t ht.1 ht.2
  have dlt : ∀ t, dom W q t → t < 2 ^ mn A := fun t ht => by have := sub_le ht.1; omega
  have K41 : ∀ m i, i + m = 2 ^ pc W → ∀ g o ld, grp_fr g2 g → gst A Q k g (G + 1) ld (fun _ => False) → Linv (chd A Q k) (PR W q i) ld → MS (chd A Q k) (wtA A) (PR W q i) o → (foldS W (nst W q (chd A Q k)) 0 i) ≤ i → mm_E (d + 6) YX2_mistakes 41 [some (.ref 159), some (.int (nI W)), some (.int (nI q)), some (.int w), some (.int (o2I (o.map (fun p => p.1)))), some (.int (o2I (o.map (fun p => p.2)))), some (.int (nI (foldS W (nst W q (chd A Q k)) 0 i))), some (.int (nI (2 ^ pc W))), some (.int (nI (sbs W i))), some (.int (nI i)), none, none] [] g (fun v g => ∃ o, MS (chd A Q k) (wtA A) (dom W q) o ∧ v = some (.int (msA o (foldS W (nst W q (chd A Q k)) 0 (2 ^ pc W)) w)) ∧ aimed A Q r k g ∧ (frm (fun c => rg 135 154 c) h g ∧ (∀ j, j ≠ 6 → j ≠ 11 → g.1 135 j = h.1 135 j)) ∧ gcn g (G + 1)) := by
    intro m
    induction m with
    | zero =>
      intro i hi g o ld fg hs hl hm hcn
      have hi : i = 2 ^ pc W := by omega
      subst hi
      have hpost : MS (chd A Q k) (wtA A) (dom W q) o ∧ aimed A Q r k g ∧ (frm (fun c => rg 135 154 c) h g ∧ (∀ j, j ≠ 6 → j ≠ 11 → g.1 135 j = h.1 135 j)) ∧ gcn g (G + 1) := by
        refine ⟨MS_c hm (fun s => (PR_all hW4).symm), fg.aimed hr b1, ⟨f2.1.trans (fg.mono (fun c hc => ?_)), fun j h1 h2 => by rw [fg.i rfl]; exact f2.2 j h1 h2⟩, hs.cn⟩
        simp only [rg, decide_eq_false_iff_not] at hc
        exact rg_f (by omega)
      obtain ⟨p1, p2⟩ := hpost
      rcases hw with rfl | rfl | rfl
      · skip
        refine mm_Es (fun _ _ => mm_iload dX2_mistakes_41 rfl) ?_
        refine mm_Es (fun _ _ => mm_iload dX2_mistakes_43 rfl) ?_
        refine mm_Eb (fun _ _ => mm_icmp_ge 154 dX2_mistakes_45 (by decide)) (fun c_45 => ?_) (fun c_45 => ?_)
        · refine mm_Es (fun _ _ => mm_iload_n dX2_mistakes_154 rfl rfl) ?_
          refine mm_Es (fun _ _ => mm_lookup (off := 25) 180 dX2_mistakes_155 (by decide) (by decide) (by decide)) ?_
          refine mm_Es (fun _ _ => mm_iload dX2_mistakes_180 rfl) ?_
          refine mm_Er (mm_ireturn dX2_mistakes_182 rfl) ?_
          exact ⟨o, p1, by unfold msA; rw [if_pos rfl], p2⟩
        · exact absurd (Int32.le_refl _) c_45
      · skip
        refine mm_Es (fun _ _ => mm_iload dX2_mistakes_41 rfl) ?_
        refine mm_Es (fun _ _ => mm_iload dX2_mistakes_43 rfl) ?_
        refine mm_Eb (fun _ _ => mm_icmp_ge 154 dX2_mistakes_45 (by decide)) (fun c_45 => ?_) (fun c_45 => ?_)
        · refine mm_Es (fun _ _ => mm_iload_n dX2_mistakes_154 rfl rfl) ?_
          refine mm_Es (fun _ _ => mm_lookup (off := 28) 183 dX2_mistakes_155 (by decide) (by decide) (by decide)) ?_
          refine mm_Es (fun _ _ => mm_iload dX2_mistakes_183 rfl) ?_
          refine mm_Er (mm_ireturn dX2_mistakes_185 rfl) ?_
          exact ⟨o, p1, by unfold msA; rw [if_neg (by decide), if_pos rfl], p2⟩
        · exact absurd (Int32.le_refl _) c_45
      · skip
        refine mm_Es (fun _ _ => mm_iload dX2_mistakes_41 rfl) ?_
        refine mm_Es (fun _ _ => mm_iload dX2_mistakes_43 rfl) ?_
        refine mm_Eb (fun _ _ => mm_icmp_ge 154 dX2_mistakes_45 (by decide)) (fun c_45 => ?_) (fun c_45 => ?_)
        · refine mm_Es (fun _ _ => mm_iload_n dX2_mistakes_154 rfl rfl) ?_
          refine mm_Es (fun _ _ => mm_lookup (off := 31) 186 dX2_mistakes_155 (by decide) (by decide) (by decide)) ?_
          refine mm_Es (fun _ _ => mm_iload dX2_mistakes_186 rfl) ?_
          refine mm_Er (mm_ireturn dX2_mistakes_188 rfl) ?_
          exact ⟨o, p1, by unfold msA; rw [if_neg (by decide), if_neg (by decide)], p2⟩
        · exact absurd (Int32.le_refl _) c_45
    | succ m ih =>
      intro i hi g o ld fg hs hl hm hcn
      have hin : i < 2 ^ pc W := by omega
      have hsW := sbs_le (i := i) hW4
      have nx := nxt_sbs hW4 hin
      have hpt := pc_le (show sbs W i < 4096 by omega)
      have hc1 : foldS W (nst W q (chd A Q k)) 0 (i + 1) = nst W q (chd A Q k) (foldS W (nst W q (chd A Q k)) 0 i) (sbs W i) := rfl
      by_cases hb : pc (sbs W i) ≤ q
      · have hd : dom W q (sbs W i) := ⟨sbs_sub W i, hb⟩
        have hlg : ¬ g.1 136 (sbs W i) = 0 := by rw [fg.i rfl]; exact l2 _ hd
        have hag := fg.aimed hr b1
        obtain ⟨g3, M3, fr3, hs3⟩ := mX0_leaderOf (d + 5) g A hA Q r hr k hag (G + 1) hGb ld (fun _ => False) hs (sbs W i) (dlt _ hd) hlg
        have fg3 := fg.trans fr3
        have hl3 := Linv_step hl (fun s hs => PR_lt hW4 hin hs) (fun s => PR_s (t := s) hb)
        have hm3 := MS_step hm hl (fun s hs => PR_lt hW4 hin hs) (fun s => PR_s (t := s) hb)
        obtain ⟨t, et⟩ : ∃ t, t = sbs W i := ⟨_, rfl⟩
        have wt_t : g3.1 137 t = wtA A t := by rw [et]; exact (fr3.aimed hr hag).wt (dlt _ hd) (by rw [fr3.i rfl]; exact hlg)
        rw [← et] at M3 hs3 hl3 hm3 hc1 nx hd hpt hlg ⊢
        cases e : ld (chd A Q k t) with
        | none =>
          rw [e] at M3 hm3
          simp only [Option.getD_none] at M3
          simp only [msn] at hm3
          have hnew : nst W q (chd A Q k) (foldS W (nst W q (chd A Q k)) 0 i) t = (foldS W (nst W q (chd A Q k)) 0 i) + 1 := nst_y ⟨by rw [et]; exact hb, fun b hb2 hdb => hl.2 _ e b (PR_bel hW4 hin hdb (by rw [← et]; exact hb2))⟩
          rw [hnew] at hc1
          have K := ih (i + 1) (by omega) g3 o _ fg3 hs3 hl3 hm3 (by omega)
          rw [hc1] at K
          have K140 : ∀ x10 x11, mm_E (d + 6) YX2_mistakes 140 [some (.ref 159), some (.int (nI W)), some (.int (nI q)), some (.int w), some (.int (o2I (o.map (fun p => p.1)))), some (.int (o2I (o.map (fun p => p.2)))), some (.int (nI ((foldS W (nst W q (chd A Q k)) 0 i) + 1))), some (.int (nI (2 ^ pc W))), some (.int (nI t)), some (.int (nI i)), x10, x11] [] g3 (fun v g => ∃ o, MS (chd A Q k) (wtA A) (dom W q) o ∧ v = some (.int (msA o (foldS W (nst W q (chd A Q k)) 0 (2 ^ pc W)) w)) ∧ aimed A Q r k g ∧ (frm (fun c => rg 135 154 c) h g ∧ (∀ j, j ≠ 6 → j ≠ 11 → g.1 135 j = h.1 135 j)) ∧ gcn g (G + 1)) := by
            intro x10 x11
            refine mm_Es (fun _ _ => mm_iload dX2_mistakes_140 rfl) ?_
            refine mm_Es (fun _ _ => mm_iload_n dX2_mistakes_142 rfl rfl) ?_
            refine mm_Es (fun _ _ => mm_cSN (Y1 := YX10_nextWithin) dX2_mistakes_143 (List.Mem.tail _ (List.Mem.head _)) sX10_nextWithin (mX10_nextWithin (d + 5) g3 (nI t) (nI W)) rfl rfl (by simp [Value.category])) ?_
            refine mm_Es (fun _ _ => mm_istore dX2_mistakes_146 (by decide) rfl) ?_
            refine mm_Es (fun _ _ => mm_iinc dX2_mistakes_148 rfl (nI_inc i) rfl) ?_
            refine mm_Es (fun _ _ => mm_goto 41 dX2_mistakes_151 (by decide)) ?_
            refine mm_El ?_ K
            exact ⟨rfl, rfl, rfl, rfl, rfl, rfl, rfl, rfl, by rw [nx], rfl, trivial⟩
          refine mm_Es (fun _ _ => mm_iload dX2_mistakes_41 rfl) ?_
          refine mm_Es (fun _ _ => mm_iload dX2_mistakes_43 rfl) ?_
          refine mm_Eb (fun _ _ => mm_icmp_ge 154 dX2_mistakes_45 (by decide)) (fun c_45 => ?_) (fun c_45 => ?_)
          · exact absurd c_45 (nI_ge hin (by omega))
          · refine mm_Es (fun _ _ => mm_iload dX2_mistakes_48 rfl) ?_
            refine mm_Es (fun _ _ => mm_cS (Y1 := YJ6_bitCount_0f7a4) dX2_mistakes_50 lX2_36 sJ6_bitCount_0f7a4 (mJ6_bitCount_0f7a4 (d + 5) g t (by have := sub_le hd.1; omega)) rfl rfl (by simp [Value.category])) ?_
            refine mm_Es (fun _ _ => mm_iload_n dX2_mistakes_53 rfl rfl) ?_
            refine mm_Eb (fun _ _ => mm_icmp_gt 140 dX2_mistakes_54 (by decide)) (fun c_54 => ?_) (fun c_54 => ?_)
            · exact absurd c_54 (nI_nlt (by rw [et]; exact hb) (by omega))
            · refine mm_Es (fun _ _ => mm_aload_n dX2_mistakes_57 rfl rfl) ?_
              refine mm_Es (fun _ _ => mm_getS dX2_mistakes_58 fX2_32 sh_159 rfl gr_159_1) ?_
              refine mm_Es (fun _ _ => mm_iload dX2_mistakes_61 rfl) ?_
              refine mm_Es (fun _ _ => mm_cV (Y1 := YX0_leaderOf) dX2_mistakes_63 lX2_82 vX0_leaderOf (M3) sh_135 rfl rfl (by simp [Value.category])) ?_
              refine mm_Es (fun _ _ => mm_istore dX2_mistakes_66 (by decide) rfl) ?_
              refine mm_Es (fun _ _ => mm_iload dX2_mistakes_68 rfl) ?_
              refine mm_Es (fun _ _ => mm_iload dX2_mistakes_70 rfl) ?_
              refine mm_Es (fun _ _ => mm_iload dX2_mistakes_72 rfl) ?_
              refine mm_Ebn (fun _ _ => mm_icmp_ne 81 dX2_mistakes_74 (by decide)) (fun c_74 => ?_) (fun c_74 => ?_)
              · exact absurd rfl c_74
              · refine mm_Es (fun _ _ => mm_iconst (x := 1) dX2_mistakes_77 (by decide)) ?_
                refine mm_Es (fun _ _ => mm_goto 82 dX2_mistakes_78 (by decide)) ?_
                refine mm_Es (fun _ _ => mm_iadd dX2_mistakes_82) ?_
                refine mm_Es (fun _ _ => mm_istore dX2_mistakes_83 (by decide) rfl) ?_
                refine mm_Es (fun _ _ => mm_iload dX2_mistakes_85 rfl) ?_
                refine mm_Es (fun _ _ => mm_bipush (x := (-2)) dX2_mistakes_87 (by decide)) ?_
                refine mm_Eb (fun _ _ => mm_icmp_eq 99 dX2_mistakes_89 (by decide)) (fun c_89 => ?_) (fun c_89 => ?_)
                · refine mm_Es (fun _ _ => mm_iconst (x := 1) dX2_mistakes_99 (by decide)) ?_
                  refine mm_Es (fun _ _ => mm_goto 104 dX2_mistakes_100 (by decide)) ?_
                  refine mm_Es (fun _ _ => mm_istore dX2_mistakes_104 (by decide) rfl) ?_
                  refine mm_Es (fun _ _ => mm_iload dX2_mistakes_106 rfl) ?_
                  refine mm_Eb (fun _ _ => mm_if_eq 140 dX2_mistakes_108 (by decide)) (fun c_108 => ?_) (fun c_108 => ?_)
                  · exact absurd c_108 (by decide)
                  · refine mm_Es (fun _ _ => mm_aload_n dX2_mistakes_111 rfl rfl) ?_
                    refine mm_Es (fun _ _ => mm_getS dX2_mistakes_112 fX2_32 sh_159 rfl gr_159_1) ?_
                    refine mm_Es (fun _ _ => mm_iload dX2_mistakes_115 rfl) ?_
                    refine mm_Es (fun _ _ => mm_cV (Y1 := YX0_worthOf) dX2_mistakes_117 lX2_64 vX0_worthOf (mX0_worthOf (d + 5) g3 t (by have := sub_le hd.1; omega)) sh_135 rfl rfl (by simp [Value.category])) ?_
                    refine mm_Es (fun _ _ => mm_aload_n dX2_mistakes_120 rfl rfl) ?_
                    refine mm_Es (fun _ _ => mm_getS dX2_mistakes_121 fX2_32 sh_159 rfl gr_159_1) ?_
                    refine mm_Es (fun _ _ => mm_iload dX2_mistakes_124 rfl) ?_
                    refine mm_Es (fun _ _ => mm_cV (Y1 := YX0_worthOf) dX2_mistakes_126 lX2_64 vX0_worthOf (mX0_worthOf (d + 5) g3 t (by have := sub_le hd.1; omega)) sh_135 rfl rfl (by simp [Value.category])) ?_
                    refine mm_Eb (fun _ _ => mm_icmp_eq 140 dX2_mistakes_129 (by decide)) (fun c_129 => ?_) (fun c_129 => ?_)
                    · exact mm_Es (fun _ _ => mm_cast (by rw [nI_1]; rfl) rfl rfl) (K140 _ _)
                    · exact absurd rfl c_129
                · refine mm_Es (fun _ _ => mm_iload dX2_mistakes_92 rfl) ?_
                  refine mm_Es (fun _ _ => mm_iload dX2_mistakes_94 rfl) ?_
                  refine mm_Eb (fun _ _ => mm_icmp_ge 103 dX2_mistakes_96 (by decide)) (fun c_96 => ?_) (fun c_96 => ?_)
                  · refine mm_Es (fun _ _ => mm_iconst (x := 0) dX2_mistakes_103 (by decide)) ?_
                    refine mm_Es (fun _ _ => mm_istore dX2_mistakes_104 (by decide) rfl) ?_
                    refine mm_Es (fun _ _ => mm_iload dX2_mistakes_106 rfl) ?_
                    refine mm_Eb (fun _ _ => mm_if_eq 140 dX2_mistakes_108 (by decide)) (fun c_108 => ?_) (fun c_108 => ?_)
                    · exact mm_Es (fun _ _ => mm_cast (by rw [nI_1]; rfl) rfl rfl) (K140 _ _)
                    · exact absurd c_108 (by decide)
                  · refine mm_Es (fun _ _ => mm_iconst (x := 1) dX2_mistakes_99 (by decide)) ?_
                    refine mm_Es (fun _ _ => mm_goto 104 dX2_mistakes_100 (by decide)) ?_
                    refine mm_Es (fun _ _ => mm_istore dX2_mistakes_104 (by decide) rfl) ?_
                    refine mm_Es (fun _ _ => mm_iload dX2_mistakes_106 rfl) ?_
                    refine mm_Eb (fun _ _ => mm_if_eq 140 dX2_mistakes_108 (by decide)) (fun c_108 => ?_) (fun c_108 => ?_)
                    · exact absurd c_108 (by decide)
                    · refine mm_Es (fun _ _ => mm_aload_n dX2_mistakes_111 rfl rfl) ?_
                      refine mm_Es (fun _ _ => mm_getS dX2_mistakes_112 fX2_32 sh_159 rfl gr_159_1) ?_
                      refine mm_Es (fun _ _ => mm_iload dX2_mistakes_115 rfl) ?_
                      refine mm_Es (fun _ _ => mm_cV (Y1 := YX0_worthOf) dX2_mistakes_117 lX2_64 vX0_worthOf (mX0_worthOf (d + 5) g3 t (by have := sub_le hd.1; omega)) sh_135 rfl rfl (by simp [Value.category])) ?_
                      refine mm_Es (fun _ _ => mm_aload_n dX2_mistakes_120 rfl rfl) ?_
                      refine mm_Es (fun _ _ => mm_getS dX2_mistakes_121 fX2_32 sh_159 rfl gr_159_1) ?_
                      refine mm_Es (fun _ _ => mm_iload dX2_mistakes_124 rfl) ?_
                      refine mm_Es (fun _ _ => mm_cV (Y1 := YX0_worthOf) dX2_mistakes_126 lX2_64 vX0_worthOf (mX0_worthOf (d + 5) g3 t (by have := sub_le hd.1; omega)) sh_135 rfl rfl (by simp [Value.category])) ?_
                      refine mm_Eb (fun _ _ => mm_icmp_eq 140 dX2_mistakes_129 (by decide)) (fun c_129 => ?_) (fun c_129 => ?_)
                      · exact mm_Es (fun _ _ => mm_cast (by rw [nI_1]; rfl) rfl rfl) (K140 _ _)
                      · exact absurd rfl c_129
        | some l =>
          obtain ⟨u1, u2, u3⟩ := hl.1 _ _ e
          have ult := PR_lt hW4 hin u1
          rw [← et] at ult
          have hdl := PR_dom u1
          have wt_l : g3.1 137 l = wtA A l := (fr3.aimed hr hag).wt (dlt _ hdl) (by rw [fg3.i rfl]; exact l2 _ hdl)
          have ht4 : t < 4096 := by have := sub_le hd.1; omega
          rw [e] at M3 hm3
          simp only [Option.getD_some] at M3
          have hold : nst W q (chd A Q k) (foldS W (nst W q (chd A Q k)) 0 i) t = (foldS W (nst W q (chd A Q k)) 0 i) := nst_n (fun z => z.2 l ult hdl u2)
          rw [hold] at hc1
          have K := ih (i + 1) (by omega) g3 _ _ fg3 hs3 hl3 hm3 (by omega)
          rw [hc1] at K
          have K140 : ∀ o', o' = msn (wtA A) (some l) o t → ∀ x10 x11, mm_E (d + 6) YX2_mistakes 140 [some (.ref 159), some (.int (nI W)), some (.int (nI q)), some (.int w), some (.int (o2I (o'.map (fun p => p.1)))), some (.int (o2I (o'.map (fun p => p.2)))), some (.int (nI (foldS W (nst W q (chd A Q k)) 0 i))), some (.int (nI (2 ^ pc W))), some (.int (nI t)), some (.int (nI i)), x10, x11] [] g3 (fun v g => ∃ o, MS (chd A Q k) (wtA A) (dom W q) o ∧ v = some (.int (msA o (foldS W (nst W q (chd A Q k)) 0 (2 ^ pc W)) w)) ∧ aimed A Q r k g ∧ (frm (fun c => rg 135 154 c) h g ∧ (∀ j, j ≠ 6 → j ≠ 11 → g.1 135 j = h.1 135 j)) ∧ gcn g (G + 1)) := by
            intro o' eo x10 x11
            rw [← eo] at K
            refine mm_Es (fun _ _ => mm_iload dX2_mistakes_140 rfl) ?_
            refine mm_Es (fun _ _ => mm_iload_n dX2_mistakes_142 rfl rfl) ?_
            refine mm_Es (fun _ _ => mm_cSN (Y1 := YX10_nextWithin) dX2_mistakes_143 (List.Mem.tail _ (List.Mem.head _)) sX10_nextWithin (mX10_nextWithin (d + 5) g3 (nI t) (nI W)) rfl rfl (by simp [Value.category])) ?_
            refine mm_Es (fun _ _ => mm_istore dX2_mistakes_146 (by decide) rfl) ?_
            refine mm_Es (fun _ _ => mm_iinc dX2_mistakes_148 rfl (nI_inc i) rfl) ?_
            refine mm_Es (fun _ _ => mm_goto 41 dX2_mistakes_151 (by decide)) ?_
            refine mm_El ?_ K
            exact ⟨rfl, rfl, rfl, rfl, rfl, rfl, rfl, rfl, by rw [nx], rfl, trivial⟩
          have hne : ¬ nI l = nI t := fun z => by have := nI_inj (by omega) (by omega) z; omega
          have z0 : ∀ x : Int32, x + 0 = x := Int32.add_zero
          cases o with
          | none =>
            refine mm_Es (fun _ _ => mm_iload dX2_mistakes_41 rfl) ?_
            refine mm_Es (fun _ _ => mm_iload dX2_mistakes_43 rfl) ?_
            refine mm_Eb (fun _ _ => mm_icmp_ge 154 dX2_mistakes_45 (by decide)) (fun c_45 => ?_) (fun c_45 => ?_)
            · exact absurd c_45 (nI_ge hin (by omega))
            · refine mm_Es (fun _ _ => mm_iload dX2_mistakes_48 rfl) ?_
              refine mm_Es (fun _ _ => mm_cS (Y1 := YJ6_bitCount_0f7a4) dX2_mistakes_50 lX2_36 sJ6_bitCount_0f7a4 (mJ6_bitCount_0f7a4 (d + 5) g t (by have := sub_le hd.1; omega)) rfl rfl (by simp [Value.category])) ?_
              refine mm_Es (fun _ _ => mm_iload_n dX2_mistakes_53 rfl rfl) ?_
              refine mm_Eb (fun _ _ => mm_icmp_gt 140 dX2_mistakes_54 (by decide)) (fun c_54 => ?_) (fun c_54 => ?_)
              · exact absurd c_54 (nI_nlt (by rw [et]; exact hb) (by omega))
              · refine mm_Es (fun _ _ => mm_aload_n dX2_mistakes_57 rfl rfl) ?_
                refine mm_Es (fun _ _ => mm_getS dX2_mistakes_58 fX2_32 sh_159 rfl gr_159_1) ?_
                refine mm_Es (fun _ _ => mm_iload dX2_mistakes_61 rfl) ?_
                refine mm_Es (fun _ _ => mm_cV (Y1 := YX0_leaderOf) dX2_mistakes_63 lX2_82 vX0_leaderOf (M3) sh_135 rfl rfl (by simp [Value.category])) ?_
                refine mm_Es (fun _ _ => mm_istore dX2_mistakes_66 (by decide) rfl) ?_
                refine mm_Es (fun _ _ => mm_iload dX2_mistakes_68 rfl) ?_
                refine mm_Es (fun _ _ => mm_iload dX2_mistakes_70 rfl) ?_
                refine mm_Es (fun _ _ => mm_iload dX2_mistakes_72 rfl) ?_
                refine mm_Ebn (fun _ _ => mm_icmp_ne 81 dX2_mistakes_74 (by decide)) (fun c_74 => ?_) (fun c_74 => ?_)
                · refine mm_Es (fun _ _ => mm_iconst (x := 0) dX2_mistakes_81 (by decide)) ?_
                  refine mm_Es (fun _ _ => mm_iadd dX2_mistakes_82) ?_
                  refine mm_Es (fun _ _ => mm_istore dX2_mistakes_83 (by decide) rfl) ?_
                  refine mm_Es (fun _ _ => mm_iload dX2_mistakes_85 rfl) ?_
                  refine mm_Es (fun _ _ => mm_bipush (x := (-2)) dX2_mistakes_87 (by decide)) ?_
                  refine mm_Eb (fun _ _ => mm_icmp_eq 99 dX2_mistakes_89 (by decide)) (fun c_89 => ?_) (fun c_89 => ?_)
                  · refine mm_Es (fun _ _ => mm_iconst (x := 1) dX2_mistakes_99 (by decide)) ?_
                    refine mm_Es (fun _ _ => mm_goto 104 dX2_mistakes_100 (by decide)) ?_
                    refine mm_Es (fun _ _ => mm_istore dX2_mistakes_104 (by decide) rfl) ?_
                    refine mm_Es (fun _ _ => mm_iload dX2_mistakes_106 rfl) ?_
                    refine mm_Eb (fun _ _ => mm_if_eq 140 dX2_mistakes_108 (by decide)) (fun c_108 => ?_) (fun c_108 => ?_)
                    · exact absurd c_108 (by decide)
                    · refine mm_Es (fun _ _ => mm_aload_n dX2_mistakes_111 rfl rfl) ?_
                      refine mm_Es (fun _ _ => mm_getS dX2_mistakes_112 fX2_32 sh_159 rfl gr_159_1) ?_
                      refine mm_Es (fun _ _ => mm_iload dX2_mistakes_115 rfl) ?_
                      refine mm_Es (fun _ _ => mm_cV (Y1 := YX0_worthOf) dX2_mistakes_117 lX2_64 vX0_worthOf (mX0_worthOf (d + 5) g3 l (by omega)) sh_135 rfl rfl (by simp [Value.category])) ?_
                      refine mm_Es (fun _ _ => mm_aload_n dX2_mistakes_120 rfl rfl) ?_
                      refine mm_Es (fun _ _ => mm_getS dX2_mistakes_121 fX2_32 sh_159 rfl gr_159_1) ?_
                      refine mm_Es (fun _ _ => mm_iload dX2_mistakes_124 rfl) ?_
                      refine mm_Es (fun _ _ => mm_cV (Y1 := YX0_worthOf) dX2_mistakes_126 lX2_64 vX0_worthOf (mX0_worthOf (d + 5) g3 t (by have := sub_le hd.1; omega)) sh_135 rfl rfl (by simp [Value.category])) ?_
                      refine mm_Eb (fun _ _ => mm_icmp_eq 140 dX2_mistakes_129 (by decide)) (fun c_129 => ?_) (fun c_129 => ?_)
                      · have hw2 : wtA A l = wtA A t := by rw [wt_l, wt_t] at c_129; exact c_129
                        have K9 := K140 none (by simp only [msn]; rw [if_pos hw2])
                        exact mm_Es (fun _ _ => mm_cast (by rw [z0]; rfl) rfl rfl) (K9 _ _)
                      · have hw2 : ¬ wtA A l = wtA A t := by rw [wt_l, wt_t] at c_129; exact c_129
                        have K9 := K140 (some (l, t)) (by simp only [msn]; rw [if_neg hw2])
                        refine mm_Es (fun _ _ => mm_iload dX2_mistakes_132 rfl) ?_
                        refine mm_Es (fun _ _ => mm_istore dX2_mistakes_134 (by decide) rfl) ?_
                        refine mm_Es (fun _ _ => mm_iload dX2_mistakes_136 rfl) ?_
                        refine mm_Es (fun _ _ => mm_istore dX2_mistakes_138 (by decide) rfl) ?_
                        exact mm_Es (fun _ _ => mm_cast (by rw [z0]; rfl) rfl rfl) (K9 _ _)
                  · exact absurd c_89 (by decide)
                · exact absurd c_74 hne
          | some p =>
            obtain ⟨pa, pb⟩ := p
            obtain ⟨v1, v2, v3, -⟩ := hm.2 pa pb rfl
            have vlt := PR_lt hW4 hin v1
            rw [← et] at vlt
            have hn2 : ¬ nI pa = -2 := n2 (by omega)
            refine mm_Es (fun _ _ => mm_iload dX2_mistakes_41 rfl) ?_
            refine mm_Es (fun _ _ => mm_iload dX2_mistakes_43 rfl) ?_
            refine mm_Eb (fun _ _ => mm_icmp_ge 154 dX2_mistakes_45 (by decide)) (fun c_45 => ?_) (fun c_45 => ?_)
            · exact absurd c_45 (nI_ge hin (by omega))
            · refine mm_Es (fun _ _ => mm_iload dX2_mistakes_48 rfl) ?_
              refine mm_Es (fun _ _ => mm_cS (Y1 := YJ6_bitCount_0f7a4) dX2_mistakes_50 lX2_36 sJ6_bitCount_0f7a4 (mJ6_bitCount_0f7a4 (d + 5) g t (by have := sub_le hd.1; omega)) rfl rfl (by simp [Value.category])) ?_
              refine mm_Es (fun _ _ => mm_iload_n dX2_mistakes_53 rfl rfl) ?_
              refine mm_Eb (fun _ _ => mm_icmp_gt 140 dX2_mistakes_54 (by decide)) (fun c_54 => ?_) (fun c_54 => ?_)
              · exact absurd c_54 (nI_nlt (by rw [et]; exact hb) (by omega))
              · refine mm_Es (fun _ _ => mm_aload_n dX2_mistakes_57 rfl rfl) ?_
                refine mm_Es (fun _ _ => mm_getS dX2_mistakes_58 fX2_32 sh_159 rfl gr_159_1) ?_
                refine mm_Es (fun _ _ => mm_iload dX2_mistakes_61 rfl) ?_
                refine mm_Es (fun _ _ => mm_cV (Y1 := YX0_leaderOf) dX2_mistakes_63 lX2_82 vX0_leaderOf (M3) sh_135 rfl rfl (by simp [Value.category])) ?_
                refine mm_Es (fun _ _ => mm_istore dX2_mistakes_66 (by decide) rfl) ?_
                refine mm_Es (fun _ _ => mm_iload dX2_mistakes_68 rfl) ?_
                refine mm_Es (fun _ _ => mm_iload dX2_mistakes_70 rfl) ?_
                refine mm_Es (fun _ _ => mm_iload dX2_mistakes_72 rfl) ?_
                refine mm_Ebn (fun _ _ => mm_icmp_ne 81 dX2_mistakes_74 (by decide)) (fun c_74 => ?_) (fun c_74 => ?_)
                · refine mm_Es (fun _ _ => mm_iconst (x := 0) dX2_mistakes_81 (by decide)) ?_
                  refine mm_Es (fun _ _ => mm_iadd dX2_mistakes_82) ?_
                  refine mm_Es (fun _ _ => mm_istore dX2_mistakes_83 (by decide) rfl) ?_
                  refine mm_Es (fun _ _ => mm_iload dX2_mistakes_85 rfl) ?_
                  refine mm_Es (fun _ _ => mm_bipush (x := (-2)) dX2_mistakes_87 (by decide)) ?_
                  refine mm_Eb (fun _ _ => mm_icmp_eq 99 dX2_mistakes_89 (by decide)) (fun c_89 => ?_) (fun c_89 => ?_)
                  · exact absurd c_89 hn2
                  · refine mm_Es (fun _ _ => mm_iload dX2_mistakes_92 rfl) ?_
                    refine mm_Es (fun _ _ => mm_iload dX2_mistakes_94 rfl) ?_
                    refine mm_Eb (fun _ _ => mm_icmp_ge 103 dX2_mistakes_96 (by decide)) (fun c_96 => ?_) (fun c_96 => ?_)
                    · have hlp : ¬ l < pa := fun z => absurd (show nI pa ≤ nI l from c_96) (nI_ge z (by omega))
                      have K9 := K140 (some (pa, pb)) (by simp only [msn]; rw [if_neg hlp]; split <;> rfl)
                      refine mm_Es (fun _ _ => mm_iconst (x := 0) dX2_mistakes_103 (by decide)) ?_
                      refine mm_Es (fun _ _ => mm_istore dX2_mistakes_104 (by decide) rfl) ?_
                      refine mm_Es (fun _ _ => mm_iload dX2_mistakes_106 rfl) ?_
                      refine mm_Eb (fun _ _ => mm_if_eq 140 dX2_mistakes_108 (by decide)) (fun c_108 => ?_) (fun c_108 => ?_)
                      · exact mm_Es (fun _ _ => mm_cast (by rw [z0]; rfl) rfl rfl) (K9 _ _)
                      · exact absurd c_108 (by decide)
                    · have hlp : l < pa := Nat.lt_of_not_le (fun z => c_96 (nI_le z (by omega)))
                      refine mm_Es (fun _ _ => mm_iconst (x := 1) dX2_mistakes_99 (by decide)) ?_
                      refine mm_Es (fun _ _ => mm_goto 104 dX2_mistakes_100 (by decide)) ?_
                      refine mm_Es (fun _ _ => mm_istore dX2_mistakes_104 (by decide) rfl) ?_
                      refine mm_Es (fun _ _ => mm_iload dX2_mistakes_106 rfl) ?_
                      refine mm_Eb (fun _ _ => mm_if_eq 140 dX2_mistakes_108 (by decide)) (fun c_108 => ?_) (fun c_108 => ?_)
                      · exact absurd c_108 (by decide)
                      · refine mm_Es (fun _ _ => mm_aload_n dX2_mistakes_111 rfl rfl) ?_
                        refine mm_Es (fun _ _ => mm_getS dX2_mistakes_112 fX2_32 sh_159 rfl gr_159_1) ?_
                        refine mm_Es (fun _ _ => mm_iload dX2_mistakes_115 rfl) ?_
                        refine mm_Es (fun _ _ => mm_cV (Y1 := YX0_worthOf) dX2_mistakes_117 lX2_64 vX0_worthOf (mX0_worthOf (d + 5) g3 l (by omega)) sh_135 rfl rfl (by simp [Value.category])) ?_
                        refine mm_Es (fun _ _ => mm_aload_n dX2_mistakes_120 rfl rfl) ?_
                        refine mm_Es (fun _ _ => mm_getS dX2_mistakes_121 fX2_32 sh_159 rfl gr_159_1) ?_
                        refine mm_Es (fun _ _ => mm_iload dX2_mistakes_124 rfl) ?_
                        refine mm_Es (fun _ _ => mm_cV (Y1 := YX0_worthOf) dX2_mistakes_126 lX2_64 vX0_worthOf (mX0_worthOf (d + 5) g3 t (by have := sub_le hd.1; omega)) sh_135 rfl rfl (by simp [Value.category])) ?_
                        refine mm_Eb (fun _ _ => mm_icmp_eq 140 dX2_mistakes_129 (by decide)) (fun c_129 => ?_) (fun c_129 => ?_)
                        · have hw2 : wtA A l = wtA A t := by rw [wt_l, wt_t] at c_129; exact c_129
                          have K9 := K140 (some (pa, pb)) (by simp only [msn]; rw [if_pos hw2])
                          exact mm_Es (fun _ _ => mm_cast (by rw [z0]; rfl) rfl rfl) (K9 _ _)
                        · have hw2 : ¬ wtA A l = wtA A t := by rw [wt_l, wt_t] at c_129; exact c_129
                          have K9 := K140 (some (l, t)) (by simp only [msn]; rw [if_neg hw2, if_pos hlp])
                          refine mm_Es (fun _ _ => mm_iload dX2_mistakes_132 rfl) ?_
                          refine mm_Es (fun _ _ => mm_istore dX2_mistakes_134 (by decide) rfl) ?_
                          refine mm_Es (fun _ _ => mm_iload dX2_mistakes_136 rfl) ?_
                          refine mm_Es (fun _ _ => mm_istore dX2_mistakes_138 (by decide) rfl) ?_
                          exact mm_Es (fun _ _ => mm_cast (by rw [z0]; rfl) rfl rfl) (K9 _ _)
                · exact absurd c_74 hne
      · have hold : nst W q (chd A Q k) (foldS W (nst W q (chd A Q k)) 0 i) (sbs W i) = (foldS W (nst W q (chd A Q k)) 0 i) := nst_n (fun z => hb z.1)
        rw [hold] at hc1
        have K := ih (i + 1) (by omega) g o ld fg hs (Linv_c hl (fun s => PR_n (t := s) hb)) (MS_c hm (fun s => PR_n (t := s) hb)) (by omega)
        rw [hc1] at K
        refine mm_Es (fun _ _ => mm_iload dX2_mistakes_41 rfl) ?_
        refine mm_Es (fun _ _ => mm_iload dX2_mistakes_43 rfl) ?_
        refine mm_Eb (fun _ _ => mm_icmp_ge 154 dX2_mistakes_45 (by decide)) (fun c_45 => ?_) (fun c_45 => ?_)
        · exact absurd c_45 (nI_ge hin (by omega))
        · refine mm_Es (fun _ _ => mm_iload dX2_mistakes_48 rfl) ?_
          refine mm_Es (fun _ _ => mm_cS (Y1 := YJ6_bitCount_0f7a4) dX2_mistakes_50 lX2_36 sJ6_bitCount_0f7a4 (mJ6_bitCount_0f7a4 (d + 5) g (sbs W i) (by omega)) rfl rfl (by simp [Value.category])) ?_
          refine mm_Es (fun _ _ => mm_iload_n dX2_mistakes_53 rfl rfl) ?_
          refine mm_Eb (fun _ _ => mm_icmp_gt 140 dX2_mistakes_54 (by decide)) (fun c_54 => ?_) (fun c_54 => ?_)
          · refine mm_Es (fun _ _ => mm_iload dX2_mistakes_140 rfl) ?_
            refine mm_Es (fun _ _ => mm_iload_n dX2_mistakes_142 rfl rfl) ?_
            refine mm_Es (fun _ _ => mm_cSN (Y1 := YX10_nextWithin) dX2_mistakes_143 (List.Mem.tail _ (List.Mem.head _)) sX10_nextWithin (mX10_nextWithin (d + 5) g (nI (sbs W i)) (nI W)) rfl rfl (by simp [Value.category])) ?_
            refine mm_Es (fun _ _ => mm_istore dX2_mistakes_146 (by decide) rfl) ?_
            refine mm_Es (fun _ _ => mm_iinc dX2_mistakes_148 rfl (nI_inc i) rfl) ?_
            refine mm_Es (fun _ _ => mm_goto 41 dX2_mistakes_151 (by decide)) ?_
            exact mm_Ec (by rw [nx]; rfl) rfl rfl K
          · exact absurd (nI_lt (show q < pc (sbs W i) by omega) (by omega)) c_54
  have K := K41 (2 ^ pc W) 0 (by omega) g2 none (fun _ => none) (frm.refl _ _) b2 (Linv_0 (fun s z => by obtain ⟨-, j, hj, -⟩ := z; omega)) ⟨fun _ a b z => (by obtain ⟨-, j, hj, -⟩ := z; omega), fun a b z => by simp at z⟩ (Nat.le_refl _)
  rw [sbs_0] at K
  refine mm_Es (fun _ _ => mm_bipush (x := (-2)) dX2_mistakes_0 (by decide)) ?_
  refine mm_Es (fun _ _ => mm_istore dX2_mistakes_2 (by decide) rfl) ?_
  refine mm_Es (fun _ _ => mm_bipush (x := (-2)) dX2_mistakes_4 (by decide)) ?_
  refine mm_Es (fun _ _ => mm_istore dX2_mistakes_6 (by decide) rfl) ?_
  refine mm_Es (fun _ _ => mm_iconst (x := 0) dX2_mistakes_8 (by decide)) ?_
  refine mm_Es (fun _ _ => mm_istore dX2_mistakes_9 (by decide) rfl) ?_
  refine mm_Es (fun _ _ => mm_iconst (x := 1) dX2_mistakes_11 (by decide)) ?_
  refine mm_Es (fun _ _ => mm_iload_n dX2_mistakes_12 rfl rfl) ?_
  refine mm_Es (fun _ _ => mm_cS (Y1 := YJ6_bitCount_0f7a4) dX2_mistakes_13 lX2_36 sJ6_bitCount_0f7a4 (mJ6_bitCount_0f7a4 (d + 5) h W hW4) rfl rfl (by simp [Value.category])) ?_
  refine mm_Es (fun _ _ => mm_ishl dX2_mistakes_16) ?_
  refine mm_Es (fun _ _ => mm_istore dX2_mistakes_17 (by decide) rfl) ?_
  refine mm_Es (fun _ _ => mm_iconst (x := 0) dX2_mistakes_19 (by decide)) ?_
  refine mm_Es (fun _ _ => mm_istore dX2_mistakes_20 (by decide) rfl) ?_
  refine mm_Es (fun _ _ => mm_aload_n dX2_mistakes_22 rfl rfl) ?_
  refine mm_Es (fun _ _ => mm_getS dX2_mistakes_23 fX2_32 sh_159 rfl gr_159_1) ?_
  refine mm_Es (fun _ _ => mm_iload_n dX2_mistakes_26 rfl rfl) ?_
  refine mm_Es (fun _ _ => mm_iload_n dX2_mistakes_27 rfl rfl) ?_
  refine mm_Es (fun _ _ => mm_cV (Y1 := YX0_learnWithin) dX2_mistakes_28 lX2_42 vX0_learnWithin (M1) sh_135 rfl rfl (by simp [Value.category])) ?_
  refine mm_Es (fun _ _ => mm_aload_n dX2_mistakes_31 rfl rfl) ?_
  refine mm_Es (fun _ _ => mm_getS dX2_mistakes_32 fX2_32 sh_159 rfl gr_159_1) ?_
  refine mm_Es (fun _ _ => mm_cV (Y1 := YX0_beginGroups) dX2_mistakes_35 lX2_79 vX0_beginGroups (M2) sh_135 rfl rfl (by simp [Value.category])) ?_
  refine mm_Es (fun _ _ => mm_iconst (x := 0) dX2_mistakes_38 (by decide)) ?_
  refine mm_Es (fun _ _ => mm_istore dX2_mistakes_39 (by decide) rfl) ?_
  exact mm_Ec (by rw [sh1 hpW]; rfl) rfl rfl K
set_option maxRecDepth 100000 in
set_option maxHeartbeats 4000000 in
theorem mX10_mistaken_n (d : Nat) (h : mm_H) (A : MD) (LQ : Nat → LD) (nl G : Nat) (S : stC A LQ nl h G) (r k s q w : Int32) (hb : ¬ (askP A nl r k s ∧ (0 ≤ q.toInt ∧ q.toInt ≤ 12) ∧ (0 ≤ w.toInt ∧ w.toInt ≤ 2))) : mm_M (d + 2) YX10_mistaken [.ref 0, .int r, .int k, .int s, .int q, .int w] h (some (.int (-1))) h := by
  refine mm_M.of [some (.ref 0), some (.int r), some (.int k), some (.int s), some (.int q), some (.int w)] rfl rfl (Nat.le_of_ble_eq_true rfl) ?_
  refine mm_aload_n dX10_mistaken_0 rfl rfl ?_
  refine mm_iload_n dX10_mistaken_1 rfl rfl ?_
  refine mm_iload_n dX10_mistaken_2 rfl rfl ?_
  refine mm_iload_n dX10_mistaken_3 rfl rfl ?_
  refine mm_cV (Y1 := YX10_isHearable) dX10_mistaken_4 lX10_179 vX10_isHearable (mX10_isHearable d h nl (mn A) (mk A) S.2.2.1 S.2.2.2.1 S.2.1.1 S.1.1 S.2.1.2.1 S.1.2.1 r k s) sh_0 rfl rfl (by simp [Value.category]) ?_
  refine mm_if_eq 22 dX10_mistaken_7 (by decide) (fun c_7 => ?_) (fun c_7 => ?_)
  · refine mm_iconst (x := (-1)) dX10_mistaken_22 (by decide) ?_
    exact mm_iretE dX10_mistaken_23 rfl rfl rfl
  · refine mm_iload dX10_mistaken_10 rfl ?_
    refine mm_if_lt 22 dX10_mistaken_12 (by decide) (fun c_12 => ?_) (fun c_12 => ?_)
    · refine mm_iconst (x := (-1)) dX10_mistaken_22 (by decide) ?_
      exact mm_iretE dX10_mistaken_23 rfl rfl rfl
    · refine mm_iload dX10_mistaken_15 rfl ?_
      refine mm_bipush (x := 12) dX10_mistaken_17 (by decide) ?_
      refine mm_icmp_le 24 dX10_mistaken_19 (by decide) (fun c_19 => ?_) (fun c_19 => ?_)
      · refine mm_iload dX10_mistaken_24 rfl ?_
        refine mm_if_lt 35 dX10_mistaken_26 (by decide) (fun c_26 => ?_) (fun c_26 => ?_)
        · refine mm_iconst (x := (-1)) dX10_mistaken_35 (by decide) ?_
          exact mm_iretE dX10_mistaken_36 rfl rfl rfl
        · refine mm_iload dX10_mistaken_29 rfl ?_
          refine mm_iconst (x := 2) dX10_mistaken_31 (by decide) ?_
          refine mm_icmp_le 37 dX10_mistaken_32 (by decide) (fun c_32 => ?_) (fun c_32 => ?_)
          · exact absurd ⟨bI_n0.mp c_7, ⟨by rw [Int32.lt_iff_toInt_lt, ti_0] at c_12; omega, by rw [Int32.le_iff_toInt_le, ti_12] at c_19; exact c_19⟩, by rw [Int32.lt_iff_toInt_lt, ti_0] at c_26; omega, by rw [Int32.le_iff_toInt_le, ti_2] at c_32; exact c_32⟩ hb
          · refine mm_iconst (x := (-1)) dX10_mistaken_35 (by decide) ?_
            exact mm_iretE dX10_mistaken_36 rfl rfl rfl
      · refine mm_iconst (x := (-1)) dX10_mistaken_22 (by decide) ?_
        exact mm_iretE dX10_mistaken_23 rfl rfl rfl
theorem w02 {w : Int32} (h : 0 ≤ w.toInt ∧ w.toInt ≤ 2) : w = 0 ∨ w = 1 ∨ w = 2 := by
  obtain ⟨j, hj, rfl⟩ := nI_ex (n := 3) (show 0 ≤ w.toInt ∧ w.toInt < (3 : Nat) by omega)
  rcases (show j = 0 ∨ j = 1 ∨ j = 2 by omega) with rfl | rfl | rfl
  · exact Or.inl rfl
  · exact Or.inr (Or.inl rfl)
  · exact Or.inr (Or.inr rfl)
/-- a run that groups -/
def gp_fr (h g : mm_H) : Prop := frm (fun c => rg 135 154 c) h g ∧ ∀ j, j ≠ 6 → j ≠ 11 → g.1 135 j = h.1 135 j
theorem gp_fr.cfr {h g : mm_H} (a : gp_fr h g) : cfr h g := a.1.cfr (fun c hc => by simp only [rg, decide_eq_false_iff_not] at hc ⊢; omega)
theorem gp_fr.at {A : MD} {LQ : Nat → LD} {r k : Nat} {h g : mm_H} (a : gp_fr h g) (hA : aimedAt A LQ r k h) (hg : aimed A (LQ r) r k g) : aimedAt A LQ r k g := ⟨hg, by rw [a.1.2]; exact hA.2.1, by rw [a.2 3 (by decide) (by decide)]; exact hA.2.2⟩
set_option maxRecDepth 100000 in
set_option maxHeartbeats 4000000 in
theorem mX10_mistaken_y (d : Nat) (h : mm_H) (A : MD) (LQ : Nat → LD) (nl G : Nat) (S : stC A LQ nl h G) (hGb : G + 1 < 2 ^ 31) (r k a : Nat) (hr : r < nl) (hk : k < mk A) (ha : a < 2 ^ mn A) (q : Nat) (hq : q ≤ 12) (w : Int32) (hw : 0 ≤ w.toInt ∧ w.toInt ≤ 2) : ∃ o g, mm_M (d + 7) YX10_mistaken [.ref 0, .int (nI r), .int (nI k), .int (nI a), .int (nI q), .int w] h (some (.int (msA o (foldW a (nst a q (chd A (LQ r) k)) 0 (a + 1)) w))) g ∧ MS (chd A (LQ r) k) (wtA A) (dom a q) o ∧ cfr h g ∧ stC A LQ nl g (G + 1) := by
  have S0 := S
  obtain ⟨g1, M1, a1, a2, a3⟩ := aimC (d + 5) h A LQ nl G S r k hr hk
  have N1 := mX10_isHearable (d + 5) h nl (mn A) (mk A) S.2.2.1 S.2.2.2.1 S.2.1.1 S.1.1 S.2.1.2.1 S.1.2.1 (nI r) (nI k) (nI a)
  obtain ⟨hA, hV, h6, hn6, hL, -, hcG⟩ := S
  have h12 := hA.1
  have h4 := hA.2.1
  have hp := p2_lt h12
  obtain ⟨o, g2, M2, b1, b2, b3, b4⟩ := mX2_mistakes d g1 A hA (LQ r) r (by omega) (hL r hr).1 k hk a1.1 G a2 hGb a ha q hq w (w02 hw)
  rw [fold_all (by omega)] at M2
  have b3 : gp_fr g1 g2 := b3
  refine ⟨o, g2, ?_, b1, a3.trans b3.cfr, S0.next (a3.trans b3.cfr) hr hk (b3.at a1 b2) b4⟩
  refine mm_M.of [some (.ref 0), some (.int (nI r)), some (.int (nI k)), some (.int (nI a)), some (.int (nI q)), some (.int w)] rfl rfl (Nat.le_of_ble_eq_true rfl) ?_
  refine mm_aload_n dX10_mistaken_0 rfl rfl ?_
  refine mm_iload_n dX10_mistaken_1 rfl rfl ?_
  refine mm_iload_n dX10_mistaken_2 rfl rfl ?_
  refine mm_iload_n dX10_mistaken_3 rfl rfl ?_
  refine mm_cV (Y1 := YX10_isHearable) dX10_mistaken_4 lX10_179 vX10_isHearable (N1) sh_0 rfl rfl (by simp [Value.category]) ?_
  refine mm_if_eq 22 dX10_mistaken_7 (by decide) (fun c_7 => ?_) (fun c_7 => ?_)
  · exact absurd (ask_of hn6 hA hr hk ha) (bI_e0.mp c_7)
  · refine mm_iload dX10_mistaken_10 rfl ?_
    refine mm_if_lt 22 dX10_mistaken_12 (by decide) (fun c_12 => ?_) (fun c_12 => ?_)
    · exact absurd c_12 (nI_pos (by omega))
    · refine mm_iload dX10_mistaken_15 rfl ?_
      refine mm_bipush (x := 12) dX10_mistaken_17 (by decide) ?_
      refine mm_icmp_le 24 dX10_mistaken_19 (by decide) (fun c_19 => ?_) (fun c_19 => ?_)
      · refine mm_iload dX10_mistaken_24 rfl ?_
        refine mm_if_lt 35 dX10_mistaken_26 (by decide) (fun c_26 => ?_) (fun c_26 => ?_)
        · exfalso; rw [Int32.lt_iff_toInt_lt, ti_0] at c_26; omega
        · refine mm_iload dX10_mistaken_29 rfl ?_
          refine mm_iconst (x := 2) dX10_mistaken_31 (by decide) ?_
          refine mm_icmp_le 37 dX10_mistaken_32 (by decide) (fun c_32 => ?_) (fun c_32 => ?_)
          · refine mm_aload_n dX10_mistaken_37 rfl rfl ?_
            refine mm_getS dX10_mistaken_38 fX10_69 sh_0 rfl gr_0_10 ?_
            refine mm_aload_n dX10_mistaken_41 rfl rfl ?_
            refine mm_getS dX10_mistaken_42 fX10_38 sh_0 rfl gr_0_5 ?_
            refine mm_iload_n dX10_mistaken_45 rfl rfl ?_
            refine mm_aald (r) dX10_mistaken_46 (Or.inl rfl) sh_2 rfl (by omega) (gr_2 (by omega)) ?_
            refine mm_iload_n dX10_mistaken_47 rfl rfl ?_
            refine mm_cV (Y1 := YX0_aim) dX10_mistaken_48 lX10_183 vX0_aim (M1) sh_135 rfl rfl (by simp [Value.category]) ?_
            refine mm_aload_n dX10_mistaken_51 rfl rfl ?_
            refine mm_getS dX10_mistaken_52 fX10_87 sh_0 rfl gr_0_12 ?_
            refine mm_iload_n dX10_mistaken_55 rfl rfl ?_
            refine mm_iload dX10_mistaken_56 rfl ?_
            refine mm_iload dX10_mistaken_58 rfl ?_
            refine mm_cV (Y1 := YX2_mistakes) dX10_mistaken_60 lX10_233 vX2_mistakes (M2) sh_159 rfl rfl (by simp [Value.category]) ?_
            exact mm_iretE dX10_mistaken_63 rfl rfl rfl
          · exfalso; rw [Int32.le_iff_toInt_le, ti_2] at c_32; omega
      · exact absurd (nI_le (b := 12) hq (by decide)) c_19
set_option maxRecDepth 100000 in
set_option maxHeartbeats 4000000 in
theorem mX11_mistaken_n (d : Nat) (h : mm_H) (A : MD) (LQ : Nat → LD) (nl : Nat) (S : stM A LQ nl h) (r k s q w : Int32) (hb : ¬ (askP A nl r k s ∧ (0 ≤ q.toInt ∧ q.toInt ≤ 12) ∧ (0 ≤ w.toInt ∧ w.toInt ≤ 2))) : mm_M (d + 3) YX11_mistaken [.ref 165, .int r, .int k, .int s, .int q, .int w] h (some (.int (-1))) h := by
  refine mm_M.of [some (.ref 165), some (.int r), some (.int k), some (.int s), some (.int q), some (.int w), none, none, none, none] rfl rfl (Nat.le_of_ble_eq_true rfl) ?_
  refine mm_aload_n dX11_mistaken_0 rfl rfl ?_
  refine mm_iload_n dX11_mistaken_1 rfl rfl ?_
  refine mm_iload_n dX11_mistaken_2 rfl rfl ?_
  refine mm_iload_n dX11_mistaken_3 rfl rfl ?_
  refine mm_cV (Y1 := YX11_isAsked) dX11_mistaken_4 lX11_408 vX11_isAsked (mX11_isAsked d h nl (mn A) (mk A) S.2.2.1 S.2.2.2.1 S.2.1.1 S.1.1 S.2.1.2.1 S.1.2.1 r k s) sh_165 rfl rfl (by simp [Value.category]) ?_
  refine mm_if_eq 36 dX11_mistaken_7 (by decide) (fun c_7 => ?_) (fun c_7 => ?_)
  · refine mm_iconst (x := (-1)) dX11_mistaken_36 (by decide) ?_
    exact mm_iretE dX11_mistaken_37 rfl rfl rfl
  · refine mm_iload dX11_mistaken_10 rfl ?_
    refine mm_i2l dX11_mistaken_12 rfl ?_
    refine mm_lconst (x := 0) dX11_mistaken_13 (by decide) ?_
    refine mm_ldc2 dX11_mistaken_14 kX11_449 ?_
    refine mm_cS (Y1 := YX11_in) dX11_mistaken_17 lX11_171 sX11_in (mX11_in (d + 2) h _ _ _) rfl rfl (by simp [Value.category]) ?_
    refine mm_if_eq 36 dX11_mistaken_20 (by decide) (fun c_20 => ?_) (fun c_20 => ?_)
    · refine mm_iconst (x := (-1)) dX11_mistaken_36 (by decide) ?_
      exact mm_iretE dX11_mistaken_37 rfl rfl rfl
    · refine mm_iload dX11_mistaken_23 rfl ?_
      refine mm_i2l dX11_mistaken_25 rfl ?_
      refine mm_lconst (x := 0) dX11_mistaken_26 (by decide) ?_
      refine mm_ldc2 dX11_mistaken_27 kX11_428 ?_
      refine mm_cS (Y1 := YX11_in) dX11_mistaken_30 lX11_171 sX11_in (mX11_in (d + 2) h _ _ _) rfl rfl (by simp [Value.category]) ?_
      refine mm_if_ne 38 dX11_mistaken_33 (by decide) (fun c_33 => ?_) (fun c_33 => ?_)
      · exact absurd ⟨bI_n0.mp c_7, by have q := bI_n0.mp c_20; rw [i64_toInt, li_0, li_12] at q; exact q, by have q := bI_n0.mp c_33; rw [i64_toInt, li_0, li_2] at q; exact q⟩ hb
      · refine mm_iconst (x := (-1)) dX11_mistaken_36 (by decide) ?_
        exact mm_iretE dX11_mistaken_37 rfl rfl rfl
/-- the first set behind a that is alike and not worth alike -/
def MF (ch : Nat → List Int32) (wt : Nat → Int32) (P : Nat → Prop) (a : Nat) (o : Option Nat) : Prop := (o = none → ∀ b, a < b → P b → ch a = ch b → wt a = wt b) ∧ ∀ b, o = some b → a < b ∧ P b ∧ ch a = ch b ∧ ¬ wt a = wt b ∧ ∀ b2, a < b2 → P b2 → ch a = ch b2 → ¬ wt a = wt b2 → b ≤ b2
theorem o2I_n {o : Option Nat} (h : ∀ b, o = some b → b < 2 ^ 31) : o2I o = -2 ↔ o = none := by
  cases o with
  | none => simp [o2I]
  | some b => simp only [o2I]; exact ⟨fun z => absurd z (n2 (h b rfl)), fun z => by simp at z⟩
set_option maxRecDepth 100000 in
set_option maxHeartbeats 4000000 in
theorem mX11_mistakenFor (d : Nat) (h : mm_H) (A : MD) (hA : mdOK A) (hV : viewM h A) (ch : Nat → List Int32) (hch : ∀ t, t < 4096 → (ch t).length ≤ 12) (W : Nat) (hW : W < 4096) (q : Nat) (hq : q ≤ 12) (hkp : ∀ t, dom W q t → kept (ch t) h t) (a : Nat) (haW : dom W q a) : ∃ o, mm_M (d + 2) YX11_mistakenFor [.ref 165, .int (nI a), .int (nI W), .int (nI q)] h (some (.int (o2I o))) h ∧ MF ch (wtA A) (dom W q) a o := by
  have h12 := hA.1
  have ha := sub_le haW.1
  suffices hE : mm_E (d + 2) YX11_mistakenFor 0 [some (.ref 165), some (.int (nI a)), some (.int (nI W)), some (.int (nI q)), none] [] h (fun v g => ∃ o, v = some (.int (o2I o)) ∧ g = h ∧ MF ch (wtA A) (dom W q) a o) by
    obtain ⟨v, g, hR, o, rfl, rfl, hm⟩ := hE
    exact ⟨o, mm_M.of _ rfl rfl (Nat.le_of_ble_eq_true rfl) hR, hm⟩
  have wth : ∀ t, mm_M (d + 1) YX11_worthOf [.ref 165, .int (nI t)] h (some (.int (wtA A t))) h := fun t => by
    have M3 := mX11_worthOf d h (mn A) hV.1 h12 (nI t)
    rw [sp_wth_c (mn A) (fun c hc => (hV.2.2.2.2.1 c hc).2.2.1)] at M3
    exact M3
  have K5 : ∀ m b, b + m = W + 1 → a < b → (∀ t, a < t → t < b → dom W q t → ch a = ch t → wtA A a = wtA A t) → mm_E (d + 2) YX11_mistakenFor 5 [some (.ref 165), some (.int (nI a)), some (.int (nI W)), some (.int (nI q)), some (.int (nI b))] [] h (fun v g => ∃ o, v = some (.int (o2I o)) ∧ g = h ∧ MF ch (wtA A) (dom W q) a o) := by
    intro m
    induction m with
    | zero =>
      intro b hb hab hno
      have hb : b = W + 1 := by omega
      subst hb
      refine mm_Es (fun _ _ => mm_iload dX11_mistakenFor_5 rfl) ?_
      refine mm_Es (fun _ _ => mm_iload_n dX11_mistakenFor_7 rfl rfl) ?_
      refine mm_Eb (fun _ _ => mm_icmp_gt 62 dX11_mistakenFor_8 (by decide)) (fun c_8 => ?_) (fun c_8 => ?_)
      · refine mm_Es (fun _ _ => mm_bipush (x := (-2)) dX11_mistakenFor_62 (by decide)) ?_
        refine mm_Er (mm_ireturn dX11_mistakenFor_64 rfl) ?_
        refine ⟨none, rfl, rfl, fun _ b h1 h2 h3 => hno b h1 (by have := sub_le h2.1; omega) h2 h3, fun b z => by simp at z⟩
      · exact absurd (nI_lt (show W < W + 1 by omega) (by omega)) c_8
    | succ m ih =>
      intro b hb hab hno
      have B8 : ¬ nI W < nI b := nI_nlt (by omega) (by omega)
      have hpb := pc_le (show b < 4096 by omega)
      have K : (dom W q b → ch a = ch b → wtA A a = wtA A b) → _ := fun hx => ih (b + 1) (by omega) (by omega) (fun t h1 h2 h3 h4 => by
        by_cases z : t = b
        · subst z; exact hx h3 h4
        · exact hno t h1 (by omega) h3 h4)
      refine mm_Es (fun _ _ => mm_iload dX11_mistakenFor_5 rfl) ?_
      refine mm_Es (fun _ _ => mm_iload_n dX11_mistakenFor_7 rfl rfl) ?_
      refine mm_Eb (fun _ _ => mm_icmp_gt 62 dX11_mistakenFor_8 (by decide)) (fun c_8 => ?_) (fun c_8 => ?_)
      · exact absurd c_8 B8
      · refine mm_Es (fun _ _ => mm_iload dX11_mistakenFor_11 rfl) ?_
        refine mm_Es (fun _ _ => mm_iload_n dX11_mistakenFor_13 rfl rfl) ?_
        refine mm_Es (fun _ _ => mm_iconst (x := (-1)) dX11_mistakenFor_14 (by decide)) ?_
        refine mm_Es (fun _ _ => mm_ixor dX11_mistakenFor_15) ?_
        refine mm_Es (fun _ _ => mm_iand dX11_mistakenFor_16) ?_
        refine mm_Ebn (fun _ _ => mm_if_ne 56 dX11_mistakenFor_17 (by decide)) (fun c_17 => ?_) (fun c_17 => ?_)
        · have K := K (fun z => absurd ((sub_I (show b < 4096 by omega) hW).mpr z.1) c_17)
          refine mm_Es (fun _ _ => mm_iinc dX11_mistakenFor_56 rfl (nI_inc b) rfl) ?_
          refine mm_Es (fun _ _ => mm_goto 5 dX11_mistakenFor_59 (by decide)) ?_
          exact K
        · have hsb := (sub_I (show b < 4096 by omega) hW).mp c_17
          refine mm_Es (fun _ _ => mm_iload dX11_mistakenFor_20 rfl) ?_
          refine mm_Es (fun _ _ => mm_cS (Y1 := YX11_bits) dX11_mistakenFor_22 lX11_363 sX11_bits (mX11_bits (d + 1) h b (by omega)) rfl rfl (by simp [Value.category])) ?_
          refine mm_Es (fun _ _ => mm_iload_n dX11_mistakenFor_25 rfl rfl) ?_
          refine mm_Eb (fun _ _ => mm_icmp_gt 56 dX11_mistakenFor_26 (by decide)) (fun c_26 => ?_) (fun c_26 => ?_)
          · have K := K (fun z => absurd c_26 (nI_nlt z.2 (by omega)))
            refine mm_Es (fun _ _ => mm_iinc dX11_mistakenFor_56 rfl (nI_inc b) rfl) ?_
            refine mm_Es (fun _ _ => mm_goto 5 dX11_mistakenFor_59 (by decide)) ?_
            exact K
          · have hdb : dom W q b := ⟨hsb, Nat.le_of_not_lt (fun z => c_26 (nI_lt z (by omega)))⟩
            have M1 := mX11_areAlike (d + 1) h (ch a) (ch b) a b (by omega) (by omega) (hkp a haW) (hkp b hdb) (hch a (by omega)) (hch b (by omega))
            refine mm_Es (fun _ _ => mm_aload_n dX11_mistakenFor_29 rfl rfl) ?_
            refine mm_Es (fun _ _ => mm_iload_n dX11_mistakenFor_30 rfl rfl) ?_
            refine mm_Es (fun _ _ => mm_iload dX11_mistakenFor_31 rfl) ?_
            refine mm_Es (fun _ _ => mm_cV (Y1 := YX11_areAlike) dX11_mistakenFor_33 lX11_438 vX11_areAlike (M1) sh_165 rfl rfl (by simp [Value.category])) ?_
            refine mm_Eb (fun _ _ => mm_if_eq 56 dX11_mistakenFor_36 (by decide)) (fun c_36 => ?_) (fun c_36 => ?_)
            · have K := K (fun _ z => absurd z (bI_e0.mp c_36))
              refine mm_Es (fun _ _ => mm_iinc dX11_mistakenFor_56 rfl (nI_inc b) rfl) ?_
              refine mm_Es (fun _ _ => mm_goto 5 dX11_mistakenFor_59 (by decide)) ?_
              exact K
            · refine mm_Es (fun _ _ => mm_aload_n dX11_mistakenFor_39 rfl rfl) ?_
              refine mm_Es (fun _ _ => mm_iload_n dX11_mistakenFor_40 rfl rfl) ?_
              refine mm_Es (fun _ _ => mm_cV (Y1 := YX11_worthOf) dX11_mistakenFor_41 lX11_446 vX11_worthOf (wth a) sh_165 rfl rfl (by simp [Value.category])) ?_
              refine mm_Es (fun _ _ => mm_aload_n dX11_mistakenFor_44 rfl rfl) ?_
              refine mm_Es (fun _ _ => mm_iload dX11_mistakenFor_45 rfl) ?_
              refine mm_Es (fun _ _ => mm_cV (Y1 := YX11_worthOf) dX11_mistakenFor_47 lX11_446 vX11_worthOf (wth b) sh_165 rfl rfl (by simp [Value.category])) ?_
              refine mm_Eb (fun _ _ => mm_icmp_eq 56 dX11_mistakenFor_50 (by decide)) (fun c_50 => ?_) (fun c_50 => ?_)
              · have K := K (fun _ _ => c_50)
                refine mm_Es (fun _ _ => mm_iinc dX11_mistakenFor_56 rfl (nI_inc b) rfl) ?_
                refine mm_Es (fun _ _ => mm_goto 5 dX11_mistakenFor_59 (by decide)) ?_
                exact K
              · refine mm_Es (fun _ _ => mm_iload dX11_mistakenFor_53 rfl) ?_
                refine mm_Er (mm_ireturn dX11_mistakenFor_55 rfl) ?_
                refine ⟨some b, rfl, rfl, fun z => by simp at z, fun b2 z => ?_⟩
                simp at z
                subst z
                refine ⟨hab, hdb, bI_n0.mp c_36, c_50, fun b2 h1 h2 h3 h4 => ?_⟩
                rcases Nat.lt_or_ge b2 b with z | z
                · exact absurd (hno b2 h1 z h2 h3) h4
                · exact z
  have K := K5 (W - a) (a + 1) (by omega) (by omega) (fun t h1 h2 => by omega)
  refine mm_Es (fun _ _ => mm_iload_n dX11_mistakenFor_0 rfl rfl) ?_
  refine mm_Es (fun _ _ => mm_iconst (x := 1) dX11_mistakenFor_1 (by decide)) ?_
  refine mm_Es (fun _ _ => mm_iadd dX11_mistakenFor_2) ?_
  refine mm_Es (fun _ _ => mm_istore dX11_mistakenFor_3 (by decide) rfl) ?_
  exact mm_Ec (by rw [nI_1]; rfl) rfl rfl K
set_option maxRecDepth 100000 in
set_option maxHeartbeats 4000000 in
theorem mX11_mistaken_y (d : Nat) (h : mm_H) (A : MD) (LQ : Nat → LD) (nl : Nat) (S : stM A LQ nl h) (r k a : Nat) (hr : r < nl) (hk : k < mk A) (ha : a < 2 ^ mn A) (q : Nat) (hq : q ≤ 12) (w : Int32) (hw : 0 ≤ w.toInt ∧ w.toInt ≤ 2) : ∃ o g, mm_M (d + 9) YX11_mistaken [.ref 165, .int (nI r), .int (nI k), .int (nI a), .int (nI q), .int w] h (some (.int (msA o (foldW a (nst a q (chd A (LQ r) k)) 0 (a + 1)) w))) g ∧ MS (chd A (LQ r) k) (wtA A) (dom a q) o ∧ mfr h g := by
  have N1 := mX11_isAsked (d + 6) h nl (mn A) (mk A) S.2.2.1 S.2.2.2.1 S.2.1.1 S.1.1 S.2.1.2.1 S.1.2.1 (nI r) (nI k) (nI a)
  obtain ⟨hA, hV, h6, hn6, hL⟩ := S
  have h12 := hA.1
  have h4 := hA.2.1
  have hp := p2_lt h12
  have ha4 : a < 4096 := by omega
  obtain ⟨g1, M1, f1, kp, -⟩ := mX11_keepsAll d h A hA hV (LQ r) r (by omega) (hL r hr).1 (hL r hr).2 k hk a ha4 q hq
  have hV1 := viewM_f hV f1.1 (fun c hc => pKp_f (by omega) (by omega))
  have hch : ∀ t, t < 4096 → (chd A (LQ r) k t).length ≤ 12 := fun t ht => Nat.le_trans (chd_pc h12 (LQ r) k ht) (pc_le ht)
  suffices hE : mm_E (d + 9) YX11_mistaken 53 [some (.ref 165), some (.int (nI r)), some (.int (nI k)), some (.int (nI a)), some (.int (nI q)), some (.int w), some (.int 0), some (.int 0), none, none] [] g1 (fun v g => ∃ o, MS (chd A (LQ r) k) (wtA A) (dom a q) o ∧ v = some (.int (msA o (foldW a (nst a q (chd A (LQ r) k)) 0 (a + 1)) w)) ∧ g = g1) by
    obtain ⟨v, g, hR, o, h1, rfl, rfl⟩ := hE
    refine ⟨o, g, mm_M.of [some (.ref 165), some (.int (nI r)), some (.int (nI k)), some (.int (nI a)), some (.int (nI q)), some (.int w), none, none, none, none] rfl rfl (Nat.le_of_ble_eq_true rfl) ?_, h1, f1.mfr⟩
    refine mm_aload_n dX11_mistaken_0 rfl rfl ?_
    refine mm_iload_n dX11_mistaken_1 rfl rfl ?_
    refine mm_iload_n dX11_mistaken_2 rfl rfl ?_
    refine mm_iload_n dX11_mistaken_3 rfl rfl ?_
    refine mm_cV (Y1 := YX11_isAsked) dX11_mistaken_4 lX11_408 vX11_isAsked (N1) sh_165 rfl rfl (by simp [Value.category]) ?_
    refine mm_if_eq 36 dX11_mistaken_7 (by decide) (fun c_7 => ?_) (fun c_7 => ?_)
    · exact absurd (ask_of hn6 hA hr hk ha) (bI_e0.mp c_7)
    · refine mm_iload dX11_mistaken_10 rfl ?_
      refine mm_i2l dX11_mistaken_12 rfl ?_
      refine mm_lconst (x := 0) dX11_mistaken_13 (by decide) ?_
      refine mm_ldc2 dX11_mistaken_14 kX11_449 ?_
      refine mm_cS (Y1 := YX11_in) dX11_mistaken_17 lX11_171 sX11_in (mX11_in (d + 8) h _ _ _) rfl rfl (by simp [Value.category]) ?_
      refine mm_if_eq 36 dX11_mistaken_20 (by decide) (fun c_20 => ?_) (fun c_20 => ?_)
      · exact absurd (by rw [i64_toInt, li_0, li_12, nI_toInt (by omega)]; omega) (bI_e0.mp c_20)
      · refine mm_iload dX11_mistaken_23 rfl ?_
        refine mm_i2l dX11_mistaken_25 rfl ?_
        refine mm_lconst (x := 0) dX11_mistaken_26 (by decide) ?_
        refine mm_ldc2 dX11_mistaken_27 kX11_428 ?_
        refine mm_cS (Y1 := YX11_in) dX11_mistaken_30 lX11_171 sX11_in (mX11_in (d + 8) h _ _ _) rfl rfl (by simp [Value.category]) ?_
        refine mm_if_ne 38 dX11_mistaken_33 (by decide) (fun c_33 => ?_) (fun c_33 => ?_)
        · refine mm_aload_n dX11_mistaken_38 rfl rfl ?_
          refine mm_iload_n dX11_mistaken_39 rfl rfl ?_
          refine mm_iload_n dX11_mistaken_40 rfl rfl ?_
          refine mm_iload_n dX11_mistaken_41 rfl rfl ?_
          refine mm_iload dX11_mistaken_42 rfl ?_
          refine mm_cV (Y1 := YX11_keepsAll) dX11_mistaken_44 lX11_451 vX11_keepsAll (M1) sh_165 rfl rfl (by simp [Value.category]) ?_
          refine mm_iconst (x := 0) dX11_mistaken_47 (by decide) ?_
          refine mm_istore dX11_mistaken_48 (by decide) rfl ?_
          refine mm_iconst (x := 0) dX11_mistaken_50 (by decide) ?_
          refine mm_istore dX11_mistaken_51 (by decide) rfl ?_
          exact hR
        · exact absurd (by rw [i64_toInt, li_0, li_2]; exact hw) (bI_e0.mp c_33)
  rcases w02 hw with w0 | w0 | w0
  rotate_left 2
  · subst w0
    obtain ⟨o, ho⟩ := MS_ex (chd A (LQ r) k) (wtA A) (dom a q)
    have K53 : ∀ m t, t + m = a + 1 → (foldW a (nst a q (chd A (LQ r) k)) 0 t) ≤ t → mm_E (d + 9) YX11_mistaken 53 [some (.ref 165), some (.int (nI r)), some (.int (nI k)), some (.int (nI a)), some (.int (nI q)), some (.int 2), some (.int (nI (foldW a (nst a q (chd A (LQ r) k)) 0 t))), some (.int (nI t)), none, none] [] g1 (fun v g => ∃ o, MS (chd A (LQ r) k) (wtA A) (dom a q) o ∧ v = some (.int (msA o (foldW a (nst a q (chd A (LQ r) k)) 0 (a + 1)) 2)) ∧ g = g1) := by
      intro m
      induction m with
      | zero =>
        intro t ht hcn
        have ht : t = a + 1 := by omega
        subst ht
        refine mm_Es (fun _ _ => mm_iload dX11_mistaken_53 rfl) ?_
        refine mm_Es (fun _ _ => mm_iload_n dX11_mistaken_55 rfl rfl) ?_
        refine mm_Eb (fun _ _ => mm_icmp_gt 208 dX11_mistaken_56 (by decide)) (fun c_56 => ?_) (fun c_56 => ?_)
        · refine mm_Es (fun _ _ => mm_iload dX11_mistaken_208 rfl) ?_
          refine mm_Es (fun _ _ => mm_iconst (x := 2) dX11_mistaken_210 (by decide)) ?_
          refine mm_Ebn (fun _ _ => mm_icmp_ne 219 dX11_mistaken_211 (by decide)) (fun c_211 => ?_) (fun c_211 => ?_)
          · exact absurd c_211 (by decide)
          · refine mm_Es (fun _ _ => mm_iload dX11_mistaken_214 rfl) ?_
            refine mm_Es (fun _ _ => mm_goto 221 dX11_mistaken_216 (by decide)) ?_
            refine mm_Er (mm_ireturn dX11_mistaken_221 rfl) ?_
            exact ⟨o, ho, by unfold msA; rw [if_neg (by decide), if_neg (by decide)], rfl⟩
        · exact absurd (nI_lt (show a < a + 1 by omega) (by omega)) c_56
      | succ m ih =>
        intro t ht hcn
        have hta : t ≤ a := by omega
        have B56 : ¬ nI a < nI t := nI_nlt hta (by omega)
        have hpt := pc_le (show t < 4096 by omega)
        have K202 : ∀ x8 x9, mm_E (d + 9) YX11_mistaken 202 [some (.ref 165), some (.int (nI r)), some (.int (nI k)), some (.int (nI a)), some (.int (nI q)), some (.int 2), some (.int (nI (foldW a (nst a q (chd A (LQ r) k)) 0 (t + 1)))), some (.int (nI t)), x8, x9] [] g1 (fun v g => ∃ o, MS (chd A (LQ r) k) (wtA A) (dom a q) o ∧ v = some (.int (msA o (foldW a (nst a q (chd A (LQ r) k)) 0 (a + 1)) 2)) ∧ g = g1) := by
          intro x8 x9
          have K := ih (t + 1) (by omega) (by
            simp only [foldW]
            split
            · rename_i hs
              by_cases z : pc t ≤ q ∧ ∀ b, b < t → dom a q b → ¬ chd A (LQ r) k b = chd A (LQ r) k t
              · rw [nst_y z]; omega
              · rw [nst_n z]; omega
            · omega)
          refine mm_Es (fun _ _ => mm_iinc dX11_mistaken_202 rfl (nI_inc t) rfl) ?_
          refine mm_Es (fun _ _ => mm_goto 53 dX11_mistaken_205 (by decide)) ?_
          refine mm_El ?_ K
          exact ⟨rfl, rfl, rfl, rfl, rfl, rfl, rfl, rfl, trivial⟩
        by_cases hd : dom a q t
        · have hc1 : (foldW a (nst a q (chd A (LQ r) k)) 0 (t + 1)) = nst a q (chd A (LQ r) k) (foldW a (nst a q (chd A (LQ r) k)) 0 t) t := by simp only [foldW]; rw [if_pos hd.1]
          have K0 : (∃ b, b < t ∧ dom a q b ∧ chd A (LQ r) k b = chd A (LQ r) k t) → ∀ x9, mm_E (d + 9) YX11_mistaken 145 [some (.ref 165), some (.int (nI r)), some (.int (nI k)), some (.int (nI a)), some (.int (nI q)), some (.int 2), some (.int (nI (foldW a (nst a q (chd A (LQ r) k)) 0 t))), some (.int (nI t)), some (.int 0), x9] [] g1 (fun v g => ∃ o, MS (chd A (LQ r) k) (wtA A) (dom a q) o ∧ v = some (.int (msA o (foldW a (nst a q (chd A (LQ r) k)) 0 (a + 1)) 2)) ∧ g = g1) := by
            intro hex x9
            have e : (foldW a (nst a q (chd A (LQ r) k)) 0 (t + 1)) = (foldW a (nst a q (chd A (LQ r) k)) 0 t) := by rw [hc1]; exact nst_n (fun z => by obtain ⟨b, b1, b2, b3⟩ := hex; exact z.2 b b1 b2 b3)
            rw [e] at K202
            refine mm_Es (fun _ _ => mm_iload dX11_mistaken_145 rfl) ?_
            refine mm_Es (fun _ _ => mm_iload dX11_mistaken_147 rfl) ?_
            refine mm_Eb (fun _ _ => mm_if_eq 156 dX11_mistaken_149 (by decide)) (fun c_149 => ?_) (fun c_149 => ?_)
            · refine mm_Es (fun _ _ => mm_iconst (x := 0) dX11_mistaken_156 (by decide)) ?_
              refine mm_Es (fun _ _ => mm_iadd dX11_mistaken_157) ?_
              refine mm_Es (fun _ _ => mm_istore dX11_mistaken_158 (by decide) rfl) ?_
              refine mm_Es (fun _ _ => mm_iload dX11_mistaken_160 rfl) ?_
              refine mm_Es (fun _ _ => mm_iconst (x := 2) dX11_mistaken_162 (by decide)) ?_
              refine mm_Eb (fun _ _ => mm_icmp_ge 178 dX11_mistaken_163 (by decide)) (fun c_163 => ?_) (fun c_163 => ?_)
              · refine mm_Es (fun _ _ => mm_bipush (x := (-2)) dX11_mistaken_178 (by decide)) ?_
                refine mm_Es (fun _ _ => mm_istore dX11_mistaken_180 (by decide) rfl) ?_
                refine mm_Es (fun _ _ => mm_iload dX11_mistaken_182 rfl) ?_
                refine mm_Es (fun _ _ => mm_bipush (x := (-2)) dX11_mistaken_184 (by decide)) ?_
                refine mm_Eb (fun _ _ => mm_icmp_eq 202 dX11_mistaken_186 (by decide)) (fun c_186 => ?_) (fun c_186 => ?_)
                · exact mm_Es (fun _ _ => mm_cast (by rw [Int32.add_zero]; rfl) rfl rfl) (K202 _ _)
                · exact absurd c_186 (by decide)
              · exact absurd c_163 (by decide)
            · exact absurd c_149 (by decide)
          have K1 : (∀ b, b < t → dom a q b → ¬ chd A (LQ r) k b = chd A (LQ r) k t) → ∀ x9, mm_E (d + 9) YX11_mistaken 145 [some (.ref 165), some (.int (nI r)), some (.int (nI k)), some (.int (nI a)), some (.int (nI q)), some (.int 2), some (.int (nI (foldW a (nst a q (chd A (LQ r) k)) 0 t))), some (.int (nI t)), some (.int 1), x9] [] g1 (fun v g => ∃ o, MS (chd A (LQ r) k) (wtA A) (dom a q) o ∧ v = some (.int (msA o (foldW a (nst a q (chd A (LQ r) k)) 0 (a + 1)) 2)) ∧ g = g1) := by
            intro hall x9
            have e : (foldW a (nst a q (chd A (LQ r) k)) 0 (t + 1)) = (foldW a (nst a q (chd A (LQ r) k)) 0 t) + 1 := by rw [hc1]; exact nst_y ⟨hd.2, hall⟩
            rw [e] at K202
            refine mm_Es (fun _ _ => mm_iload dX11_mistaken_145 rfl) ?_
            refine mm_Es (fun _ _ => mm_iload dX11_mistaken_147 rfl) ?_
            refine mm_Eb (fun _ _ => mm_if_eq 156 dX11_mistaken_149 (by decide)) (fun c_149 => ?_) (fun c_149 => ?_)
            · exact absurd c_149 (by decide)
            · refine mm_Es (fun _ _ => mm_iconst (x := 1) dX11_mistaken_152 (by decide)) ?_
              refine mm_Es (fun _ _ => mm_goto 157 dX11_mistaken_153 (by decide)) ?_
              refine mm_Es (fun _ _ => mm_iadd dX11_mistaken_157) ?_
              refine mm_Es (fun _ _ => mm_istore dX11_mistaken_158 (by decide) rfl) ?_
              refine mm_Es (fun _ _ => mm_iload dX11_mistaken_160 rfl) ?_
              refine mm_Es (fun _ _ => mm_iconst (x := 2) dX11_mistaken_162 (by decide)) ?_
              refine mm_Eb (fun _ _ => mm_icmp_ge 178 dX11_mistaken_163 (by decide)) (fun c_163 => ?_) (fun c_163 => ?_)
              · refine mm_Es (fun _ _ => mm_bipush (x := (-2)) dX11_mistaken_178 (by decide)) ?_
                refine mm_Es (fun _ _ => mm_istore dX11_mistaken_180 (by decide) rfl) ?_
                refine mm_Es (fun _ _ => mm_iload dX11_mistaken_182 rfl) ?_
                refine mm_Es (fun _ _ => mm_bipush (x := (-2)) dX11_mistaken_184 (by decide)) ?_
                refine mm_Eb (fun _ _ => mm_icmp_eq 202 dX11_mistaken_186 (by decide)) (fun c_186 => ?_) (fun c_186 => ?_)
                · exact mm_Es (fun _ _ => mm_cast (by rw [nI_1]; rfl) rfl rfl) (K202 _ _)
                · exact absurd c_186 (by decide)
              · exact absurd c_163 (by decide)
          have K840 : (∃ b, b < t ∧ dom a q b ∧ chd A (LQ r) k b = chd A (LQ r) k t) → ∀ b0 : Int32, mm_E (d + 9) YX11_mistaken 84 [some (.ref 165), some (.int (nI r)), some (.int (nI k)), some (.int (nI a)), some (.int (nI q)), some (.int 2), some (.int (nI (foldW a (nst a q (chd A (LQ r) k)) 0 t))), some (.int (nI t)), some (.int 0), some (.int b0)] [] g1 (fun v g => ∃ o, MS (chd A (LQ r) k) (wtA A) (dom a q) o ∧ v = some (.int (msA o (foldW a (nst a q (chd A (LQ r) k)) 0 (a + 1)) 2)) ∧ g = g1) := by
            intro hex b0
            refine mm_Es (fun _ _ => mm_iload dX11_mistaken_84 rfl) ?_
            refine mm_Es (fun _ _ => mm_iload dX11_mistaken_86 rfl) ?_
            refine mm_Eb (fun _ _ => mm_icmp_ge 145 dX11_mistaken_88 (by decide)) (fun c_88 => ?_) (fun c_88 => ?_)
            · exact K0 hex _
            · refine mm_Es (fun _ _ => mm_iload dX11_mistaken_91 rfl) ?_
              refine mm_Eb (fun _ _ => mm_if_eq 145 dX11_mistaken_93 (by decide)) (fun c_93 => ?_) (fun c_93 => ?_)
              · exact K0 hex _
              · exact absurd c_93 (by decide)
          have K84 : ∀ m b, b + m = t → (∀ b2, b2 < b → dom a q b2 → ¬ chd A (LQ r) k b2 = chd A (LQ r) k t) → mm_E (d + 9) YX11_mistaken 84 [some (.ref 165), some (.int (nI r)), some (.int (nI k)), some (.int (nI a)), some (.int (nI q)), some (.int 2), some (.int (nI (foldW a (nst a q (chd A (LQ r) k)) 0 t))), some (.int (nI t)), some (.int 1), some (.int (nI b))] [] g1 (fun v g => ∃ o, MS (chd A (LQ r) k) (wtA A) (dom a q) o ∧ v = some (.int (msA o (foldW a (nst a q (chd A (LQ r) k)) 0 (a + 1)) 2)) ∧ g = g1) := by
            intro m
            induction m with
            | zero =>
              intro b hb hno
              have hb : b = t := by omega
              subst hb
              refine mm_Es (fun _ _ => mm_iload dX11_mistaken_84 rfl) ?_
              refine mm_Es (fun _ _ => mm_iload dX11_mistaken_86 rfl) ?_
              refine mm_Eb (fun _ _ => mm_icmp_ge 145 dX11_mistaken_88 (by decide)) (fun c_88 => ?_) (fun c_88 => ?_)
              · exact K1 hno _
              · exact absurd (Int32.le_refl _) c_88
            | succ m ihm =>
              intro b hb hno
              have hbt : b < t := by omega
              have hpb := pc_le (show b < 4096 by omega)
              have K : (dom a q b → ¬ chd A (LQ r) k b = chd A (LQ r) k t) → _ := fun hx => ihm (b + 1) (by omega) (fun b2 h1 h2 => by
                by_cases z : b2 = b
                · subst z; exact hx h2
                · exact hno b2 (by omega) h2)
              refine mm_Es (fun _ _ => mm_iload dX11_mistaken_84 rfl) ?_
              refine mm_Es (fun _ _ => mm_iload dX11_mistaken_86 rfl) ?_
              refine mm_Eb (fun _ _ => mm_icmp_ge 145 dX11_mistaken_88 (by decide)) (fun c_88 => ?_) (fun c_88 => ?_)
              · exact absurd c_88 (nI_ge hbt (by omega))
              · refine mm_Es (fun _ _ => mm_iload dX11_mistaken_91 rfl) ?_
                refine mm_Eb (fun _ _ => mm_if_eq 145 dX11_mistaken_93 (by decide)) (fun c_93 => ?_) (fun c_93 => ?_)
                · exact absurd c_93 (by decide)
                · refine mm_Es (fun _ _ => mm_iload dX11_mistaken_96 rfl) ?_
                  refine mm_Es (fun _ _ => mm_iconst (x := 2) dX11_mistaken_98 (by decide)) ?_
                  refine mm_Ebn (fun _ _ => mm_icmp_ne 145 dX11_mistaken_99 (by decide)) (fun c_99 => ?_) (fun c_99 => ?_)
                  · exact absurd c_99 (by decide)
                  · refine mm_Es (fun _ _ => mm_iload dX11_mistaken_102 rfl) ?_
                    refine mm_Es (fun _ _ => mm_iload_n dX11_mistaken_104 rfl rfl) ?_
                    refine mm_Es (fun _ _ => mm_iconst (x := (-1)) dX11_mistaken_105 (by decide)) ?_
                    refine mm_Es (fun _ _ => mm_ixor dX11_mistaken_106) ?_
                    refine mm_Es (fun _ _ => mm_iand dX11_mistaken_107) ?_
                    refine mm_Ebn (fun _ _ => mm_if_ne 132 dX11_mistaken_108 (by decide)) (fun c_108 => ?_) (fun c_108 => ?_)
                    · have K := K (fun z => absurd ((sub_I (show b < 4096 by omega) ha4).mpr z.1) c_108)
                      refine mm_Es (fun _ _ => mm_iconst (x := 1) dX11_mistaken_132 (by decide)) ?_
                      refine mm_Es (fun _ _ => mm_goto 137 dX11_mistaken_133 (by decide)) ?_
                      refine mm_Es (fun _ _ => mm_istore dX11_mistaken_137 (by decide) rfl) ?_
                      refine mm_Es (fun _ _ => mm_iinc dX11_mistaken_139 rfl (nI_inc b) rfl) ?_
                      refine mm_Es (fun _ _ => mm_goto 84 dX11_mistaken_142 (by decide)) ?_
                      first | exact K | exact K _
                    · have hsb := (sub_I (show b < 4096 by omega) ha4).mp c_108
                      refine mm_Es (fun _ _ => mm_iload dX11_mistaken_111 rfl) ?_
                      refine mm_Es (fun _ _ => mm_cS (Y1 := YX11_bits) dX11_mistaken_113 lX11_363 sX11_bits (mX11_bits (d + 8) g1 b (by omega)) rfl rfl (by simp [Value.category])) ?_
                      refine mm_Es (fun _ _ => mm_iload dX11_mistaken_116 rfl) ?_
                      refine mm_Eb (fun _ _ => mm_icmp_gt 132 dX11_mistaken_118 (by decide)) (fun c_118 => ?_) (fun c_118 => ?_)
                      · have K := K (fun z => absurd c_118 (nI_nlt z.2 (by omega)))
                        refine mm_Es (fun _ _ => mm_iconst (x := 1) dX11_mistaken_132 (by decide)) ?_
                        refine mm_Es (fun _ _ => mm_goto 137 dX11_mistaken_133 (by decide)) ?_
                        refine mm_Es (fun _ _ => mm_istore dX11_mistaken_137 (by decide) rfl) ?_
                        refine mm_Es (fun _ _ => mm_iinc dX11_mistaken_139 rfl (nI_inc b) rfl) ?_
                        refine mm_Es (fun _ _ => mm_goto 84 dX11_mistaken_142 (by decide)) ?_
                        first | exact K | exact K _
                      · have hdb : dom a q b := ⟨hsb, Nat.le_of_not_lt (fun z => c_118 (nI_lt z (by omega)))⟩
                        have M2 := mX11_areAlike (d + 8) g1 (chd A (LQ r) k t) (chd A (LQ r) k b) t b (by omega) (by omega) (kp t hd.1 hd.2) (kp b hdb.1 hdb.2) (hch t (by omega)) (hch b (by omega))
                        refine mm_Es (fun _ _ => mm_aload_n dX11_mistaken_121 rfl rfl) ?_
                        refine mm_Es (fun _ _ => mm_iload dX11_mistaken_122 rfl) ?_
                        refine mm_Es (fun _ _ => mm_iload dX11_mistaken_124 rfl) ?_
                        refine mm_Es (fun _ _ => mm_cV (Y1 := YX11_areAlike) dX11_mistaken_126 lX11_438 vX11_areAlike (M2) sh_165 rfl rfl (by simp [Value.category])) ?_
                        refine mm_Ebn (fun _ _ => mm_if_ne 136 dX11_mistaken_129 (by decide)) (fun c_129 => ?_) (fun c_129 => ?_)
                        · have K := K840 ⟨b, hbt, hdb, (bI_n0.mp c_129).symm⟩
                          refine mm_Es (fun _ _ => mm_iconst (x := 0) dX11_mistaken_136 (by decide)) ?_
                          refine mm_Es (fun _ _ => mm_istore dX11_mistaken_137 (by decide) rfl) ?_
                          refine mm_Es (fun _ _ => mm_iinc dX11_mistaken_139 rfl (nI_inc b) rfl) ?_
                          refine mm_Es (fun _ _ => mm_goto 84 dX11_mistaken_142 (by decide)) ?_
                          first | exact K | exact K _
                        · have K := K (fun _ z => absurd z.symm (bI_e0.mp c_129))
                          refine mm_Es (fun _ _ => mm_iconst (x := 1) dX11_mistaken_132 (by decide)) ?_
                          refine mm_Es (fun _ _ => mm_goto 137 dX11_mistaken_133 (by decide)) ?_
                          refine mm_Es (fun _ _ => mm_istore dX11_mistaken_137 (by decide) rfl) ?_
                          refine mm_Es (fun _ _ => mm_iinc dX11_mistaken_139 rfl (nI_inc b) rfl) ?_
                          refine mm_Es (fun _ _ => mm_goto 84 dX11_mistaken_142 (by decide)) ?_
                          first | exact K | exact K _
          have K := K84 t 0 (by omega) (fun b2 h => by omega)
          refine mm_Es (fun _ _ => mm_iload dX11_mistaken_53 rfl) ?_
          refine mm_Es (fun _ _ => mm_iload_n dX11_mistaken_55 rfl rfl) ?_
          refine mm_Eb (fun _ _ => mm_icmp_gt 208 dX11_mistaken_56 (by decide)) (fun c_56 => ?_) (fun c_56 => ?_)
          · exact absurd c_56 B56
          · refine mm_Es (fun _ _ => mm_iload dX11_mistaken_59 rfl) ?_
            refine mm_Es (fun _ _ => mm_iload_n dX11_mistaken_61 rfl rfl) ?_
            refine mm_Es (fun _ _ => mm_iconst (x := (-1)) dX11_mistaken_62 (by decide)) ?_
            refine mm_Es (fun _ _ => mm_ixor dX11_mistaken_63) ?_
            refine mm_Es (fun _ _ => mm_iand dX11_mistaken_64) ?_
            refine mm_Ebn (fun _ _ => mm_if_ne 202 dX11_mistaken_65 (by decide)) (fun c_65 => ?_) (fun c_65 => ?_)
            · exact absurd ((sub_I (show t < 4096 by omega) ha4).mpr hd.1) c_65
            · refine mm_Es (fun _ _ => mm_iload dX11_mistaken_68 rfl) ?_
              refine mm_Es (fun _ _ => mm_cS (Y1 := YX11_bits) dX11_mistaken_70 lX11_363 sX11_bits (mX11_bits (d + 8) g1 t (by omega)) rfl rfl (by simp [Value.category])) ?_
              refine mm_Es (fun _ _ => mm_iload dX11_mistaken_73 rfl) ?_
              refine mm_Eb (fun _ _ => mm_icmp_gt 202 dX11_mistaken_75 (by decide)) (fun c_75 => ?_) (fun c_75 => ?_)
              · exact absurd c_75 (nI_nlt hd.2 (by omega))
              · refine mm_Es (fun _ _ => mm_iconst (x := 1) dX11_mistaken_78 (by decide)) ?_
                refine mm_Es (fun _ _ => mm_istore dX11_mistaken_79 (by decide) rfl) ?_
                refine mm_Es (fun _ _ => mm_iconst (x := 0) dX11_mistaken_81 (by decide)) ?_
                refine mm_Es (fun _ _ => mm_istore dX11_mistaken_82 (by decide) rfl) ?_
                exact K
        · have e : (foldW a (nst a q (chd A (LQ r) k)) 0 (t + 1)) = (foldW a (nst a q (chd A (LQ r) k)) 0 t) := by
            simp only [foldW]
            split
            · exact nst_n (fun z => hd ⟨by assumption, z.1⟩)
            · rfl
          rw [e] at K202
          refine mm_Es (fun _ _ => mm_iload dX11_mistaken_53 rfl) ?_
          refine mm_Es (fun _ _ => mm_iload_n dX11_mistaken_55 rfl rfl) ?_
          refine mm_Eb (fun _ _ => mm_icmp_gt 208 dX11_mistaken_56 (by decide)) (fun c_56 => ?_) (fun c_56 => ?_)
          · exact absurd c_56 B56
          · refine mm_Es (fun _ _ => mm_iload dX11_mistaken_59 rfl) ?_
            refine mm_Es (fun _ _ => mm_iload_n dX11_mistaken_61 rfl rfl) ?_
            refine mm_Es (fun _ _ => mm_iconst (x := (-1)) dX11_mistaken_62 (by decide)) ?_
            refine mm_Es (fun _ _ => mm_ixor dX11_mistaken_63) ?_
            refine mm_Es (fun _ _ => mm_iand dX11_mistaken_64) ?_
            refine mm_Ebn (fun _ _ => mm_if_ne 202 dX11_mistaken_65 (by decide)) (fun c_65 => ?_) (fun c_65 => ?_)
            · exact K202 _ _
            · refine mm_Es (fun _ _ => mm_iload dX11_mistaken_68 rfl) ?_
              refine mm_Es (fun _ _ => mm_cS (Y1 := YX11_bits) dX11_mistaken_70 lX11_363 sX11_bits (mX11_bits (d + 8) g1 t (by omega)) rfl rfl (by simp [Value.category])) ?_
              refine mm_Es (fun _ _ => mm_iload dX11_mistaken_73 rfl) ?_
              refine mm_Eb (fun _ _ => mm_icmp_gt 202 dX11_mistaken_75 (by decide)) (fun c_75 => ?_) (fun c_75 => ?_)
              · exact K202 _ _
              · exact absurd ⟨(sub_I (show t < 4096 by omega) ha4).mp c_65, Nat.le_of_not_lt (fun z => c_75 (nI_lt z (by omega)))⟩ hd
    exact K53 (a + 1) 0 (by omega) (Nat.le_refl _)
  · subst w0
    have K53 : ∀ m t, t + m = a + 1 → (∀ a2 b2, a2 < t → dom a q a2 → a2 < b2 → dom a q b2 → chd A (LQ r) k a2 = chd A (LQ r) k b2 → wtA A a2 = wtA A b2) → ∀ x6, mm_E (d + 9) YX11_mistaken 53 [some (.ref 165), some (.int (nI r)), some (.int (nI k)), some (.int (nI a)), some (.int (nI q)), some (.int 0), some (.int x6), some (.int (nI t)), none, none] [] g1 (fun v g => ∃ o, MS (chd A (LQ r) k) (wtA A) (dom a q) o ∧ v = some (.int (msA o (foldW a (nst a q (chd A (LQ r) k)) 0 (a + 1)) 0)) ∧ g = g1) := by
      intro m
      induction m with
      | zero =>
        intro t ht hno x6
        have ht : t = a + 1 := by omega
        subst ht
        refine mm_Es (fun _ _ => mm_iload dX11_mistaken_53 rfl) ?_
        refine mm_Es (fun _ _ => mm_iload_n dX11_mistaken_55 rfl rfl) ?_
        refine mm_Eb (fun _ _ => mm_icmp_gt 208 dX11_mistaken_56 (by decide)) (fun c_56 => ?_) (fun c_56 => ?_)
        · refine mm_Es (fun _ _ => mm_iload dX11_mistaken_208 rfl) ?_
          refine mm_Es (fun _ _ => mm_iconst (x := 2) dX11_mistaken_210 (by decide)) ?_
          refine mm_Ebn (fun _ _ => mm_icmp_ne 219 dX11_mistaken_211 (by decide)) (fun c_211 => ?_) (fun c_211 => ?_)
          · refine mm_Es (fun _ _ => mm_bipush (x := (-2)) dX11_mistaken_219 (by decide)) ?_
            refine mm_Er (mm_ireturn dX11_mistaken_221 rfl) ?_
            exact ⟨none, ⟨fun _ a2 b2 h1 h2 h3 h4 => hno a2 b2 (by have := sub_le h1.1; omega) h1 h3 h2 h4, fun a2 b2 z => by simp at z⟩, by unfold msA; rfl, rfl⟩
          · exact absurd c_211 (by decide)
        · exact absurd (nI_lt (show a < a + 1 by omega) (by omega)) c_56
      | succ m ih =>
        intro t ht hno x6
        have hta : t ≤ a := by omega
        have B56 : ¬ nI a < nI t := nI_nlt hta (by omega)
        have hpt := pc_le (show t < 4096 by omega)
        by_cases hd : dom a q t
        · obtain ⟨o, M2, hm⟩ := mX11_mistakenFor (d + 6) g1 A hA hV1 (chd A (LQ r) k) hch a ha4 q hq (fun t ht => kp t ht.1 ht.2) t hd
          cases o with
          | none =>
            have K := ih (t + 1) (by omega) (fun a2 b2 h1 h2 h3 h4 h5 => by
              by_cases z : a2 = t
              · subst z; exact hm.1 rfl b2 h3 h4 h5
              · exact hno a2 b2 (by omega) h2 h3 h4 h5)
            refine mm_Es (fun _ _ => mm_iload dX11_mistaken_53 rfl) ?_
            refine mm_Es (fun _ _ => mm_iload_n dX11_mistaken_55 rfl rfl) ?_
            refine mm_Eb (fun _ _ => mm_icmp_gt 208 dX11_mistaken_56 (by decide)) (fun c_56 => ?_) (fun c_56 => ?_)
            · exact absurd c_56 B56
            · refine mm_Es (fun _ _ => mm_iload dX11_mistaken_59 rfl) ?_
              refine mm_Es (fun _ _ => mm_iload_n dX11_mistaken_61 rfl rfl) ?_
              refine mm_Es (fun _ _ => mm_iconst (x := (-1)) dX11_mistaken_62 (by decide)) ?_
              refine mm_Es (fun _ _ => mm_ixor dX11_mistaken_63) ?_
              refine mm_Es (fun _ _ => mm_iand dX11_mistaken_64) ?_
              refine mm_Ebn (fun _ _ => mm_if_ne 202 dX11_mistaken_65 (by decide)) (fun c_65 => ?_) (fun c_65 => ?_)
              · exact absurd ((sub_I (show t < 4096 by omega) ha4).mpr hd.1) c_65
              · refine mm_Es (fun _ _ => mm_iload dX11_mistaken_68 rfl) ?_
                refine mm_Es (fun _ _ => mm_cS (Y1 := YX11_bits) dX11_mistaken_70 lX11_363 sX11_bits (mX11_bits (d + 8) g1 t (by omega)) rfl rfl (by simp [Value.category])) ?_
                refine mm_Es (fun _ _ => mm_iload dX11_mistaken_73 rfl) ?_
                refine mm_Eb (fun _ _ => mm_icmp_gt 202 dX11_mistaken_75 (by decide)) (fun c_75 => ?_) (fun c_75 => ?_)
                · exact absurd c_75 (nI_nlt hd.2 (by omega))
                · refine mm_Es (fun _ _ => mm_iconst (x := 1) dX11_mistaken_78 (by decide)) ?_
                  refine mm_Es (fun _ _ => mm_istore dX11_mistaken_79 (by decide) rfl) ?_
                  refine mm_Es (fun _ _ => mm_iconst (x := 0) dX11_mistaken_81 (by decide)) ?_
                  refine mm_Es (fun _ _ => mm_istore dX11_mistaken_82 (by decide) rfl) ?_
                  refine mm_Es (fun _ _ => mm_iload dX11_mistaken_84 rfl) ?_
                  refine mm_Es (fun _ _ => mm_iload dX11_mistaken_86 rfl) ?_
                  refine mm_Eb (fun _ _ => mm_icmp_ge 145 dX11_mistaken_88 (by decide)) (fun c_88 => ?_) (fun c_88 => ?_)
                  · refine mm_Es (fun _ _ => mm_iload dX11_mistaken_145 rfl) ?_
                    refine mm_Es (fun _ _ => mm_iload dX11_mistaken_147 rfl) ?_
                    refine mm_Eb (fun _ _ => mm_if_eq 156 dX11_mistaken_149 (by decide)) (fun c_149 => ?_) (fun c_149 => ?_)
                    · exact absurd c_149 (by decide)
                    · refine mm_Es (fun _ _ => mm_iconst (x := 1) dX11_mistaken_152 (by decide)) ?_
                      refine mm_Es (fun _ _ => mm_goto 157 dX11_mistaken_153 (by decide)) ?_
                      refine mm_Es (fun _ _ => mm_iadd dX11_mistaken_157) ?_
                      refine mm_Es (fun _ _ => mm_istore dX11_mistaken_158 (by decide) rfl) ?_
                      refine mm_Es (fun _ _ => mm_iload dX11_mistaken_160 rfl) ?_
                      refine mm_Es (fun _ _ => mm_iconst (x := 2) dX11_mistaken_162 (by decide)) ?_
                      refine mm_Eb (fun _ _ => mm_icmp_ge 178 dX11_mistaken_163 (by decide)) (fun c_163 => ?_) (fun c_163 => ?_)
                      · exact absurd c_163 (by decide)
                      · refine mm_Es (fun _ _ => mm_aload_n dX11_mistaken_166 rfl rfl) ?_
                        refine mm_Es (fun _ _ => mm_iload dX11_mistaken_167 rfl) ?_
                        refine mm_Es (fun _ _ => mm_iload_n dX11_mistaken_169 rfl rfl) ?_
                        refine mm_Es (fun _ _ => mm_iload dX11_mistaken_170 rfl) ?_
                        refine mm_Es (fun _ _ => mm_cV (Y1 := YX11_mistakenFor) dX11_mistaken_172 lX11_455 vX11_mistakenFor (M2) sh_165 rfl rfl (by simp [Value.category])) ?_
                        refine mm_Es (fun _ _ => mm_goto 180 dX11_mistaken_175 (by decide)) ?_
                        refine mm_Es (fun _ _ => mm_istore dX11_mistaken_180 (by decide) rfl) ?_
                        refine mm_Es (fun _ _ => mm_iload dX11_mistaken_182 rfl) ?_
                        refine mm_Es (fun _ _ => mm_bipush (x := (-2)) dX11_mistaken_184 (by decide)) ?_
                        refine mm_Eb (fun _ _ => mm_icmp_eq 202 dX11_mistaken_186 (by decide)) (fun c_186 => ?_) (fun c_186 => ?_)
                        · refine mm_Es (fun _ _ => mm_iinc dX11_mistaken_202 rfl (nI_inc t) rfl) ?_
                          refine mm_Es (fun _ _ => mm_goto 53 dX11_mistaken_205 (by decide)) ?_
                          refine mm_El ?_ (K (x6 + 1))
                          exact ⟨rfl, rfl, rfl, rfl, rfl, rfl, rfl, rfl, trivial⟩
                        · exact absurd rfl c_186
                  · refine mm_Es (fun _ _ => mm_iload dX11_mistaken_91 rfl) ?_
                    refine mm_Eb (fun _ _ => mm_if_eq 145 dX11_mistaken_93 (by decide)) (fun c_93 => ?_) (fun c_93 => ?_)
                    · exact absurd c_93 (by decide)
                    · refine mm_Es (fun _ _ => mm_iload dX11_mistaken_96 rfl) ?_
                      refine mm_Es (fun _ _ => mm_iconst (x := 2) dX11_mistaken_98 (by decide)) ?_
                      refine mm_Ebn (fun _ _ => mm_icmp_ne 145 dX11_mistaken_99 (by decide)) (fun c_99 => ?_) (fun c_99 => ?_)
                      · refine mm_Es (fun _ _ => mm_iload dX11_mistaken_145 rfl) ?_
                        refine mm_Es (fun _ _ => mm_iload dX11_mistaken_147 rfl) ?_
                        refine mm_Eb (fun _ _ => mm_if_eq 156 dX11_mistaken_149 (by decide)) (fun c_149 => ?_) (fun c_149 => ?_)
                        · exact absurd c_149 (by decide)
                        · refine mm_Es (fun _ _ => mm_iconst (x := 1) dX11_mistaken_152 (by decide)) ?_
                          refine mm_Es (fun _ _ => mm_goto 157 dX11_mistaken_153 (by decide)) ?_
                          refine mm_Es (fun _ _ => mm_iadd dX11_mistaken_157) ?_
                          refine mm_Es (fun _ _ => mm_istore dX11_mistaken_158 (by decide) rfl) ?_
                          refine mm_Es (fun _ _ => mm_iload dX11_mistaken_160 rfl) ?_
                          refine mm_Es (fun _ _ => mm_iconst (x := 2) dX11_mistaken_162 (by decide)) ?_
                          refine mm_Eb (fun _ _ => mm_icmp_ge 178 dX11_mistaken_163 (by decide)) (fun c_163 => ?_) (fun c_163 => ?_)
                          · exact absurd c_163 (by decide)
                          · refine mm_Es (fun _ _ => mm_aload_n dX11_mistaken_166 rfl rfl) ?_
                            refine mm_Es (fun _ _ => mm_iload dX11_mistaken_167 rfl) ?_
                            refine mm_Es (fun _ _ => mm_iload_n dX11_mistaken_169 rfl rfl) ?_
                            refine mm_Es (fun _ _ => mm_iload dX11_mistaken_170 rfl) ?_
                            refine mm_Es (fun _ _ => mm_cV (Y1 := YX11_mistakenFor) dX11_mistaken_172 lX11_455 vX11_mistakenFor (M2) sh_165 rfl rfl (by simp [Value.category])) ?_
                            refine mm_Es (fun _ _ => mm_goto 180 dX11_mistaken_175 (by decide)) ?_
                            refine mm_Es (fun _ _ => mm_istore dX11_mistaken_180 (by decide) rfl) ?_
                            refine mm_Es (fun _ _ => mm_iload dX11_mistaken_182 rfl) ?_
                            refine mm_Es (fun _ _ => mm_bipush (x := (-2)) dX11_mistaken_184 (by decide)) ?_
                            refine mm_Eb (fun _ _ => mm_icmp_eq 202 dX11_mistaken_186 (by decide)) (fun c_186 => ?_) (fun c_186 => ?_)
                            · refine mm_Es (fun _ _ => mm_iinc dX11_mistaken_202 rfl (nI_inc t) rfl) ?_
                              refine mm_Es (fun _ _ => mm_goto 53 dX11_mistaken_205 (by decide)) ?_
                              refine mm_El ?_ (K (x6 + 1))
                              exact ⟨rfl, rfl, rfl, rfl, rfl, rfl, rfl, rfl, trivial⟩
                            · exact absurd rfl c_186
                      · exact absurd c_99 (by decide)
          | some b =>
            obtain ⟨m1, m2, m3, m4, m5⟩ := hm.2 b rfl
            have hb4 := sub_le m2.1
            have hms : MS (chd A (LQ r) k) (wtA A) (dom a q) (some (t, b)) := by
              refine ⟨fun z => by simp at z, fun a2 b2 z => ?_⟩
              simp at z
              obtain ⟨rfl, rfl⟩ := z
              refine ⟨hd, m2, m1, m3, m4, fun a2 b2 h1 h2 h3 h4 h5 => ?_⟩
              rcases Nat.lt_or_ge a2 t with z | z
              · exact absurd (hno a2 b2 z h1 h3 h2 h4) h5
              · refine ⟨z, fun e => ?_⟩
                subst e
                exact m5 b2 h3 h2 h4 h5
            refine mm_Es (fun _ _ => mm_iload dX11_mistaken_53 rfl) ?_
            refine mm_Es (fun _ _ => mm_iload_n dX11_mistaken_55 rfl rfl) ?_
            refine mm_Eb (fun _ _ => mm_icmp_gt 208 dX11_mistaken_56 (by decide)) (fun c_56 => ?_) (fun c_56 => ?_)
            · exact absurd c_56 B56
            · refine mm_Es (fun _ _ => mm_iload dX11_mistaken_59 rfl) ?_
              refine mm_Es (fun _ _ => mm_iload_n dX11_mistaken_61 rfl rfl) ?_
              refine mm_Es (fun _ _ => mm_iconst (x := (-1)) dX11_mistaken_62 (by decide)) ?_
              refine mm_Es (fun _ _ => mm_ixor dX11_mistaken_63) ?_
              refine mm_Es (fun _ _ => mm_iand dX11_mistaken_64) ?_
              refine mm_Ebn (fun _ _ => mm_if_ne 202 dX11_mistaken_65 (by decide)) (fun c_65 => ?_) (fun c_65 => ?_)
              · exact absurd ((sub_I (show t < 4096 by omega) ha4).mpr hd.1) c_65
              · refine mm_Es (fun _ _ => mm_iload dX11_mistaken_68 rfl) ?_
                refine mm_Es (fun _ _ => mm_cS (Y1 := YX11_bits) dX11_mistaken_70 lX11_363 sX11_bits (mX11_bits (d + 8) g1 t (by omega)) rfl rfl (by simp [Value.category])) ?_
                refine mm_Es (fun _ _ => mm_iload dX11_mistaken_73 rfl) ?_
                refine mm_Eb (fun _ _ => mm_icmp_gt 202 dX11_mistaken_75 (by decide)) (fun c_75 => ?_) (fun c_75 => ?_)
                · exact absurd c_75 (nI_nlt hd.2 (by omega))
                · refine mm_Es (fun _ _ => mm_iconst (x := 1) dX11_mistaken_78 (by decide)) ?_
                  refine mm_Es (fun _ _ => mm_istore dX11_mistaken_79 (by decide) rfl) ?_
                  refine mm_Es (fun _ _ => mm_iconst (x := 0) dX11_mistaken_81 (by decide)) ?_
                  refine mm_Es (fun _ _ => mm_istore dX11_mistaken_82 (by decide) rfl) ?_
                  refine mm_Es (fun _ _ => mm_iload dX11_mistaken_84 rfl) ?_
                  refine mm_Es (fun _ _ => mm_iload dX11_mistaken_86 rfl) ?_
                  refine mm_Eb (fun _ _ => mm_icmp_ge 145 dX11_mistaken_88 (by decide)) (fun c_88 => ?_) (fun c_88 => ?_)
                  · refine mm_Es (fun _ _ => mm_iload dX11_mistaken_145 rfl) ?_
                    refine mm_Es (fun _ _ => mm_iload dX11_mistaken_147 rfl) ?_
                    refine mm_Eb (fun _ _ => mm_if_eq 156 dX11_mistaken_149 (by decide)) (fun c_149 => ?_) (fun c_149 => ?_)
                    · exact absurd c_149 (by decide)
                    · refine mm_Es (fun _ _ => mm_iconst (x := 1) dX11_mistaken_152 (by decide)) ?_
                      refine mm_Es (fun _ _ => mm_goto 157 dX11_mistaken_153 (by decide)) ?_
                      refine mm_Es (fun _ _ => mm_iadd dX11_mistaken_157) ?_
                      refine mm_Es (fun _ _ => mm_istore dX11_mistaken_158 (by decide) rfl) ?_
                      refine mm_Es (fun _ _ => mm_iload dX11_mistaken_160 rfl) ?_
                      refine mm_Es (fun _ _ => mm_iconst (x := 2) dX11_mistaken_162 (by decide)) ?_
                      refine mm_Eb (fun _ _ => mm_icmp_ge 178 dX11_mistaken_163 (by decide)) (fun c_163 => ?_) (fun c_163 => ?_)
                      · exact absurd c_163 (by decide)
                      · refine mm_Es (fun _ _ => mm_aload_n dX11_mistaken_166 rfl rfl) ?_
                        refine mm_Es (fun _ _ => mm_iload dX11_mistaken_167 rfl) ?_
                        refine mm_Es (fun _ _ => mm_iload_n dX11_mistaken_169 rfl rfl) ?_
                        refine mm_Es (fun _ _ => mm_iload dX11_mistaken_170 rfl) ?_
                        refine mm_Es (fun _ _ => mm_cV (Y1 := YX11_mistakenFor) dX11_mistaken_172 lX11_455 vX11_mistakenFor (M2) sh_165 rfl rfl (by simp [Value.category])) ?_
                        refine mm_Es (fun _ _ => mm_goto 180 dX11_mistaken_175 (by decide)) ?_
                        refine mm_Es (fun _ _ => mm_istore dX11_mistaken_180 (by decide) rfl) ?_
                        refine mm_Es (fun _ _ => mm_iload dX11_mistaken_182 rfl) ?_
                        refine mm_Es (fun _ _ => mm_bipush (x := (-2)) dX11_mistaken_184 (by decide)) ?_
                        refine mm_Eb (fun _ _ => mm_icmp_eq 202 dX11_mistaken_186 (by decide)) (fun c_186 => ?_) (fun c_186 => ?_)
                        · exact absurd c_186 (n2 (by omega))
                        · refine mm_Es (fun _ _ => mm_iload dX11_mistaken_189 rfl) ?_
                          refine mm_Ebn (fun _ _ => mm_if_ne 199 dX11_mistaken_191 (by decide)) (fun c_191 => ?_) (fun c_191 => ?_)
                          · exact absurd c_191 (by decide)
                          · refine mm_Es (fun _ _ => mm_iload dX11_mistaken_194 rfl) ?_
                            refine mm_Es (fun _ _ => mm_goto 201 dX11_mistaken_196 (by decide)) ?_
                            refine mm_Er (mm_ireturn dX11_mistaken_201 rfl) ?_
                            exact ⟨some (t, b), hms, by unfold msA; rfl, rfl⟩
                  · refine mm_Es (fun _ _ => mm_iload dX11_mistaken_91 rfl) ?_
                    refine mm_Eb (fun _ _ => mm_if_eq 145 dX11_mistaken_93 (by decide)) (fun c_93 => ?_) (fun c_93 => ?_)
                    · exact absurd c_93 (by decide)
                    · refine mm_Es (fun _ _ => mm_iload dX11_mistaken_96 rfl) ?_
                      refine mm_Es (fun _ _ => mm_iconst (x := 2) dX11_mistaken_98 (by decide)) ?_
                      refine mm_Ebn (fun _ _ => mm_icmp_ne 145 dX11_mistaken_99 (by decide)) (fun c_99 => ?_) (fun c_99 => ?_)
                      · refine mm_Es (fun _ _ => mm_iload dX11_mistaken_145 rfl) ?_
                        refine mm_Es (fun _ _ => mm_iload dX11_mistaken_147 rfl) ?_
                        refine mm_Eb (fun _ _ => mm_if_eq 156 dX11_mistaken_149 (by decide)) (fun c_149 => ?_) (fun c_149 => ?_)
                        · exact absurd c_149 (by decide)
                        · refine mm_Es (fun _ _ => mm_iconst (x := 1) dX11_mistaken_152 (by decide)) ?_
                          refine mm_Es (fun _ _ => mm_goto 157 dX11_mistaken_153 (by decide)) ?_
                          refine mm_Es (fun _ _ => mm_iadd dX11_mistaken_157) ?_
                          refine mm_Es (fun _ _ => mm_istore dX11_mistaken_158 (by decide) rfl) ?_
                          refine mm_Es (fun _ _ => mm_iload dX11_mistaken_160 rfl) ?_
                          refine mm_Es (fun _ _ => mm_iconst (x := 2) dX11_mistaken_162 (by decide)) ?_
                          refine mm_Eb (fun _ _ => mm_icmp_ge 178 dX11_mistaken_163 (by decide)) (fun c_163 => ?_) (fun c_163 => ?_)
                          · exact absurd c_163 (by decide)
                          · refine mm_Es (fun _ _ => mm_aload_n dX11_mistaken_166 rfl rfl) ?_
                            refine mm_Es (fun _ _ => mm_iload dX11_mistaken_167 rfl) ?_
                            refine mm_Es (fun _ _ => mm_iload_n dX11_mistaken_169 rfl rfl) ?_
                            refine mm_Es (fun _ _ => mm_iload dX11_mistaken_170 rfl) ?_
                            refine mm_Es (fun _ _ => mm_cV (Y1 := YX11_mistakenFor) dX11_mistaken_172 lX11_455 vX11_mistakenFor (M2) sh_165 rfl rfl (by simp [Value.category])) ?_
                            refine mm_Es (fun _ _ => mm_goto 180 dX11_mistaken_175 (by decide)) ?_
                            refine mm_Es (fun _ _ => mm_istore dX11_mistaken_180 (by decide) rfl) ?_
                            refine mm_Es (fun _ _ => mm_iload dX11_mistaken_182 rfl) ?_
                            refine mm_Es (fun _ _ => mm_bipush (x := (-2)) dX11_mistaken_184 (by decide)) ?_
                            refine mm_Eb (fun _ _ => mm_icmp_eq 202 dX11_mistaken_186 (by decide)) (fun c_186 => ?_) (fun c_186 => ?_)
                            · exact absurd c_186 (n2 (by omega))
                            · refine mm_Es (fun _ _ => mm_iload dX11_mistaken_189 rfl) ?_
                              refine mm_Ebn (fun _ _ => mm_if_ne 199 dX11_mistaken_191 (by decide)) (fun c_191 => ?_) (fun c_191 => ?_)
                              · exact absurd c_191 (by decide)
                              · refine mm_Es (fun _ _ => mm_iload dX11_mistaken_194 rfl) ?_
                                refine mm_Es (fun _ _ => mm_goto 201 dX11_mistaken_196 (by decide)) ?_
                                refine mm_Er (mm_ireturn dX11_mistaken_201 rfl) ?_
                                exact ⟨some (t, b), hms, by unfold msA; rfl, rfl⟩
                      · exact absurd c_99 (by decide)
        · have K := ih (t + 1) (by omega) (fun a2 b2 h1 h2 h3 h4 h5 => by
            by_cases z : a2 = t
            · subst z; exact absurd h2 hd
            · exact hno a2 b2 (by omega) h2 h3 h4 h5)
          refine mm_Es (fun _ _ => mm_iload dX11_mistaken_53 rfl) ?_
          refine mm_Es (fun _ _ => mm_iload_n dX11_mistaken_55 rfl rfl) ?_
          refine mm_Eb (fun _ _ => mm_icmp_gt 208 dX11_mistaken_56 (by decide)) (fun c_56 => ?_) (fun c_56 => ?_)
          · exact absurd c_56 B56
          · refine mm_Es (fun _ _ => mm_iload dX11_mistaken_59 rfl) ?_
            refine mm_Es (fun _ _ => mm_iload_n dX11_mistaken_61 rfl rfl) ?_
            refine mm_Es (fun _ _ => mm_iconst (x := (-1)) dX11_mistaken_62 (by decide)) ?_
            refine mm_Es (fun _ _ => mm_ixor dX11_mistaken_63) ?_
            refine mm_Es (fun _ _ => mm_iand dX11_mistaken_64) ?_
            refine mm_Ebn (fun _ _ => mm_if_ne 202 dX11_mistaken_65 (by decide)) (fun c_65 => ?_) (fun c_65 => ?_)
            · refine mm_Es (fun _ _ => mm_iinc dX11_mistaken_202 rfl (nI_inc t) rfl) ?_
              refine mm_Es (fun _ _ => mm_goto 53 dX11_mistaken_205 (by decide)) ?_
              exact K _
            · refine mm_Es (fun _ _ => mm_iload dX11_mistaken_68 rfl) ?_
              refine mm_Es (fun _ _ => mm_cS (Y1 := YX11_bits) dX11_mistaken_70 lX11_363 sX11_bits (mX11_bits (d + 8) g1 t (by omega)) rfl rfl (by simp [Value.category])) ?_
              refine mm_Es (fun _ _ => mm_iload dX11_mistaken_73 rfl) ?_
              refine mm_Eb (fun _ _ => mm_icmp_gt 202 dX11_mistaken_75 (by decide)) (fun c_75 => ?_) (fun c_75 => ?_)
              · refine mm_Es (fun _ _ => mm_iinc dX11_mistaken_202 rfl (nI_inc t) rfl) ?_
                refine mm_Es (fun _ _ => mm_goto 53 dX11_mistaken_205 (by decide)) ?_
                exact K _
              · exact absurd ⟨(sub_I (show t < 4096 by omega) ha4).mp c_65, Nat.le_of_not_lt (fun z => c_75 (nI_lt z (by omega)))⟩ hd
    exact K53 (a + 1) 0 (by omega) (fun _ _ z => by omega) 0
  · subst w0
    have K53 : ∀ m t, t + m = a + 1 → (∀ a2 b2, a2 < t → dom a q a2 → a2 < b2 → dom a q b2 → chd A (LQ r) k a2 = chd A (LQ r) k b2 → wtA A a2 = wtA A b2) → ∀ x6, mm_E (d + 9) YX11_mistaken 53 [some (.ref 165), some (.int (nI r)), some (.int (nI k)), some (.int (nI a)), some (.int (nI q)), some (.int 1), some (.int x6), some (.int (nI t)), none, none] [] g1 (fun v g => ∃ o, MS (chd A (LQ r) k) (wtA A) (dom a q) o ∧ v = some (.int (msA o (foldW a (nst a q (chd A (LQ r) k)) 0 (a + 1)) 1)) ∧ g = g1) := by
      intro m
      induction m with
      | zero =>
        intro t ht hno x6
        have ht : t = a + 1 := by omega
        subst ht
        refine mm_Es (fun _ _ => mm_iload dX11_mistaken_53 rfl) ?_
        refine mm_Es (fun _ _ => mm_iload_n dX11_mistaken_55 rfl rfl) ?_
        refine mm_Eb (fun _ _ => mm_icmp_gt 208 dX11_mistaken_56 (by decide)) (fun c_56 => ?_) (fun c_56 => ?_)
        · refine mm_Es (fun _ _ => mm_iload dX11_mistaken_208 rfl) ?_
          refine mm_Es (fun _ _ => mm_iconst (x := 2) dX11_mistaken_210 (by decide)) ?_
          refine mm_Ebn (fun _ _ => mm_icmp_ne 219 dX11_mistaken_211 (by decide)) (fun c_211 => ?_) (fun c_211 => ?_)
          · refine mm_Es (fun _ _ => mm_bipush (x := (-2)) dX11_mistaken_219 (by decide)) ?_
            refine mm_Er (mm_ireturn dX11_mistaken_221 rfl) ?_
            exact ⟨none, ⟨fun _ a2 b2 h1 h2 h3 h4 => hno a2 b2 (by have := sub_le h1.1; omega) h1 h3 h2 h4, fun a2 b2 z => by simp at z⟩, by unfold msA; rfl, rfl⟩
          · exact absurd c_211 (by decide)
        · exact absurd (nI_lt (show a < a + 1 by omega) (by omega)) c_56
      | succ m ih =>
        intro t ht hno x6
        have hta : t ≤ a := by omega
        have B56 : ¬ nI a < nI t := nI_nlt hta (by omega)
        have hpt := pc_le (show t < 4096 by omega)
        by_cases hd : dom a q t
        · obtain ⟨o, M2, hm⟩ := mX11_mistakenFor (d + 6) g1 A hA hV1 (chd A (LQ r) k) hch a ha4 q hq (fun t ht => kp t ht.1 ht.2) t hd
          cases o with
          | none =>
            have K := ih (t + 1) (by omega) (fun a2 b2 h1 h2 h3 h4 h5 => by
              by_cases z : a2 = t
              · subst z; exact hm.1 rfl b2 h3 h4 h5
              · exact hno a2 b2 (by omega) h2 h3 h4 h5)
            refine mm_Es (fun _ _ => mm_iload dX11_mistaken_53 rfl) ?_
            refine mm_Es (fun _ _ => mm_iload_n dX11_mistaken_55 rfl rfl) ?_
            refine mm_Eb (fun _ _ => mm_icmp_gt 208 dX11_mistaken_56 (by decide)) (fun c_56 => ?_) (fun c_56 => ?_)
            · exact absurd c_56 B56
            · refine mm_Es (fun _ _ => mm_iload dX11_mistaken_59 rfl) ?_
              refine mm_Es (fun _ _ => mm_iload_n dX11_mistaken_61 rfl rfl) ?_
              refine mm_Es (fun _ _ => mm_iconst (x := (-1)) dX11_mistaken_62 (by decide)) ?_
              refine mm_Es (fun _ _ => mm_ixor dX11_mistaken_63) ?_
              refine mm_Es (fun _ _ => mm_iand dX11_mistaken_64) ?_
              refine mm_Ebn (fun _ _ => mm_if_ne 202 dX11_mistaken_65 (by decide)) (fun c_65 => ?_) (fun c_65 => ?_)
              · exact absurd ((sub_I (show t < 4096 by omega) ha4).mpr hd.1) c_65
              · refine mm_Es (fun _ _ => mm_iload dX11_mistaken_68 rfl) ?_
                refine mm_Es (fun _ _ => mm_cS (Y1 := YX11_bits) dX11_mistaken_70 lX11_363 sX11_bits (mX11_bits (d + 8) g1 t (by omega)) rfl rfl (by simp [Value.category])) ?_
                refine mm_Es (fun _ _ => mm_iload dX11_mistaken_73 rfl) ?_
                refine mm_Eb (fun _ _ => mm_icmp_gt 202 dX11_mistaken_75 (by decide)) (fun c_75 => ?_) (fun c_75 => ?_)
                · exact absurd c_75 (nI_nlt hd.2 (by omega))
                · refine mm_Es (fun _ _ => mm_iconst (x := 1) dX11_mistaken_78 (by decide)) ?_
                  refine mm_Es (fun _ _ => mm_istore dX11_mistaken_79 (by decide) rfl) ?_
                  refine mm_Es (fun _ _ => mm_iconst (x := 0) dX11_mistaken_81 (by decide)) ?_
                  refine mm_Es (fun _ _ => mm_istore dX11_mistaken_82 (by decide) rfl) ?_
                  refine mm_Es (fun _ _ => mm_iload dX11_mistaken_84 rfl) ?_
                  refine mm_Es (fun _ _ => mm_iload dX11_mistaken_86 rfl) ?_
                  refine mm_Eb (fun _ _ => mm_icmp_ge 145 dX11_mistaken_88 (by decide)) (fun c_88 => ?_) (fun c_88 => ?_)
                  · refine mm_Es (fun _ _ => mm_iload dX11_mistaken_145 rfl) ?_
                    refine mm_Es (fun _ _ => mm_iload dX11_mistaken_147 rfl) ?_
                    refine mm_Eb (fun _ _ => mm_if_eq 156 dX11_mistaken_149 (by decide)) (fun c_149 => ?_) (fun c_149 => ?_)
                    · exact absurd c_149 (by decide)
                    · refine mm_Es (fun _ _ => mm_iconst (x := 1) dX11_mistaken_152 (by decide)) ?_
                      refine mm_Es (fun _ _ => mm_goto 157 dX11_mistaken_153 (by decide)) ?_
                      refine mm_Es (fun _ _ => mm_iadd dX11_mistaken_157) ?_
                      refine mm_Es (fun _ _ => mm_istore dX11_mistaken_158 (by decide) rfl) ?_
                      refine mm_Es (fun _ _ => mm_iload dX11_mistaken_160 rfl) ?_
                      refine mm_Es (fun _ _ => mm_iconst (x := 2) dX11_mistaken_162 (by decide)) ?_
                      refine mm_Eb (fun _ _ => mm_icmp_ge 178 dX11_mistaken_163 (by decide)) (fun c_163 => ?_) (fun c_163 => ?_)
                      · exact absurd c_163 (by decide)
                      · refine mm_Es (fun _ _ => mm_aload_n dX11_mistaken_166 rfl rfl) ?_
                        refine mm_Es (fun _ _ => mm_iload dX11_mistaken_167 rfl) ?_
                        refine mm_Es (fun _ _ => mm_iload_n dX11_mistaken_169 rfl rfl) ?_
                        refine mm_Es (fun _ _ => mm_iload dX11_mistaken_170 rfl) ?_
                        refine mm_Es (fun _ _ => mm_cV (Y1 := YX11_mistakenFor) dX11_mistaken_172 lX11_455 vX11_mistakenFor (M2) sh_165 rfl rfl (by simp [Value.category])) ?_
                        refine mm_Es (fun _ _ => mm_goto 180 dX11_mistaken_175 (by decide)) ?_
                        refine mm_Es (fun _ _ => mm_istore dX11_mistaken_180 (by decide) rfl) ?_
                        refine mm_Es (fun _ _ => mm_iload dX11_mistaken_182 rfl) ?_
                        refine mm_Es (fun _ _ => mm_bipush (x := (-2)) dX11_mistaken_184 (by decide)) ?_
                        refine mm_Eb (fun _ _ => mm_icmp_eq 202 dX11_mistaken_186 (by decide)) (fun c_186 => ?_) (fun c_186 => ?_)
                        · refine mm_Es (fun _ _ => mm_iinc dX11_mistaken_202 rfl (nI_inc t) rfl) ?_
                          refine mm_Es (fun _ _ => mm_goto 53 dX11_mistaken_205 (by decide)) ?_
                          refine mm_El ?_ (K (x6 + 1))
                          exact ⟨rfl, rfl, rfl, rfl, rfl, rfl, rfl, rfl, trivial⟩
                        · exact absurd rfl c_186
                  · refine mm_Es (fun _ _ => mm_iload dX11_mistaken_91 rfl) ?_
                    refine mm_Eb (fun _ _ => mm_if_eq 145 dX11_mistaken_93 (by decide)) (fun c_93 => ?_) (fun c_93 => ?_)
                    · exact absurd c_93 (by decide)
                    · refine mm_Es (fun _ _ => mm_iload dX11_mistaken_96 rfl) ?_
                      refine mm_Es (fun _ _ => mm_iconst (x := 2) dX11_mistaken_98 (by decide)) ?_
                      refine mm_Ebn (fun _ _ => mm_icmp_ne 145 dX11_mistaken_99 (by decide)) (fun c_99 => ?_) (fun c_99 => ?_)
                      · refine mm_Es (fun _ _ => mm_iload dX11_mistaken_145 rfl) ?_
                        refine mm_Es (fun _ _ => mm_iload dX11_mistaken_147 rfl) ?_
                        refine mm_Eb (fun _ _ => mm_if_eq 156 dX11_mistaken_149 (by decide)) (fun c_149 => ?_) (fun c_149 => ?_)
                        · exact absurd c_149 (by decide)
                        · refine mm_Es (fun _ _ => mm_iconst (x := 1) dX11_mistaken_152 (by decide)) ?_
                          refine mm_Es (fun _ _ => mm_goto 157 dX11_mistaken_153 (by decide)) ?_
                          refine mm_Es (fun _ _ => mm_iadd dX11_mistaken_157) ?_
                          refine mm_Es (fun _ _ => mm_istore dX11_mistaken_158 (by decide) rfl) ?_
                          refine mm_Es (fun _ _ => mm_iload dX11_mistaken_160 rfl) ?_
                          refine mm_Es (fun _ _ => mm_iconst (x := 2) dX11_mistaken_162 (by decide)) ?_
                          refine mm_Eb (fun _ _ => mm_icmp_ge 178 dX11_mistaken_163 (by decide)) (fun c_163 => ?_) (fun c_163 => ?_)
                          · exact absurd c_163 (by decide)
                          · refine mm_Es (fun _ _ => mm_aload_n dX11_mistaken_166 rfl rfl) ?_
                            refine mm_Es (fun _ _ => mm_iload dX11_mistaken_167 rfl) ?_
                            refine mm_Es (fun _ _ => mm_iload_n dX11_mistaken_169 rfl rfl) ?_
                            refine mm_Es (fun _ _ => mm_iload dX11_mistaken_170 rfl) ?_
                            refine mm_Es (fun _ _ => mm_cV (Y1 := YX11_mistakenFor) dX11_mistaken_172 lX11_455 vX11_mistakenFor (M2) sh_165 rfl rfl (by simp [Value.category])) ?_
                            refine mm_Es (fun _ _ => mm_goto 180 dX11_mistaken_175 (by decide)) ?_
                            refine mm_Es (fun _ _ => mm_istore dX11_mistaken_180 (by decide) rfl) ?_
                            refine mm_Es (fun _ _ => mm_iload dX11_mistaken_182 rfl) ?_
                            refine mm_Es (fun _ _ => mm_bipush (x := (-2)) dX11_mistaken_184 (by decide)) ?_
                            refine mm_Eb (fun _ _ => mm_icmp_eq 202 dX11_mistaken_186 (by decide)) (fun c_186 => ?_) (fun c_186 => ?_)
                            · refine mm_Es (fun _ _ => mm_iinc dX11_mistaken_202 rfl (nI_inc t) rfl) ?_
                              refine mm_Es (fun _ _ => mm_goto 53 dX11_mistaken_205 (by decide)) ?_
                              refine mm_El ?_ (K (x6 + 1))
                              exact ⟨rfl, rfl, rfl, rfl, rfl, rfl, rfl, rfl, trivial⟩
                            · exact absurd rfl c_186
                      · exact absurd c_99 (by decide)
          | some b =>
            obtain ⟨m1, m2, m3, m4, m5⟩ := hm.2 b rfl
            have hb4 := sub_le m2.1
            have hms : MS (chd A (LQ r) k) (wtA A) (dom a q) (some (t, b)) := by
              refine ⟨fun z => by simp at z, fun a2 b2 z => ?_⟩
              simp at z
              obtain ⟨rfl, rfl⟩ := z
              refine ⟨hd, m2, m1, m3, m4, fun a2 b2 h1 h2 h3 h4 h5 => ?_⟩
              rcases Nat.lt_or_ge a2 t with z | z
              · exact absurd (hno a2 b2 z h1 h3 h2 h4) h5
              · refine ⟨z, fun e => ?_⟩
                subst e
                exact m5 b2 h3 h2 h4 h5
            refine mm_Es (fun _ _ => mm_iload dX11_mistaken_53 rfl) ?_
            refine mm_Es (fun _ _ => mm_iload_n dX11_mistaken_55 rfl rfl) ?_
            refine mm_Eb (fun _ _ => mm_icmp_gt 208 dX11_mistaken_56 (by decide)) (fun c_56 => ?_) (fun c_56 => ?_)
            · exact absurd c_56 B56
            · refine mm_Es (fun _ _ => mm_iload dX11_mistaken_59 rfl) ?_
              refine mm_Es (fun _ _ => mm_iload_n dX11_mistaken_61 rfl rfl) ?_
              refine mm_Es (fun _ _ => mm_iconst (x := (-1)) dX11_mistaken_62 (by decide)) ?_
              refine mm_Es (fun _ _ => mm_ixor dX11_mistaken_63) ?_
              refine mm_Es (fun _ _ => mm_iand dX11_mistaken_64) ?_
              refine mm_Ebn (fun _ _ => mm_if_ne 202 dX11_mistaken_65 (by decide)) (fun c_65 => ?_) (fun c_65 => ?_)
              · exact absurd ((sub_I (show t < 4096 by omega) ha4).mpr hd.1) c_65
              · refine mm_Es (fun _ _ => mm_iload dX11_mistaken_68 rfl) ?_
                refine mm_Es (fun _ _ => mm_cS (Y1 := YX11_bits) dX11_mistaken_70 lX11_363 sX11_bits (mX11_bits (d + 8) g1 t (by omega)) rfl rfl (by simp [Value.category])) ?_
                refine mm_Es (fun _ _ => mm_iload dX11_mistaken_73 rfl) ?_
                refine mm_Eb (fun _ _ => mm_icmp_gt 202 dX11_mistaken_75 (by decide)) (fun c_75 => ?_) (fun c_75 => ?_)
                · exact absurd c_75 (nI_nlt hd.2 (by omega))
                · refine mm_Es (fun _ _ => mm_iconst (x := 1) dX11_mistaken_78 (by decide)) ?_
                  refine mm_Es (fun _ _ => mm_istore dX11_mistaken_79 (by decide) rfl) ?_
                  refine mm_Es (fun _ _ => mm_iconst (x := 0) dX11_mistaken_81 (by decide)) ?_
                  refine mm_Es (fun _ _ => mm_istore dX11_mistaken_82 (by decide) rfl) ?_
                  refine mm_Es (fun _ _ => mm_iload dX11_mistaken_84 rfl) ?_
                  refine mm_Es (fun _ _ => mm_iload dX11_mistaken_86 rfl) ?_
                  refine mm_Eb (fun _ _ => mm_icmp_ge 145 dX11_mistaken_88 (by decide)) (fun c_88 => ?_) (fun c_88 => ?_)
                  · refine mm_Es (fun _ _ => mm_iload dX11_mistaken_145 rfl) ?_
                    refine mm_Es (fun _ _ => mm_iload dX11_mistaken_147 rfl) ?_
                    refine mm_Eb (fun _ _ => mm_if_eq 156 dX11_mistaken_149 (by decide)) (fun c_149 => ?_) (fun c_149 => ?_)
                    · exact absurd c_149 (by decide)
                    · refine mm_Es (fun _ _ => mm_iconst (x := 1) dX11_mistaken_152 (by decide)) ?_
                      refine mm_Es (fun _ _ => mm_goto 157 dX11_mistaken_153 (by decide)) ?_
                      refine mm_Es (fun _ _ => mm_iadd dX11_mistaken_157) ?_
                      refine mm_Es (fun _ _ => mm_istore dX11_mistaken_158 (by decide) rfl) ?_
                      refine mm_Es (fun _ _ => mm_iload dX11_mistaken_160 rfl) ?_
                      refine mm_Es (fun _ _ => mm_iconst (x := 2) dX11_mistaken_162 (by decide)) ?_
                      refine mm_Eb (fun _ _ => mm_icmp_ge 178 dX11_mistaken_163 (by decide)) (fun c_163 => ?_) (fun c_163 => ?_)
                      · exact absurd c_163 (by decide)
                      · refine mm_Es (fun _ _ => mm_aload_n dX11_mistaken_166 rfl rfl) ?_
                        refine mm_Es (fun _ _ => mm_iload dX11_mistaken_167 rfl) ?_
                        refine mm_Es (fun _ _ => mm_iload_n dX11_mistaken_169 rfl rfl) ?_
                        refine mm_Es (fun _ _ => mm_iload dX11_mistaken_170 rfl) ?_
                        refine mm_Es (fun _ _ => mm_cV (Y1 := YX11_mistakenFor) dX11_mistaken_172 lX11_455 vX11_mistakenFor (M2) sh_165 rfl rfl (by simp [Value.category])) ?_
                        refine mm_Es (fun _ _ => mm_goto 180 dX11_mistaken_175 (by decide)) ?_
                        refine mm_Es (fun _ _ => mm_istore dX11_mistaken_180 (by decide) rfl) ?_
                        refine mm_Es (fun _ _ => mm_iload dX11_mistaken_182 rfl) ?_
                        refine mm_Es (fun _ _ => mm_bipush (x := (-2)) dX11_mistaken_184 (by decide)) ?_
                        refine mm_Eb (fun _ _ => mm_icmp_eq 202 dX11_mistaken_186 (by decide)) (fun c_186 => ?_) (fun c_186 => ?_)
                        · exact absurd c_186 (n2 (by omega))
                        · refine mm_Es (fun _ _ => mm_iload dX11_mistaken_189 rfl) ?_
                          refine mm_Ebn (fun _ _ => mm_if_ne 199 dX11_mistaken_191 (by decide)) (fun c_191 => ?_) (fun c_191 => ?_)
                          · refine mm_Es (fun _ _ => mm_iload dX11_mistaken_199 rfl) ?_
                            refine mm_Er (mm_ireturn dX11_mistaken_201 rfl) ?_
                            exact ⟨some (t, b), hms, by unfold msA; rfl, rfl⟩
                          · exact absurd c_191 (by decide)
                  · refine mm_Es (fun _ _ => mm_iload dX11_mistaken_91 rfl) ?_
                    refine mm_Eb (fun _ _ => mm_if_eq 145 dX11_mistaken_93 (by decide)) (fun c_93 => ?_) (fun c_93 => ?_)
                    · exact absurd c_93 (by decide)
                    · refine mm_Es (fun _ _ => mm_iload dX11_mistaken_96 rfl) ?_
                      refine mm_Es (fun _ _ => mm_iconst (x := 2) dX11_mistaken_98 (by decide)) ?_
                      refine mm_Ebn (fun _ _ => mm_icmp_ne 145 dX11_mistaken_99 (by decide)) (fun c_99 => ?_) (fun c_99 => ?_)
                      · refine mm_Es (fun _ _ => mm_iload dX11_mistaken_145 rfl) ?_
                        refine mm_Es (fun _ _ => mm_iload dX11_mistaken_147 rfl) ?_
                        refine mm_Eb (fun _ _ => mm_if_eq 156 dX11_mistaken_149 (by decide)) (fun c_149 => ?_) (fun c_149 => ?_)
                        · exact absurd c_149 (by decide)
                        · refine mm_Es (fun _ _ => mm_iconst (x := 1) dX11_mistaken_152 (by decide)) ?_
                          refine mm_Es (fun _ _ => mm_goto 157 dX11_mistaken_153 (by decide)) ?_
                          refine mm_Es (fun _ _ => mm_iadd dX11_mistaken_157) ?_
                          refine mm_Es (fun _ _ => mm_istore dX11_mistaken_158 (by decide) rfl) ?_
                          refine mm_Es (fun _ _ => mm_iload dX11_mistaken_160 rfl) ?_
                          refine mm_Es (fun _ _ => mm_iconst (x := 2) dX11_mistaken_162 (by decide)) ?_
                          refine mm_Eb (fun _ _ => mm_icmp_ge 178 dX11_mistaken_163 (by decide)) (fun c_163 => ?_) (fun c_163 => ?_)
                          · exact absurd c_163 (by decide)
                          · refine mm_Es (fun _ _ => mm_aload_n dX11_mistaken_166 rfl rfl) ?_
                            refine mm_Es (fun _ _ => mm_iload dX11_mistaken_167 rfl) ?_
                            refine mm_Es (fun _ _ => mm_iload_n dX11_mistaken_169 rfl rfl) ?_
                            refine mm_Es (fun _ _ => mm_iload dX11_mistaken_170 rfl) ?_
                            refine mm_Es (fun _ _ => mm_cV (Y1 := YX11_mistakenFor) dX11_mistaken_172 lX11_455 vX11_mistakenFor (M2) sh_165 rfl rfl (by simp [Value.category])) ?_
                            refine mm_Es (fun _ _ => mm_goto 180 dX11_mistaken_175 (by decide)) ?_
                            refine mm_Es (fun _ _ => mm_istore dX11_mistaken_180 (by decide) rfl) ?_
                            refine mm_Es (fun _ _ => mm_iload dX11_mistaken_182 rfl) ?_
                            refine mm_Es (fun _ _ => mm_bipush (x := (-2)) dX11_mistaken_184 (by decide)) ?_
                            refine mm_Eb (fun _ _ => mm_icmp_eq 202 dX11_mistaken_186 (by decide)) (fun c_186 => ?_) (fun c_186 => ?_)
                            · exact absurd c_186 (n2 (by omega))
                            · refine mm_Es (fun _ _ => mm_iload dX11_mistaken_189 rfl) ?_
                              refine mm_Ebn (fun _ _ => mm_if_ne 199 dX11_mistaken_191 (by decide)) (fun c_191 => ?_) (fun c_191 => ?_)
                              · refine mm_Es (fun _ _ => mm_iload dX11_mistaken_199 rfl) ?_
                                refine mm_Er (mm_ireturn dX11_mistaken_201 rfl) ?_
                                exact ⟨some (t, b), hms, by unfold msA; rfl, rfl⟩
                              · exact absurd c_191 (by decide)
                      · exact absurd c_99 (by decide)
        · have K := ih (t + 1) (by omega) (fun a2 b2 h1 h2 h3 h4 h5 => by
            by_cases z : a2 = t
            · subst z; exact absurd h2 hd
            · exact hno a2 b2 (by omega) h2 h3 h4 h5)
          refine mm_Es (fun _ _ => mm_iload dX11_mistaken_53 rfl) ?_
          refine mm_Es (fun _ _ => mm_iload_n dX11_mistaken_55 rfl rfl) ?_
          refine mm_Eb (fun _ _ => mm_icmp_gt 208 dX11_mistaken_56 (by decide)) (fun c_56 => ?_) (fun c_56 => ?_)
          · exact absurd c_56 B56
          · refine mm_Es (fun _ _ => mm_iload dX11_mistaken_59 rfl) ?_
            refine mm_Es (fun _ _ => mm_iload_n dX11_mistaken_61 rfl rfl) ?_
            refine mm_Es (fun _ _ => mm_iconst (x := (-1)) dX11_mistaken_62 (by decide)) ?_
            refine mm_Es (fun _ _ => mm_ixor dX11_mistaken_63) ?_
            refine mm_Es (fun _ _ => mm_iand dX11_mistaken_64) ?_
            refine mm_Ebn (fun _ _ => mm_if_ne 202 dX11_mistaken_65 (by decide)) (fun c_65 => ?_) (fun c_65 => ?_)
            · refine mm_Es (fun _ _ => mm_iinc dX11_mistaken_202 rfl (nI_inc t) rfl) ?_
              refine mm_Es (fun _ _ => mm_goto 53 dX11_mistaken_205 (by decide)) ?_
              exact K _
            · refine mm_Es (fun _ _ => mm_iload dX11_mistaken_68 rfl) ?_
              refine mm_Es (fun _ _ => mm_cS (Y1 := YX11_bits) dX11_mistaken_70 lX11_363 sX11_bits (mX11_bits (d + 8) g1 t (by omega)) rfl rfl (by simp [Value.category])) ?_
              refine mm_Es (fun _ _ => mm_iload dX11_mistaken_73 rfl) ?_
              refine mm_Eb (fun _ _ => mm_icmp_gt 202 dX11_mistaken_75 (by decide)) (fun c_75 => ?_) (fun c_75 => ?_)
              · refine mm_Es (fun _ _ => mm_iinc dX11_mistaken_202 rfl (nI_inc t) rfl) ?_
                refine mm_Es (fun _ _ => mm_goto 53 dX11_mistaken_205 (by decide)) ?_
                exact K _
              · exact absurd ⟨(sub_I (show t < 4096 by omega) ha4).mp c_65, Nat.le_of_not_lt (fun z => c_75 (nI_lt z (by omega)))⟩ hd
    exact K53 (a + 1) 0 (by omega) (fun _ _ z => by omega) 0
