/-! What somebody holds; the sets that nobody can mishear: collectSafe, findsSafe. -/
/-- what a person holds -/
def hN (fh : Nat → Int32) (p : Int32) : Nat → Nat
  | 0 => 0
  | i + 1 => if fh i = p then hN fh p i + 2 ^ i else hN fh p i
theorem hN_lt (fh : Nat → Int32) (p : Int32) : ∀ n, hN fh p n < 2 ^ n := by
  intro n
  induction n with
  | zero => simp [hN]
  | succ i ih => simp only [hN, Nat.pow_succ]; split <;> omega
set_option maxRecDepth 100000 in
theorem or_nI {i a : Nat} (hi : i < 12) (ha : a < 2 ^ i) : nI a ||| ((1 : Int32) <<< (nI i &&& 31)) = nI (a + 2 ^ i) := by
  have H : ∀ i, i < 12 → ∀ a, a < 2 ^ i → nI a ||| ((1 : Int32) <<< (nI i &&& 31)) = nI (a + 2 ^ i) := by decide +kernel
  exact H i hi a ha
theorem sp_held_N (fh : Nat → Int32) (p : Int32) : ∀ n, n ≤ 12 → sp_held fh p n = nI (hN fh p n) := by
  intro n
  induction n with
  | zero => intro _; rfl
  | succ i ih =>
    intro h
    simp only [sp_held, hN]
    rw [ih (by omega)]
    split
    · exact or_nI (by omega) (hN_lt fh p i)
    · rfl
theorem hN_c {fh gh : Nat → Int32} {p : Int32} : ∀ n, (∀ c, c < n → fh c = gh c) → hN fh p n = hN gh p n := by
  intro n
  induction n with
  | zero => intro _; rfl
  | succ i ih => intro h; simp only [hN]; rw [ih (fun c hc => h c (by omega)), h i (by omega)]
theorem hN_bit (fh : Nat → Int32) (p : Int32) (j : Nat) : ∀ n, (hN fh p n).testBit j = true → j < n ∧ fh j = p := by
  intro n
  induction n with
  | zero => intro h; simp [hN] at h
  | succ i ih =>
    intro h
    simp only [hN] at h
    split at h
    · rename_i e
      rw [Nat.add_comm] at h
      rcases (show j < i ∨ j = i ∨ i < j by omega) with z | z | z
      · rw [Nat.testBit_two_pow_add_gt z] at h
        have := ih h
        exact ⟨by omega, this.2⟩
      · subst z; exact ⟨by omega, e⟩
      · have hl := hN_lt fh p i
        have : (2 ^ i + hN fh p i) < 2 ^ j := Nat.lt_of_lt_of_le (show 2 ^ i + hN fh p i < 2 ^ (i + 1) by rw [Nat.pow_succ]; omega) (Nat.pow_le_pow_right (by decide) z)
        rw [Nat.testBit_lt_two_pow this] at h
        cases h
    · have := ih h; exact ⟨by omega, this.2⟩
theorem sub_bit {s W j : Nat} (h : sub s W) (hb : s.testBit j = true) : W.testBit j = true := by
  have := congrArg (fun x => x.testBit j) h
  simp only [Nat.testBit_and] at this
  rw [hb] at this
  simpa using this
/-- what two people hold has nothing in common -/
theorem held_disj {fh : Nat → Int32} {p q : Int32} {n a b : Nat} (hpq : ¬ p = q) (ha : sub a (hN fh p n)) (hb : sub b (hN fh q n)) : a &&& b = 0 := by
  apply Nat.eq_of_testBit_eq
  intro j
  rw [Nat.testBit_and, Nat.zero_testBit]
  cases h1 : a.testBit j with
  | false => rfl
  | true =>
    cases h2 : b.testBit j with
    | false => rfl
    | true =>
      have x := hN_bit fh p j n (sub_bit ha h1)
      have y := hN_bit fh q j n (sub_bit hb h2)
      exact absurd (x.2.symm.trans y.2) hpq
theorem pb_disj : ∀ b x y, x &&& y = 0 → pb b x + pb b y ≤ b := by
  intro b
  induction b with
  | zero => intro x y _; simp [pb]
  | succ b ih =>
    intro x y h
    have e := and_2 (x / 2) (y / 2) (x % 2) (y % 2) (by omega) (by omega)
    rw [Nat.div_add_mod, Nat.div_add_mod, h] at e
    have h1 : x / 2 &&& y / 2 = 0 := by omega
    have h2 : (x % 2) * (y % 2) = 0 := by omega
    have := ih _ _ h1
    simp only [pb]
    rcases Nat.mul_eq_zero.mp h2 with z | z <;> omega
theorem held_pc {fh : Nat → Int32} {p q : Int32} {n a b : Nat} (hpq : ¬ p = q) (h1 : a < 4096) (h2 : b < 4096) (ha : sub a (hN fh p n)) (hb : sub b (hN fh q n)) : pc a + pc b ≤ 12 := by
  rw [← pb_pc h1, ← pb_pc h2]
  exact pb_disj 12 a b (held_disj hpq ha hb)
/-- nobody can mishear it -/
def safe (ch : Nat → List Int32) (wt : Nat → Int32) (W t : Nat) : Prop := sub t W ∧ ∀ s, sub s W → ch s = ch t → wt s = wt t
noncomputable def sfs (ch : Nat → List Int32) (wt : Nat → Int32) (W : Nat) (l : List Nat) (t : Nat) : List Nat := by
  classical
  exact if safe ch wt W t then l ++ [t] else l
theorem sfs_y {ch : Nat → List Int32} {wt : Nat → Int32} {W : Nat} {l : List Nat} {t : Nat} (h : safe ch wt W t) : sfs ch wt W l t = l ++ [t] := by unfold sfs; rw [if_pos h]
theorem sfs_n {ch : Nat → List Int32} {wt : Nat → Int32} {W : Nat} {l : List Nat} {t : Nat} (h : ¬ safe ch wt W t) : sfs ch wt W l t = l := by unfold sfs; rw [if_neg h]
noncomputable def safL (ch : Nat → List Int32) (wt : Nat → Int32) (W : Nat) : List Nat := foldW W (sfs ch wt W) [] (W + 1)
theorem safL_S {ch : Nat → List Int32} {wt : Nat → Int32} {W : Nat} (h : W < 4096) : safL ch wt W = foldS W (sfs ch wt W) [] (2 ^ pc W) := (fold_all h _ _).symm
theorem safS_mem {ch : Nat → List Int32} {wt : Nat → Int32} {W : Nat} : ∀ i, (foldS W (sfs ch wt W) [] i).length ≤ i ∧ ∀ t, t ∈ foldS W (sfs ch wt W) [] i → safe ch wt W t := by
  intro i
  induction i with
  | zero => exact ⟨Nat.le_refl _, fun t ht => by simp [foldS] at ht⟩
  | succ i ih =>
    simp only [foldS]
    by_cases h : safe ch wt W (sbs W i)
    · rw [sfs_y h]
      refine ⟨by simp; omega, fun t ht => ?_⟩
      rcases List.mem_append.mp ht with z | z
      · exact ih.2 t z
      · simp at z; rw [z]; exact h
    · rw [sfs_n h]
      exact ⟨by omega, ih.2⟩
theorem safL_mem {ch : Nat → List Int32} {wt : Nat → Int32} {W : Nat} (h : W < 4096) : (safL ch wt W).length ≤ 4096 ∧ ∀ t, t ∈ safL ch wt W → safe ch wt W t := by
  rw [safL_S h]
  obtain ⟨a, b⟩ := safS_mem (ch := ch) (wt := wt) (W := W) (2 ^ pc W)
  have := p2_lt (pc_le h)
  exact ⟨by omega, b⟩
/-- which chords are mixed -/
def Minv (ch : Nat → List Int32) (wt : Nat → Int32) (P : Nat → Prop) (ld : List Int32 → Option Nat) (mx : List Int32 → Prop) : Prop := ∀ c, mx c ↔ ∃ l s, ld c = some l ∧ P s ∧ ch s = c ∧ ¬ wt l = wt s
theorem Minv_step {ch : Nat → List Int32} {wt : Nat → Int32} {P P2 : Nat → Prop} {ld : List Int32 → Option Nat} {mx : List Int32 → Prop} {t : Nat} (h : Minv ch wt P ld mx) (hl : Linv ch P ld) (h2 : ∀ s, P2 s ↔ P s ∨ s = t) : Minv ch wt P2 (lup ld (ch t) t) (fun x => mx x ∨ (x = ch t ∧ ¬ wt ((ld x).getD t) = wt t)) := by
  intro c
  constructor
  · rintro (z | ⟨rfl, z⟩)
    · obtain ⟨l, s, e1, e2, e3, e4⟩ := (h c).mp z
      refine ⟨l, s, ?_, (h2 s).mpr (Or.inl e2), e3, e4⟩
      unfold lup
      by_cases q : c = ch t
      · rw [if_pos q, ← q, e1]; rfl
      · rw [if_neg q]; exact e1
    · refine ⟨(ld (ch t)).getD t, t, ?_, (h2 t).mpr (Or.inr rfl), rfl, z⟩
      unfold lup
      rw [if_pos rfl]
  · rintro ⟨l, s, e1, e2, e3, e4⟩
    unfold lup at e1
    by_cases q : c = ch t
    · rw [if_pos q] at e1
      have e1 : (ld (ch t)).getD t = l := Option.some.inj e1
      rcases (h2 s).mp e2 with y | y
      · cases e : ld (ch t) with
        | none => exact absurd (e3.trans q) (hl.2 _ e s y)
        | some l0 =>
          rw [e] at e1
          simp at e1
          left
          exact (h c).mpr ⟨l, s, by rw [q, e, e1], y, e3, e4⟩
      · right
        refine ⟨q, ?_⟩
        rw [q, e1, ← y]
        exact e4
    · rw [if_neg q] at e1
      rcases (h2 s).mp e2 with y | y
      · exact Or.inl ((h c).mpr ⟨l, s, e1, y, e3, e4⟩)
      · exact absurd (by rw [← e3, y]) q
theorem Minv_safe {ch : Nat → List Int32} {wt : Nat → Int32} {W : Nat} {P : Nat → Prop} {ld : List Int32 → Option Nat} {mx : List Int32 → Prop} (hP : ∀ s, P s ↔ sub s W) (h : Minv ch wt P ld mx) (hl : Linv ch P ld) {t : Nat} (ht : sub t W) : mx (ch t) ↔ ¬ safe ch wt W t := by
  rw [h (ch t)]
  constructor
  · rintro ⟨l, s, e1, e2, e3, e4⟩ hs
    obtain ⟨l1, l2, -⟩ := hl.1 _ _ e1
    exact e4 ((hs.2 l ((hP l).mp l1) l2).trans (hs.2 s ((hP s).mp e2) e3).symm)
  · intro hn
    cases e : ld (ch t) with
    | none => exact absurd rfl (hl.2 _ e t ((hP t).mpr ht))
    | some l =>
      obtain ⟨l1, l2, -⟩ := hl.1 _ _ e
      by_cases z : wt l = wt t
      · have : ∃ s, sub s W ∧ ch s = ch t ∧ ¬ wt s = wt t := Classical.byContradiction (fun y => hn ⟨ht, fun s h1 h2 => Classical.byContradiction (fun h3 => y ⟨s, h1, h2, h3⟩)⟩)
        obtain ⟨s, s1, s2, s3⟩ := this
        exact ⟨l, s, rfl, (hP s).mpr s1, s2, fun q => s3 (q.symm.trans z)⟩
      · exact ⟨l, t, rfl, (hP t).mpr ht, rfl, z⟩
def PRa (W i t : Nat) : Prop := ∃ j, j < i ∧ t = sbs W j
theorem PRa_s {W i t : Nat} : PRa W (i + 1) t ↔ PRa W i t ∨ t = sbs W i := by
  constructor
  · rintro ⟨j, hj, e⟩
    by_cases z : j = i
    · subst z; exact Or.inr e
    · exact Or.inl ⟨j, by omega, e⟩
  · rintro (⟨j, hj, e⟩ | e)
    · exact ⟨j, by omega, e⟩
    · exact ⟨i, by omega, e⟩
theorem PRa_all {W t : Nat} (h : W < 4096) : PRa W (2 ^ pc W) t ↔ sub t W := by
  constructor
  · rintro ⟨j, hj, e⟩; rw [e]; exact sbs_sub W j
  · intro h1
    obtain ⟨j, hj, e⟩ := sbs_onto h h1
    exact ⟨j, hj, e.symm⟩
theorem PRa_lt {W i t : Nat} (h : W < 4096) (hi : i < 2 ^ pc W) (hp : PRa W i t) : t < sbs W i := by
  obtain ⟨j, hj, e⟩ := hp
  rw [e]
  exact sbs_lt h hj hi
theorem PRa_sub {W i t : Nat} (hp : PRa W i t) : sub t W := by
  obtain ⟨j, hj, e⟩ := hp
  rw [e]; exact sbs_sub W j
/-- what collecting leaves as it was -/
def sf_fr (cell : Nat) (h g : mm_H) : Prop := frm (fun c => rg 142 144 c || c == 135 || c == cell) h g ∧ ∀ j, j ≠ 11 → g.1 135 j = h.1 135 j
set_option maxRecDepth 100000 in
set_option maxHeartbeats 4000000 in
theorem mX9_collectSafe (d : Nat) (h : mm_H) (A : MD) (hA : mdOK A) (Q : LD) (r : Nat) (hr : r < 6) (k : Nat) (hW : aimed A Q r k h) (G : Nat) (hG : gcn h G) (hGb : G + 1 < 2 ^ 31) (W : Nat) (hWn : W < 2 ^ mn A) (hlr : ∀ t, sub t W → ¬ h.1 136 t = 0) (cell : Nat) (hcell : cell = 156 ∨ cell = 157) (hsh : mm_sh cell = (1, 4096)) : ∃ g, mm_M (d + 2) YX9_collectSafe [.ref 155, .int (nI W), .ref cell] h (some (.int (nI (safL (chd A Q k) (wtA A) W).length))) g ∧ aimed A Q r k g ∧ gcn g (G + 1) ∧ sf_fr cell h g ∧ rrep (g.1 cell) (safL (chd A Q k) (wtA A) W) := by
  suffices hE : mm_E (d + 2) YX9_collectSafe 0 [some (.ref 155), some (.int (nI W)), some (.ref cell), none, none, none, none] [] h (fun v g => v = some (.int (nI (safL (chd A Q k) (wtA A) W).length)) ∧ aimed A Q r k g ∧ gcn g (G + 1) ∧ sf_fr cell h g ∧ rrep (g.1 cell) (safL (chd A Q k) (wtA A) W)) by
    obtain ⟨v, g, hR, rfl, h1⟩ := hE
    exact ⟨g, mm_M.of _ rfl rfl (Nat.le_of_ble_eq_true rfl) hR, h1⟩
  have h12 := hA.1
  have hp := p2_lt h12
  have hW4 : W < 4096 := by omega
  have hpW := pc_le hW4
  have hp2 := p2_lt hpW
  have M1 := mX0_beginGroups (d + 1) h G hG.1
  obtain ⟨b1, b2⟩ := begun hr hW hG hGb
  obtain ⟨g2, eg2⟩ : ∃ g2 : mm_H, g2 = (mm_up h.1 135 11 (nI (G + 1)), h.2.1, h.2.2) := ⟨_, rfl⟩
  rw [← eg2] at M1 b1 b2
  have n2 : ∀ c, c ≠ 135 → g2.1 c = h.1 c := fun c hc => by rw [eg2]; dsimp only; rw [mm_up_n hc]
  have slt : ∀ t, sub t W → t < 2 ^ mn A := fun t ht => by have := sub_le ht; omega
  have l2 : ∀ t, sub t W → ¬ g2.1 136 t = 0 := fun t ht => by rw [n2 136 (by decide)]; exact hlr t ht
  have w2n : sbs W (2 ^ pc W) = 0 := by unfold sbs; rw [if_neg (Nat.lt_irrefl _)]
  have K55 : ∀ g ld mx, grp_fr g2 g → gst A Q k g (G + 1) ld mx → (∀ t, sub t W → (mx (chd A Q k t) ↔ ¬ safe (chd A Q k) (wtA A) W t)) → ∀ m i, i + m = 2 ^ pc W → ∀ g5, frm (onep cell) g g5 → rrep (g5.1 cell) (foldS W (sfs (chd A Q k) (wtA A) W) [] i) → mm_E (d + 2) YX9_collectSafe 55 [some (.ref 155), some (.int (nI W)), some (.ref cell), some (.int (nI (2 ^ pc W))), some (.int (nI (sbs W i))), some (.int (nI (foldS W (sfs (chd A Q k) (wtA A) W) [] i).length)), some (.int (nI i))] [] g5 (fun v g => v = some (.int (nI (safL (chd A Q k) (wtA A) W).length)) ∧ aimed A Q r k g ∧ gcn g (G + 1) ∧ sf_fr cell h g ∧ rrep (g.1 cell) (safL (chd A Q k) (wtA A) W)) := by
    intro g ld mx fg hs hmx m
    have cne : ∀ c, ¬ (156 ≤ c ∧ c ≤ 157) → c ≠ cell := fun c hc z => by omega
    have e5 : ∀ g5, frm (onep cell) g g5 → ∀ c, c ≠ cell → g5.1 c = g.1 c := fun g5 f5 c hc => f5.i (by simp [onep, hc])
    have ag := fg.aimed hr b1
    have ag5 : ∀ g5, frm (onep cell) g g5 → aimed A Q r k g5 := fun g5 f5 => by
      obtain ⟨hV, hC, hR, hK, hI, mm, Wf, hcv⟩ := ag
      have on : ∀ c, ¬ (156 ≤ c ∧ c ≤ 157) → onep cell c = false := fun c hc => by simp [onep]; exact cne c hc
      exact ⟨viewC_f hV f5 (fun c hc => on c (by omega)), lawC_f hC f5 (fun c h1 h2 => on c (by omega)), by rw [f5.2]; exact hR, by rw [f5.i (on 145 (by decide))]; exact hK, kinv_c hI (f5.i (on 146 (by decide))) (f5.i (on 147 (by decide))), mm, Wf, cinv_f hcv (by rw [f5.i (on 135 (by decide))]) (f5.i (on 136 (by decide))) (f5.i (on 138 (by decide))) (f5.i (on 139 (by decide))) (f5.i (on 140 (by decide))) (f5.i (on 141 (by decide))) (fun b _ => Or.inr (by rw [f5.i (on 137 (by decide))]))⟩
    have gs5 : ∀ g5, frm (onep cell) g g5 → gst A Q k g5 (G + 1) ld mx := fun g5 f5 => by
      unfold gst
      rw [e5 g5 f5 135 (cne 135 (by decide)), e5 g5 f5 136 (cne 136 (by decide)), e5 g5 f5 142 (cne 142 (by decide)), e5 g5 f5 143 (cne 143 (by decide)), e5 g5 f5 144 (cne 144 (by decide))]
      exact hs
    induction m with
    | zero =>
      intro i hi g5 f5 hrr
      have hi : i = 2 ^ pc W := by omega
      subst hi
      rw [← safL_S hW4] at hrr ⊢
      have hpost : aimed A Q r k g5 ∧ gcn g5 (G + 1) ∧ sf_fr cell h g5 ∧ rrep (g5.1 cell) (safL (chd A Q k) (wtA A) W) := by
        refine ⟨ag5 g5 f5, (gs5 g5 f5).cn, ⟨?_, fun j hj => ?_⟩, hrr⟩
        · have f2 : frm (fun c => rg 142 144 c || c == 135 || c == cell) h g2 := by rw [eg2]; exact (frm.refl _ h).up (by simp)
          refine (f2.trans (fg.mono (fun c hc => ?_))).trans (f5.mono (fun c hc => ?_))
          · simp only [Bool.or_eq_false_iff] at hc; exact hc.1.1
          · simp only [Bool.or_eq_false_iff] at hc; exact hc.2
        · rw [e5 g5 f5 135 (cne 135 (by decide)), fg.i rfl, eg2]; dsimp only; rw [mm_up_k hj]
      refine mm_Es (fun _ _ => mm_iload dX9_collectSafe_55 rfl) ?_
      refine mm_Es (fun _ _ => mm_iload_n dX9_collectSafe_57 rfl rfl) ?_
      refine mm_Eb (fun _ _ => mm_icmp_ge 96 dX9_collectSafe_58 (by decide)) (fun c_58 => ?_) (fun c_58 => ?_)
      · refine mm_Es (fun _ _ => mm_iload dX9_collectSafe_96 rfl) ?_
        refine mm_Er (mm_ireturn dX9_collectSafe_98 rfl) ?_
        exact ⟨rfl, hpost⟩
      · exact absurd (Int32.le_refl _) c_58
    | succ m ih =>
      intro i hi g5 f5 hrr
      have hin : i < 2 ^ pc W := by omega
      have hsW := sbs_le (i := i) hW4
      have nx := nxt_sbs hW4 hin
      have hst := sbs_sub W i
      obtain ⟨x, M2, hx⟩ := mX0_isMixed (d + 1) g5 A hA Q r hr k (ag5 g5 f5) (G + 1) ld mx (gs5 g5 f5) (sbs W i) (slt _ hst) (by rw [e5 g5 f5 136 (cne 136 (by decide)), fg.i rfl]; exact l2 _ hst)
      have hlen := (safS_mem (ch := chd A Q k) (wt := wtA A) (W := W) i).1
      have hS : foldS W (sfs (chd A Q k) (wtA A) W) [] (i + 1) = (sfs (chd A Q k) (wtA A) W) (foldS W (sfs (chd A Q k) (wtA A) W) [] i) (sbs W i) := rfl
      rcases hx with ⟨rfl, hx⟩ | ⟨rfl, hx⟩
      · have hns := (hmx _ hst).mp hx
        rw [sfs_n hns] at hS
        have K := ih (i + 1) (by omega) g5 f5 (by rw [hS]; exact hrr)
        rw [hS] at K
        refine mm_Es (fun _ _ => mm_iload dX9_collectSafe_55 rfl) ?_
        refine mm_Es (fun _ _ => mm_iload_n dX9_collectSafe_57 rfl rfl) ?_
        refine mm_Eb (fun _ _ => mm_icmp_ge 96 dX9_collectSafe_58 (by decide)) (fun c_58 => ?_) (fun c_58 => ?_)
        · exact absurd c_58 (nI_ge hin (by omega))
        · refine mm_Es (fun _ _ => mm_aload_n dX9_collectSafe_61 rfl rfl) ?_
          refine mm_Es (fun _ _ => mm_getS dX9_collectSafe_62 fX9_26 sh_155 rfl gr_155_1) ?_
          refine mm_Es (fun _ _ => mm_iload dX9_collectSafe_65 rfl) ?_
          refine mm_Es (fun _ _ => mm_cV (Y1 := YX0_isMixed) dX9_collectSafe_67 lX9_72 vX0_isMixed (M2) sh_135 rfl rfl (by simp [Value.category])) ?_
          refine mm_Ebn (fun _ _ => mm_if_ne 82 dX9_collectSafe_70 (by decide)) (fun c_70 => ?_) (fun c_70 => ?_)
          · refine mm_Es (fun _ _ => mm_iload dX9_collectSafe_82 rfl) ?_
            refine mm_Es (fun _ _ => mm_iload_n dX9_collectSafe_84 rfl rfl) ?_
            refine mm_Es (fun _ _ => mm_cSN (Y1 := YX10_nextWithin) dX9_collectSafe_85 (List.Mem.tail _ (List.Mem.tail _ (List.Mem.head _))) sX10_nextWithin (mX10_nextWithin (d + 1) g5 (nI (sbs W i)) (nI W)) rfl rfl (by simp [Value.category])) ?_
            refine mm_Es (fun _ _ => mm_istore dX9_collectSafe_88 (by decide) rfl) ?_
            refine mm_Es (fun _ _ => mm_iinc dX9_collectSafe_90 rfl (nI_inc i) rfl) ?_
            refine mm_Es (fun _ _ => mm_goto 55 dX9_collectSafe_93 (by decide)) ?_
            exact mm_Ec (by rw [nx]; rfl) rfl rfl K
          · exact absurd c_70 (by decide)
      · have hsf : safe (chd A Q k) (wtA A) W (sbs W i) := Classical.byContradiction (fun z => hx ((hmx _ hst).mpr z))
        rw [sfs_y hsf] at hS
        have K := ih (i + 1) (by omega) (mm_up g5.1 cell (foldS W (sfs (chd A Q k) (wtA A) W) [] i).length (nI (sbs W i)), g5.2.1, g5.2.2) (f5.up (by simp [onep])) (by
          rw [hS]
          intro j hj
          dsimp only
          rw [mm_up_s]
          unfold upd
          rw [List.length_append, List.length_singleton] at hj
          by_cases z : j = (foldS W (sfs (chd A Q k) (wtA A) W) [] i).length
          · rw [if_pos z, z, List.getD_eq_getElem?_getD, List.getElem?_append_right (Nat.le_refl _), Nat.sub_self]; rfl
          · rw [if_neg z, hrr j (by omega), List.getD_eq_getElem?_getD, List.getD_eq_getElem?_getD, List.getElem?_append_left (by omega)])
        rw [hS, List.length_append, List.length_singleton] at K
        refine mm_Es (fun _ _ => mm_iload dX9_collectSafe_55 rfl) ?_
        refine mm_Es (fun _ _ => mm_iload_n dX9_collectSafe_57 rfl rfl) ?_
        refine mm_Eb (fun _ _ => mm_icmp_ge 96 dX9_collectSafe_58 (by decide)) (fun c_58 => ?_) (fun c_58 => ?_)
        · exact absurd c_58 (nI_ge hin (by omega))
        · refine mm_Es (fun _ _ => mm_aload_n dX9_collectSafe_61 rfl rfl) ?_
          refine mm_Es (fun _ _ => mm_getS dX9_collectSafe_62 fX9_26 sh_155 rfl gr_155_1) ?_
          refine mm_Es (fun _ _ => mm_iload dX9_collectSafe_65 rfl) ?_
          refine mm_Es (fun _ _ => mm_cV (Y1 := YX0_isMixed) dX9_collectSafe_67 lX9_72 vX0_isMixed (M2) sh_135 rfl rfl (by simp [Value.category])) ?_
          refine mm_Ebn (fun _ _ => mm_if_ne 82 dX9_collectSafe_70 (by decide)) (fun c_70 => ?_) (fun c_70 => ?_)
          · exact absurd rfl c_70
          · refine mm_Es (fun _ _ => mm_aload_n dX9_collectSafe_73 rfl rfl) ?_
            refine mm_Es (fun _ _ => mm_iload dX9_collectSafe_74 rfl) ?_
            refine mm_Es (fun _ _ => mm_iload dX9_collectSafe_76 rfl) ?_
            refine mm_Es (fun _ _ => mm_iast ((foldS W (sfs (chd A Q k) (wtA A) W) [] i).length) dX9_collectSafe_78 hsh rfl (by omega)) ?_
            refine mm_Es (fun _ _ => mm_iinc dX9_collectSafe_79 rfl (nI_inc ((foldS W (sfs (chd A Q k) (wtA A) W) [] i).length)) rfl) ?_
            refine mm_Es (fun _ _ => mm_iload dX9_collectSafe_82 rfl) ?_
            refine mm_Es (fun _ _ => mm_iload_n dX9_collectSafe_84 rfl rfl) ?_
            refine mm_Es (fun _ _ => mm_cSN (Y1 := YX10_nextWithin) dX9_collectSafe_85 (List.Mem.tail _ (List.Mem.tail _ (List.Mem.head _))) sX10_nextWithin (mX10_nextWithin (d + 1) _ (nI (sbs W i)) (nI W)) rfl rfl (by simp [Value.category])) ?_
            refine mm_Es (fun _ _ => mm_istore dX9_collectSafe_88 (by decide) rfl) ?_
            refine mm_Es (fun _ _ => mm_iinc dX9_collectSafe_90 rfl (nI_inc i) rfl) ?_
            refine mm_Es (fun _ _ => mm_goto 55 dX9_collectSafe_93 (by decide)) ?_
            exact mm_Ec (by rw [nx]; rfl) rfl rfl K
  have K20 : ∀ m i, i + m = 2 ^ pc W → ∀ g ld mx, grp_fr g2 g → gst A Q k g (G + 1) ld mx → Linv (chd A Q k) (PRa W i) ld → Minv (chd A Q k) (wtA A) (PRa W i) ld mx → mm_E (d + 2) YX9_collectSafe 20 [some (.ref 155), some (.int (nI W)), some (.ref cell), some (.int (nI (2 ^ pc W))), some (.int (nI (sbs W i))), some (.int (nI i)), none] [] g (fun v g => v = some (.int (nI (safL (chd A Q k) (wtA A) W).length)) ∧ aimed A Q r k g ∧ gcn g (G + 1) ∧ sf_fr cell h g ∧ rrep (g.1 cell) (safL (chd A Q k) (wtA A) W)) := by
    intro m
    induction m with
    | zero =>
      intro i hi g ld mx fg hs hl hm
      have hi : i = 2 ^ pc W := by omega
      subst hi
      have K := K55 g ld mx fg hs (fun t ht => Minv_safe (fun s => PRa_all hW4) hm hl ht) (2 ^ pc W) 0 (by omega) g (frm.refl _ _) (fun j hj => by simp [foldS] at hj)
      rw [sbs_0] at K
      rw [w2n]
      refine mm_Es (fun _ _ => mm_iload dX9_collectSafe_20 rfl) ?_
      refine mm_Es (fun _ _ => mm_iload_n dX9_collectSafe_22 rfl rfl) ?_
      refine mm_Eb (fun _ _ => mm_icmp_ge 49 dX9_collectSafe_23 (by decide)) (fun c_23 => ?_) (fun c_23 => ?_)
      · refine mm_Es (fun _ _ => mm_iconst (x := 0) dX9_collectSafe_49 (by decide)) ?_
        refine mm_Es (fun _ _ => mm_istore dX9_collectSafe_50 (by decide) rfl) ?_
        refine mm_Es (fun _ _ => mm_iconst (x := 0) dX9_collectSafe_52 (by decide)) ?_
        refine mm_Es (fun _ _ => mm_istore dX9_collectSafe_53 (by decide) rfl) ?_
        exact K
      · exact absurd (Int32.le_refl _) c_23
    | succ m ih =>
      intro i hi g ld mx fg hs hl hm
      have hin : i < 2 ^ pc W := by omega
      have hsW := sbs_le (i := i) hW4
      have nx := nxt_sbs hW4 hin
      have hst := sbs_sub W i
      have e136 : g.1 136 = g2.1 136 := fg.i rfl
      obtain ⟨g3, M2, fr3, hs3⟩ := mX0_putInGroup d g A hA Q r hr k (fg.aimed hr b1) (G + 1) hGb ld mx hs (fun c l e => by
        have q := PRa_sub (hl.1 c l e).1
        exact ⟨slt _ q, by rw [e136]; exact l2 _ q⟩) (sbs W i) (slt _ hst) (by rw [e136]; exact l2 _ hst)
      have K := ih (i + 1) (by omega) g3 _ _ (fg.trans fr3) hs3 (Linv_step hl (fun s hs => PRa_lt hW4 hin hs) (fun s => PRa_s (t := s))) (Minv_step hm hl (fun s => PRa_s (t := s)))
      refine mm_Es (fun _ _ => mm_iload dX9_collectSafe_20 rfl) ?_
      refine mm_Es (fun _ _ => mm_iload_n dX9_collectSafe_22 rfl rfl) ?_
      refine mm_Eb (fun _ _ => mm_icmp_ge 49 dX9_collectSafe_23 (by decide)) (fun c_23 => ?_) (fun c_23 => ?_)
      · exact absurd c_23 (nI_ge hin (by omega))
      · refine mm_Es (fun _ _ => mm_aload_n dX9_collectSafe_26 rfl rfl) ?_
        refine mm_Es (fun _ _ => mm_getS dX9_collectSafe_27 fX9_26 sh_155 rfl gr_155_1) ?_
        refine mm_Es (fun _ _ => mm_iload dX9_collectSafe_30 rfl) ?_
        refine mm_Es (fun _ _ => mm_cV (Y1 := YX0_putInGroup) dX9_collectSafe_32 lX9_64 vX0_putInGroup (M2) sh_135 rfl rfl (by simp [Value.category])) ?_
        refine mm_Es (fun _ _ => mm_iload dX9_collectSafe_35 rfl) ?_
        refine mm_Es (fun _ _ => mm_iload_n dX9_collectSafe_37 rfl rfl) ?_
        refine mm_Es (fun _ _ => mm_cSN (Y1 := YX10_nextWithin) dX9_collectSafe_38 (List.Mem.tail _ (List.Mem.tail _ (List.Mem.head _))) sX10_nextWithin (mX10_nextWithin (d + 1) g3 (nI (sbs W i)) (nI W)) rfl rfl (by simp [Value.category])) ?_
        refine mm_Es (fun _ _ => mm_istore dX9_collectSafe_41 (by decide) rfl) ?_
        refine mm_Es (fun _ _ => mm_iinc dX9_collectSafe_43 rfl (nI_inc i) rfl) ?_
        refine mm_Es (fun _ _ => mm_goto 20 dX9_collectSafe_46 (by decide)) ?_
        exact mm_Ec (by rw [nx]; rfl) rfl rfl K
  have K := K20 (2 ^ pc W) 0 (by omega) g2 (fun _ => none) (fun _ => False) (frm.refl _ _) b2 (Linv_0 (fun s z => by obtain ⟨j, hj, -⟩ := z; omega)) (fun c => ⟨fun z => absurd z id, fun z => by obtain ⟨l, s, e, -⟩ := z; simp at e⟩)
  rw [sbs_0] at K
  refine mm_Es (fun _ _ => mm_iconst (x := 1) dX9_collectSafe_0 (by decide)) ?_
  refine mm_Es (fun _ _ => mm_iload_n dX9_collectSafe_1 rfl rfl) ?_
  refine mm_Es (fun _ _ => mm_cS (Y1 := YJ6_bitCount_0f7a4) dX9_collectSafe_2 lX9_34 sJ6_bitCount_0f7a4 (mJ6_bitCount_0f7a4 (d + 1) h W hW4) rfl rfl (by simp [Value.category])) ?_
  refine mm_Es (fun _ _ => mm_ishl dX9_collectSafe_5) ?_
  refine mm_Es (fun _ _ => mm_istore_n dX9_collectSafe_6 rfl (by decide) rfl) ?_
  refine mm_Es (fun _ _ => mm_aload_n dX9_collectSafe_7 rfl rfl) ?_
  refine mm_Es (fun _ _ => mm_getS dX9_collectSafe_8 fX9_26 sh_155 rfl gr_155_1) ?_
  refine mm_Es (fun _ _ => mm_cV (Y1 := YX0_beginGroups) dX9_collectSafe_11 lX9_61 vX0_beginGroups (M1) sh_135 rfl rfl (by simp [Value.category])) ?_
  refine mm_Es (fun _ _ => mm_iconst (x := 0) dX9_collectSafe_14 (by decide)) ?_
  refine mm_Es (fun _ _ => mm_istore dX9_collectSafe_15 (by decide) rfl) ?_
  refine mm_Es (fun _ _ => mm_iconst (x := 0) dX9_collectSafe_17 (by decide)) ?_
  refine mm_Es (fun _ _ => mm_istore dX9_collectSafe_18 (by decide) rfl) ?_
  exact mm_Ec (by rw [sh1 hpW]; rfl) rfl rfl K
/-- safe or not, as the reference keeps it -/
def sfI (ch : Nat → List Int32) (wt : Nat → Int32) (W t : Nat) (x : Int32) : Prop := (x = 1 ∧ safe ch wt W t) ∨ (x = 0 ∧ ¬ safe ch wt W t)
theorem keptc {ch : List Int32} {h g : mm_H} {t : Nat} (hk : kept ch h t) (f : frm (onep 205) h g) : kept ch g t := ⟨by rw [f.i rfl]; exact hk.1, by rw [f.i rfl]; exact hk.2.1, by rw [f.l rfl]; exact hk.2.2⟩
set_option maxRecDepth 100000 in
set_option maxHeartbeats 4000000 in
theorem mX11_findsSafe (d : Nat) (h : mm_H) (A : MD) (hA : mdOK A) (hV : viewM h A) (ch : Nat → List Int32) (hch : ∀ t, t < 4096 → (ch t).length ≤ 12) (W : Nat) (hW : W < 4096) (hkp : ∀ t, sub t W → kept (ch t) h t) : ∃ g, mm_M (d + 2) YX11_findsSafe [.ref 165, .int (nI W)] h none g ∧ frm (onep 205) h g ∧ (∀ t, sub t W → sfI ch (wtA A) W t (g.1 205 t)) ∧ ∀ t, ¬ sub t W → g.1 205 t = h.1 205 t := by
  refine mm_EM.v (mm_EM.of [some (.ref 165), some (.int (nI W)), none, none, none] rfl rfl (Nat.le_of_ble_eq_true rfl) ?_)
  have h12 := hA.1
  have K2 : ∀ m a, a + m = W + 1 → ∀ g, frm (onep 205) h g → (∀ t, t < a → sub t W → sfI ch (wtA A) W t (g.1 205 t)) → (∀ t, ¬ sub t W → g.1 205 t = h.1 205 t) → mm_E (d + 2) YX11_findsSafe 2 [some (.ref 165), some (.int (nI W)), some (.int (nI a)), none, none] [] g (fun v g => v = none ∧ frm (onep 205) h g ∧ (∀ t, sub t W → sfI ch (wtA A) W t (g.1 205 t)) ∧ ∀ t, ¬ sub t W → g.1 205 t = h.1 205 t) := by
    intro m
    induction m with
    | zero =>
      intro a ha g fg a1 a2
      have ha : a = W + 1 := by omega
      subst ha
      refine mm_Es (fun _ _ => mm_iload_n dX11_findsSafe_2 rfl rfl) ?_
      refine mm_Es (fun _ _ => mm_iload_n dX11_findsSafe_3 rfl rfl) ?_
      refine mm_Eb (fun _ _ => mm_icmp_gt 88 dX11_findsSafe_4 (by decide)) (fun c_4 => ?_) (fun c_4 => ?_)
      · refine mm_Er (mm_return dX11_findsSafe_88 rfl) ?_
        exact ⟨rfl, fg, fun t ht => a1 t (by have := sub_le ht; omega) ht, a2⟩
      · exact absurd (nI_lt (show W < W + 1 by omega) (by omega)) c_4
    | succ m ih =>
      intro a ha g fg a1 a2
      have haW : a ≤ W := by omega
      have B4 : ¬ nI W < nI a := nI_nlt haW (by omega)
      have hVg := viewM_f hV fg (fun c hc => by simp [onep]; omega)
      have wth : ∀ t, mm_M (d + 1) YX11_worthOf [.ref 165, .int (nI t)] g (some (.int (wtA A t))) g := fun t => by
        have M3 := mX11_worthOf d g (mn A) hVg.1 h12 (nI t)
        rw [sp_wth_c (mn A) (fun c hc => (hVg.2.2.2.2.1 c hc).2.2.1)] at M3
        exact M3
      by_cases hs : sub a W
      · have K75 : ∀ x, sfI ch (wtA A) W a x → ∀ x4, mm_E (d + 2) YX11_findsSafe 75 [some (.ref 165), some (.int (nI W)), some (.int (nI a)), some (.int x), x4] [] g (fun v g => v = none ∧ frm (onep 205) h g ∧ (∀ t, sub t W → sfI ch (wtA A) W t (g.1 205 t)) ∧ ∀ t, ¬ sub t W → g.1 205 t = h.1 205 t) := by
          intro x hx x4
          have hnar : vp_nar .boolean x = x := by rcases hx with ⟨rfl, -⟩ | ⟨rfl, -⟩ <;> rfl
          have K := ih (a + 1) (by omega) (mm_up g.1 205 a x, g.2.1, g.2.2) (fg.up rfl) (fun t ht hst => by
            dsimp only
            rw [mm_up_s]
            unfold upd
            by_cases z : t = a
            · subst z; rw [if_pos rfl]; exact hx
            · rw [if_neg z]; exact a1 t (by omega) hst) (fun t ht => by
            dsimp only
            rw [mm_up_k (fun z => ht (by rw [z]; exact hs))]
            exact a2 t ht)
          refine mm_Es (fun _ _ => mm_aload_n dX11_findsSafe_75 rfl rfl) ?_
          refine mm_Es (fun _ _ => mm_getS dX11_findsSafe_76 fX11_134 sh_165 rfl gr_165_53) ?_
          refine mm_Es (fun _ _ => mm_iload_n dX11_findsSafe_79 rfl rfl) ?_
          refine mm_Es (fun _ _ => mm_iload_n dX11_findsSafe_80 rfl rfl) ?_
          refine mm_Es (fun _ _ => mm_zast (a) dX11_findsSafe_81 sh_205 rfl (by omega) hnar) ?_
          refine mm_Es (fun _ _ => mm_iinc dX11_findsSafe_82 rfl (nI_inc a) rfl) ?_
          refine mm_Es (fun _ _ => mm_goto 2 dX11_findsSafe_85 (by decide)) ?_
          refine mm_El ?_ K
          exact ⟨rfl, rfl, rfl, trivial⟩
        have K0 : ∀ b : Int32, ¬ safe ch (wtA A) W a → mm_E (d + 2) YX11_findsSafe 20 [some (.ref 165), some (.int (nI W)), some (.int (nI a)), some (.int 0), some (.int b)] [] g (fun v g => v = none ∧ frm (onep 205) h g ∧ (∀ t, sub t W → sfI ch (wtA A) W t (g.1 205 t)) ∧ ∀ t, ¬ sub t W → g.1 205 t = h.1 205 t) := by
          intro b hns
          have K := K75 0 (Or.inr ⟨rfl, hns⟩)
          refine mm_Es (fun _ _ => mm_iload dX11_findsSafe_20 rfl) ?_
          refine mm_Es (fun _ _ => mm_iload_n dX11_findsSafe_22 rfl rfl) ?_
          refine mm_Eb (fun _ _ => mm_icmp_gt 75 dX11_findsSafe_23 (by decide)) (fun c_23 => ?_) (fun c_23 => ?_)
          · exact K _
          · refine mm_Es (fun _ _ => mm_iload_n dX11_findsSafe_26 rfl rfl) ?_
            refine mm_Eb (fun _ _ => mm_if_eq 75 dX11_findsSafe_27 (by decide)) (fun c_27 => ?_) (fun c_27 => ?_)
            · exact K _
            · exact absurd c_27 (by decide)
        have K20 : ∀ m b, b + m = W + 1 → (∀ s, s < b → sub s W → ch s = ch a → wtA A s = wtA A a) → mm_E (d + 2) YX11_findsSafe 20 [some (.ref 165), some (.int (nI W)), some (.int (nI a)), some (.int 1), some (.int (nI b))] [] g (fun v g => v = none ∧ frm (onep 205) h g ∧ (∀ t, sub t W → sfI ch (wtA A) W t (g.1 205 t)) ∧ ∀ t, ¬ sub t W → g.1 205 t = h.1 205 t) := by
          intro m
          induction m with
          | zero =>
            intro b hb hno
            have hb : b = W + 1 := by omega
            subst hb
            have K := K75 1 (Or.inl ⟨rfl, hs, fun s h1 h2 => hno s (by have := sub_le h1; omega) h1 h2⟩)
            refine mm_Es (fun _ _ => mm_iload dX11_findsSafe_20 rfl) ?_
            refine mm_Es (fun _ _ => mm_iload_n dX11_findsSafe_22 rfl rfl) ?_
            refine mm_Eb (fun _ _ => mm_icmp_gt 75 dX11_findsSafe_23 (by decide)) (fun c_23 => ?_) (fun c_23 => ?_)
            · exact K _
            · exact absurd (nI_lt (show W < W + 1 by omega) (by omega)) c_23
          | succ m ihm =>
            intro b hb hno
            have hbW : b ≤ W := by omega
            have B23 : ¬ nI W < nI b := nI_nlt hbW (by omega)
            have K : (sub b W → ch b = ch a → wtA A b = wtA A a) → _ := fun hx => ihm (b + 1) (by omega) (fun s h1 h2 h3 => by
              by_cases z : s = b
              · subst z; exact hx h2 h3
              · exact hno s (by omega) h2 h3)
            refine mm_Es (fun _ _ => mm_iload dX11_findsSafe_20 rfl) ?_
            refine mm_Es (fun _ _ => mm_iload_n dX11_findsSafe_22 rfl rfl) ?_
            refine mm_Eb (fun _ _ => mm_icmp_gt 75 dX11_findsSafe_23 (by decide)) (fun c_23 => ?_) (fun c_23 => ?_)
            · exact absurd c_23 B23
            · refine mm_Es (fun _ _ => mm_iload_n dX11_findsSafe_26 rfl rfl) ?_
              refine mm_Eb (fun _ _ => mm_if_eq 75 dX11_findsSafe_27 (by decide)) (fun c_27 => ?_) (fun c_27 => ?_)
              · exact absurd c_27 (by decide)
              · refine mm_Es (fun _ _ => mm_iload dX11_findsSafe_30 rfl) ?_
                refine mm_Es (fun _ _ => mm_iload_n dX11_findsSafe_32 rfl rfl) ?_
                refine mm_Es (fun _ _ => mm_iconst (x := (-1)) dX11_findsSafe_33 (by decide)) ?_
                refine mm_Es (fun _ _ => mm_ixor dX11_findsSafe_34) ?_
                refine mm_Es (fun _ _ => mm_iand dX11_findsSafe_35) ?_
                refine mm_Ebn (fun _ _ => mm_if_ne 63 dX11_findsSafe_36 (by decide)) (fun c_36 => ?_) (fun c_36 => ?_)
                · have K := K (fun z => absurd ((sub_I (show b < 4096 by omega) hW).mpr z) c_36)
                  refine mm_Es (fun _ _ => mm_iconst (x := 1) dX11_findsSafe_63 (by decide)) ?_
                  refine mm_Es (fun _ _ => mm_goto 68 dX11_findsSafe_64 (by decide)) ?_
                  refine mm_Es (fun _ _ => mm_istore_n dX11_findsSafe_68 rfl (by decide) rfl) ?_
                  refine mm_Es (fun _ _ => mm_iinc dX11_findsSafe_69 rfl (nI_inc b) rfl) ?_
                  refine mm_Es (fun _ _ => mm_goto 20 dX11_findsSafe_72 (by decide)) ?_
                  first | exact K | exact K _
                · have hsb := (sub_I (show b < 4096 by omega) hW).mp c_36
                  have M1 := mX11_areAlike (d + 1) g (ch a) (ch b) a b (by omega) (by omega) (keptc (hkp a hs) fg) (keptc (hkp b hsb) fg) (hch a (by omega)) (hch b (by omega))
                  refine mm_Es (fun _ _ => mm_aload_n dX11_findsSafe_39 rfl rfl) ?_
                  refine mm_Es (fun _ _ => mm_iload_n dX11_findsSafe_40 rfl rfl) ?_
                  refine mm_Es (fun _ _ => mm_iload dX11_findsSafe_41 rfl) ?_
                  refine mm_Es (fun _ _ => mm_cV (Y1 := YX11_areAlike) dX11_findsSafe_43 lX11_438 vX11_areAlike (M1) sh_165 rfl rfl (by simp [Value.category])) ?_
                  refine mm_Eb (fun _ _ => mm_if_eq 63 dX11_findsSafe_46 (by decide)) (fun c_46 => ?_) (fun c_46 => ?_)
                  · have K := K (fun _ z => absurd z.symm (bI_e0.mp c_46))
                    refine mm_Es (fun _ _ => mm_iconst (x := 1) dX11_findsSafe_63 (by decide)) ?_
                    refine mm_Es (fun _ _ => mm_goto 68 dX11_findsSafe_64 (by decide)) ?_
                    refine mm_Es (fun _ _ => mm_istore_n dX11_findsSafe_68 rfl (by decide) rfl) ?_
                    refine mm_Es (fun _ _ => mm_iinc dX11_findsSafe_69 rfl (nI_inc b) rfl) ?_
                    refine mm_Es (fun _ _ => mm_goto 20 dX11_findsSafe_72 (by decide)) ?_
                    first | exact K | exact K _
                  · refine mm_Es (fun _ _ => mm_aload_n dX11_findsSafe_49 rfl rfl) ?_
                    refine mm_Es (fun _ _ => mm_iload_n dX11_findsSafe_50 rfl rfl) ?_
                    refine mm_Es (fun _ _ => mm_cV (Y1 := YX11_worthOf) dX11_findsSafe_51 lX11_446 vX11_worthOf (wth a) sh_165 rfl rfl (by simp [Value.category])) ?_
                    refine mm_Es (fun _ _ => mm_aload_n dX11_findsSafe_54 rfl rfl) ?_
                    refine mm_Es (fun _ _ => mm_iload dX11_findsSafe_55 rfl) ?_
                    refine mm_Es (fun _ _ => mm_cV (Y1 := YX11_worthOf) dX11_findsSafe_57 lX11_446 vX11_worthOf (wth b) sh_165 rfl rfl (by simp [Value.category])) ?_
                    refine mm_Ebn (fun _ _ => mm_icmp_ne 67 dX11_findsSafe_60 (by decide)) (fun c_60 => ?_) (fun c_60 => ?_)
                    · have K := fun b0 => K0 b0 (fun z => c_60 (z.2 b hsb (bI_n0.mp c_46).symm).symm)
                      refine mm_Es (fun _ _ => mm_iconst (x := 0) dX11_findsSafe_67 (by decide)) ?_
                      refine mm_Es (fun _ _ => mm_istore_n dX11_findsSafe_68 rfl (by decide) rfl) ?_
                      refine mm_Es (fun _ _ => mm_iinc dX11_findsSafe_69 rfl (nI_inc b) rfl) ?_
                      refine mm_Es (fun _ _ => mm_goto 20 dX11_findsSafe_72 (by decide)) ?_
                      first | exact K | exact K _
                    · have K := K (fun _ _ => c_60.symm)
                      refine mm_Es (fun _ _ => mm_iconst (x := 1) dX11_findsSafe_63 (by decide)) ?_
                      refine mm_Es (fun _ _ => mm_goto 68 dX11_findsSafe_64 (by decide)) ?_
                      refine mm_Es (fun _ _ => mm_istore_n dX11_findsSafe_68 rfl (by decide) rfl) ?_
                      refine mm_Es (fun _ _ => mm_iinc dX11_findsSafe_69 rfl (nI_inc b) rfl) ?_
                      refine mm_Es (fun _ _ => mm_goto 20 dX11_findsSafe_72 (by decide)) ?_
                      first | exact K | exact K _
        have K := K20 (W + 1) 0 (by omega) (fun s h => by omega)
        refine mm_Es (fun _ _ => mm_iload_n dX11_findsSafe_2 rfl rfl) ?_
        refine mm_Es (fun _ _ => mm_iload_n dX11_findsSafe_3 rfl rfl) ?_
        refine mm_Eb (fun _ _ => mm_icmp_gt 88 dX11_findsSafe_4 (by decide)) (fun c_4 => ?_) (fun c_4 => ?_)
        · exact absurd c_4 B4
        · refine mm_Es (fun _ _ => mm_iload_n dX11_findsSafe_7 rfl rfl) ?_
          refine mm_Es (fun _ _ => mm_iload_n dX11_findsSafe_8 rfl rfl) ?_
          refine mm_Es (fun _ _ => mm_iconst (x := (-1)) dX11_findsSafe_9 (by decide)) ?_
          refine mm_Es (fun _ _ => mm_ixor dX11_findsSafe_10) ?_
          refine mm_Es (fun _ _ => mm_iand dX11_findsSafe_11) ?_
          refine mm_Ebn (fun _ _ => mm_if_ne 82 dX11_findsSafe_12 (by decide)) (fun c_12 => ?_) (fun c_12 => ?_)
          · exact absurd ((sub_I (show a < 4096 by omega) hW).mpr hs) c_12
          · refine mm_Es (fun _ _ => mm_iconst (x := 1) dX11_findsSafe_15 (by decide)) ?_
            refine mm_Es (fun _ _ => mm_istore_n dX11_findsSafe_16 rfl (by decide) rfl) ?_
            refine mm_Es (fun _ _ => mm_iconst (x := 0) dX11_findsSafe_17 (by decide)) ?_
            refine mm_Es (fun _ _ => mm_istore dX11_findsSafe_18 (by decide) rfl) ?_
            exact K
      · have K := ih (a + 1) (by omega) g fg (fun t ht hst => by
          by_cases z : t = a
          · subst z; exact absurd hst hs
          · exact a1 t (by omega) hst) a2
        refine mm_Es (fun _ _ => mm_iload_n dX11_findsSafe_2 rfl rfl) ?_
        refine mm_Es (fun _ _ => mm_iload_n dX11_findsSafe_3 rfl rfl) ?_
        refine mm_Eb (fun _ _ => mm_icmp_gt 88 dX11_findsSafe_4 (by decide)) (fun c_4 => ?_) (fun c_4 => ?_)
        · exact absurd c_4 B4
        · refine mm_Es (fun _ _ => mm_iload_n dX11_findsSafe_7 rfl rfl) ?_
          refine mm_Es (fun _ _ => mm_iload_n dX11_findsSafe_8 rfl rfl) ?_
          refine mm_Es (fun _ _ => mm_iconst (x := (-1)) dX11_findsSafe_9 (by decide)) ?_
          refine mm_Es (fun _ _ => mm_ixor dX11_findsSafe_10) ?_
          refine mm_Es (fun _ _ => mm_iand dX11_findsSafe_11) ?_
          refine mm_Ebn (fun _ _ => mm_if_ne 82 dX11_findsSafe_12 (by decide)) (fun c_12 => ?_) (fun c_12 => ?_)
          · refine mm_Es (fun _ _ => mm_iinc dX11_findsSafe_82 rfl (nI_inc a) rfl) ?_
            refine mm_Es (fun _ _ => mm_goto 2 dX11_findsSafe_85 (by decide)) ?_
            exact K
          · exact absurd ((sub_I (show a < 4096 by omega) hW).mp c_12) hs
  have K := K2 (W + 1) 0 (by omega) h (frm.refl _ _) (fun t ht => by omega) (fun _ _ => rfl)
  refine mm_Es (fun _ _ => mm_iconst (x := 0) dX11_findsSafe_0 (by decide)) ?_
  refine mm_Es (fun _ _ => mm_istore_n dX11_findsSafe_1 rfl (by decide) rfl) ?_
  exact K
