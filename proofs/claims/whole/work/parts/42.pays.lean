/-! Payments: findPayment. -/
/-- how few coins, who pays with which, and gets back which -/
abbrev PY : Type := Nat × Nat × Nat
def pyS (wt : Nat → Int32) (price : Int32) (a : Nat) (s : PY) (b : Nat) : PY := if pc a + pc b < s.1 ∧ wt a - wt b = price then (pc a + pc b, a, b) else s
def py0 : PY := (13, 0, 0)
def pyF (wt : Nat → Int32) (price : Int32) (La Lb : List Nat) : PY := La.foldl (fun s a => Lb.foldl (pyS wt price a) s) py0
theorem pyS_le (wt : Nat → Int32) (price : Int32) (a : Nat) (s : PY) (b : Nat) : (pyS wt price a s b).1 ≤ s.1 := by
  unfold pyS
  split
  · dsimp only; omega
  · exact Nat.le_refl _
theorem foldl_s {α : Type} {fs : α → Nat → α} {z : α} {l : List Nat} {i : Nat} (h : i < l.length) : (l.take (i + 1)).foldl fs z = fs ((l.take i).foldl fs z) (l.getD i 0) := by
  rw [take_s h, List.foldl_append]
  rfl
theorem foldl_pyS_le (wt : Nat → Int32) (price : Int32) (a : Nat) : ∀ (l : List Nat) (s : PY), (l.foldl (pyS wt price a) s).1 ≤ s.1 := by
  intro l
  induction l with
  | nil => intro s; exact Nat.le_refl _
  | cons x l ih => intro s; exact Nat.le_trans (ih _) (pyS_le _ _ _ _ _)
theorem safL_all {ch : Nat → List Int32} {wt : Nat → Int32} {W : Nat} {t : Nat} (ht : safe ch wt W t) : t ∈ safL ch wt W := by
  unfold safL
  have key : ∀ N, t < N → t ∈ foldW W (sfs ch wt W) [] N := by
    intro N
    induction N with
    | zero => intro h; omega
    | succ N ih =>
      intro h
      simp only [foldW]
      by_cases e : t = N
      · subst e
        rw [if_pos ht.1, sfs_y ht]
        simp
      · have := ih (by omega)
        split
        · by_cases q : safe ch wt W N
          · rw [sfs_y q]; exact List.mem_append.mpr (Or.inl this)
          · rw [sfs_n q]; exact this
        · exact this
  exact key (W + 1) (by have := sub_le ht.1; omega)
/-- what a run of the till leaves as it was -/
def tl_fr (h g : mm_H) : Prop := frm (rg 135 158) h g ∧ ∀ j, j ≠ 6 → j ≠ 11 → g.1 135 j = h.1 135 j
theorem tl_fr.refl (h : mm_H) : tl_fr h h := ⟨frm.refl _ _, fun _ _ _ => rfl⟩
theorem tl_fr.trans {h g k : mm_H} (a : tl_fr h g) (b : tl_fr g k) : tl_fr h k := ⟨a.1.trans b.1, fun j h1 h2 => (b.2 j h1 h2).trans (a.2 j h1 h2)⟩
theorem lrn_fr.tl {h g : mm_H} (a : lrn_fr h g) : tl_fr h g := ⟨a.1.mono (fun c hc => by
  simp only [rg, decide_eq_false_iff_not] at hc
  simp only [pC, Bool.or_eq_false_iff]
  exact ⟨rg_f (by omega), rg_f (by omega)⟩), fun j h1 _ => a.2 j h1⟩
theorem sf_fr.tl {cell : Nat} {h g : mm_H} (a : sf_fr cell h g) (hc : cell = 156 ∨ cell = 157) : tl_fr h g := ⟨a.1.mono (fun c hc2 => by
  simp only [rg, decide_eq_false_iff_not] at hc2
  simp only [Bool.or_eq_false_iff, beq_eq_false_iff_ne]
  exact ⟨⟨rg_f (by omega), by omega⟩, by omega⟩), fun j _ h2 => a.2 j h2⟩
theorem tl_fr.cfr {h g : mm_H} (a : tl_fr h g) : cfr h g := a.1.cfr (fun c hc => by simp only [rg, decide_eq_false_iff_not] at hc ⊢; omega)
theorem tl_fr.at {A : MD} {LQ : Nat → LD} {r k : Nat} {h g : mm_H} (a : tl_fr h g) (hA : aimedAt A LQ r k h) (hg : aimed A (LQ r) r k g) : aimedAt A LQ r k g := ⟨hg, by rw [a.1.2]; exact hA.2.1, by rw [a.2 3 (by decide) (by decide)]; exact hA.2.2⟩
theorem aimed_o {A : MD} {Q : LD} {r k : Nat} {h g : mm_H} {p : Nat → Bool} (hr : r < 6) (hW : aimed A Q r k h) (fr : frm p h g) (hp : ∀ c, c ≤ 154 → p c = false) : aimed A Q r k g := by
  obtain ⟨hV, hC, hR, hK, hI, m, W, hcv⟩ := hW
  exact ⟨viewC_f hV fr (fun c hc => hp c (by omega)), lawC_f hC fr (fun c h1 h2 => hp c (by omega)), by rw [fr.2]; exact hR, by rw [fr.i (hp 145 (by decide))]; exact hK, kinv_c hI (fr.i (hp 146 (by decide))) (fr.i (hp 147 (by decide))), m, W, cinv_f hcv (by rw [fr.i (hp 135 (by decide))]) (fr.i (hp 136 (by decide))) (fr.i (hp 138 (by decide))) (fr.i (hp 139 (by decide))) (fr.i (hp 140 (by decide))) (fr.i (hp 141 (by decide))) (fun b _ => Or.inr (by rw [fr.i (hp 137 (by decide))]))⟩
/-- the safe sets of both, collected -/
theorem collected (d : Nat) (h : mm_H) (A : MD) (hA : mdOK A) (Q : LD) (r : Nat) (hr : r < 6) (hQ : lawOK Q) (k : Nat) (hk : k < mk A) (hW : aimed A Q r k h) (G : Nat) (hG : gcn h G) (hGb : G + 2 < 2 ^ 31) (one other : Int32) : ∃ g1 g2 g3 g4, (mm_M (d + 5) YX0_learnWithin [.ref 135, .int (nI (hN (mr A 4) one (mn A))), .int 12] h none g1 ∧ mm_M (d + 5) YX0_learnWithin [.ref 135, .int (nI (hN (mr A 4) other (mn A))), .int 12] g1 none g2 ∧ mm_M (d + 5) YX9_collectSafe [.ref 155, .int (nI (hN (mr A 4) one (mn A))), .ref 156] g2 (some (.int (nI (safL (chd A Q k) (wtA A) (hN (mr A 4) one (mn A))).length))) g3 ∧ mm_M (d + 5) YX9_collectSafe [.ref 155, .int (nI (hN (mr A 4) other (mn A))), .ref 157] g3 (some (.int (nI (safL (chd A Q k) (wtA A) (hN (mr A 4) other (mn A))).length))) g4) ∧ (∀ gg, gg = h ∨ gg = g1 ∨ gg = g2 ∨ gg = g3 → ∀ p, mm_M (d + 5) YX5_heldBy [.ref 65, .int p] gg (some (.int (nI (hN (mr A 4) p (mn A))))) gg) ∧ aimed A Q r k g4 ∧ gcn g4 (G + 2) ∧ tl_fr h g4 ∧ rrep (g4.1 156) (safL (chd A Q k) (wtA A) (hN (mr A 4) one (mn A))) ∧ rrep (g4.1 157) (safL (chd A Q k) (wtA A) (hN (mr A 4) other (mn A))) ∧ (∀ t, sub t (hN (mr A 4) one (mn A)) → ¬ g4.1 136 t = 0) ∧ ∀ t, sub t (hN (mr A 4) other (mn A)) → ¬ g4.1 136 t = 0 := by
  have h12 := hA.1
  have hp := p2_lt h12
  have ho := hN_lt (mr A 4) one (mn A)
  have ht := hN_lt (mr A 4) other (mn A)
  obtain ⟨g1, M1, a1, a2, a3, a4⟩ := mX0_learnWithin d h A hA Q r hr hQ k hk hW (hN (mr A 4) one (mn A)) ho 12 (by decide)
  obtain ⟨g2, M2, b1, b2, b3, b4⟩ := mX0_learnWithin d g1 A hA Q r hr hQ k hk a1 (hN (mr A 4) other (mn A)) ht 12 (by decide)
  have lo : ∀ t, sub t (hN (mr A 4) one (mn A)) → ¬ g2.1 136 t = 0 := fun t hs => b3 t (by have := sub_le hs; omega) (a4 t hs (pc_le (by have := sub_le hs; omega)))
  have lt : ∀ t, sub t (hN (mr A 4) other (mn A)) → ¬ g2.1 136 t = 0 := fun t hs => b4 t hs (pc_le (by have := sub_le hs; omega))
  obtain ⟨g3, M3, c1, c2, c3, c4⟩ := mX9_collectSafe (d + 3) g2 A hA Q r hr k b1 G (b2.gcn (a2.gcn hG)) (by omega) (hN (mr A 4) one (mn A)) ho lo 156 (Or.inl rfl) sh_156
  have e136 : g3.1 136 = g2.1 136 := c3.1.i rfl
  obtain ⟨g4, M4, d1, d2, d3, d4⟩ := mX9_collectSafe (d + 3) g3 A hA Q r hr k c1 (G + 1) c2 (by omega) (hN (mr A 4) other (mn A)) ht (fun t hs => by rw [e136]; exact lt t hs) 157 (Or.inr rfl) sh_157
  have f136 : g4.1 136 = g3.1 136 := d3.1.i rfl
  refine ⟨g1, g2, g3, g4, ⟨M1, M2, M3, M4⟩, fun gg hgg p => ?_, d1, d2, ((a2.tl.trans b2.tl).trans (c3.tl (Or.inl rfl))).trans (d3.tl (Or.inr rfl)), ?_, d4, fun t hs => by rw [f136, e136]; exact lo t hs, fun t hs => by rw [f136, e136]; exact lt t hs⟩
  · have hv : viewC gg A := by
      rcases hgg with rfl | rfl | rfl | rfl
      · exact hW.1
      · exact a1.1
      · exact b1.1
      · exact c1.1
    have M := mX5_heldBy (d + 5) gg 65 mint65 (mn A) hv.1 h12 p
    rw [sp_held_N _ _ _ h12, hN_c (mn A) (fun c hc => (hv.2.2.2.2.1 c hc).2.2.2.2.1)] at M
    exact M
  · have : g4.1 156 = g3.1 156 := d3.1.i rfl
    rw [this]
    exact c4
theorem saf_lt {A : MD} {Q : LD} {k n : Nat} {W : Nat} (hW : W < 4096) {i : Nat} (hi : i < (safL (chd A Q k) (wtA A) W).length) : sub ((safL (chd A Q k) (wtA A) W).getD i 0) W ∧ (safL (chd A Q k) (wtA A) W).getD i 0 < 4096 := by
  have := ((safL_mem hW).2 _ (getD_mem hi)).1
  exact ⟨this, by have := sub_le this; omega⟩
set_option maxRecDepth 100000 in
set_option maxHeartbeats 4000000 in
theorem mX9_findPayment (d : Nat) (h : mm_H) (A : MD) (hA : mdOK A) (Q : LD) (r : Nat) (hr : r < 6) (hQ : lawOK Q) (k : Nat) (hk : k < mk A) (hW : aimed A Q r k h) (G : Nat) (hG : gcn h G) (hGb : G + 2 < 2 ^ 31) (one other price : Int32) (hne : ¬ one = other) : ∃ g, mm_M (d + 6) YX9_findPayment [.ref 155, .int one, .int other, .int price] h (some (.int (bI ((pyF (wtA A) price (safL (chd A Q k) (wtA A) (hN (mr A 4) one (mn A))) (safL (chd A Q k) (wtA A) (hN (mr A 4) other (mn A)))).1 ≤ 12)))) g ∧ aimed A Q r k g ∧ gcn g (G + 2) ∧ tl_fr h g ∧ ((pyF (wtA A) price (safL (chd A Q k) (wtA A) (hN (mr A 4) one (mn A))) (safL (chd A Q k) (wtA A) (hN (mr A 4) other (mn A)))).1 ≤ 12 → g.1 155 5 = nI (pyF (wtA A) price (safL (chd A Q k) (wtA A) (hN (mr A 4) one (mn A))) (safL (chd A Q k) (wtA A) (hN (mr A 4) other (mn A)))).2.1 ∧ g.1 155 6 = nI (pyF (wtA A) price (safL (chd A Q k) (wtA A) (hN (mr A 4) one (mn A))) (safL (chd A Q k) (wtA A) (hN (mr A 4) other (mn A)))).2.2) := by
  suffices hE : mm_E (d + 6) YX9_findPayment 0 [some (.ref 155), some (.int one), some (.int other), some (.int price), none, none, none, none, none, none] [] h (fun v g => v = some (.int (bI ((pyF (wtA A) price (safL (chd A Q k) (wtA A) (hN (mr A 4) one (mn A))) (safL (chd A Q k) (wtA A) (hN (mr A 4) other (mn A)))).1 ≤ 12))) ∧ aimed A Q r k g ∧ gcn g (G + 2) ∧ tl_fr h g ∧ ((pyF (wtA A) price (safL (chd A Q k) (wtA A) (hN (mr A 4) one (mn A))) (safL (chd A Q k) (wtA A) (hN (mr A 4) other (mn A)))).1 ≤ 12 → g.1 155 5 = nI (pyF (wtA A) price (safL (chd A Q k) (wtA A) (hN (mr A 4) one (mn A))) (safL (chd A Q k) (wtA A) (hN (mr A 4) other (mn A)))).2.1 ∧ g.1 155 6 = nI (pyF (wtA A) price (safL (chd A Q k) (wtA A) (hN (mr A 4) one (mn A))) (safL (chd A Q k) (wtA A) (hN (mr A 4) other (mn A)))).2.2)) by
    obtain ⟨v, g, hR, rfl, h1⟩ := hE
    exact ⟨g, mm_M.of _ rfl rfl (Nat.le_of_ble_eq_true rfl) hR, h1⟩
  have h12 := hA.1
  have hp := p2_lt h12
  have ho := hN_lt (mr A 4) one (mn A)
  have ht := hN_lt (mr A 4) other (mn A)
  obtain ⟨g1, g2, g3, g, ⟨M1, M2, M3, M4⟩, MH, d1, d2, d3, d4, d5, lo, lt⟩ := collected d h A hA Q r hr hQ k hk hW G hG hGb one other
  obtain ⟨WO, eWo⟩ : ∃ W, W = (hN (mr A 4) one (mn A)) := ⟨_, rfl⟩
  obtain ⟨WT, eWt⟩ : ∃ W, W = (hN (mr A 4) other (mn A)) := ⟨_, rfl⟩
  have hpc : ∀ a b, sub a WO → sub b WT → a < 4096 → b < 4096 → pc a + pc b ≤ 12 := fun a b h1 h2 h3 h4 => by
    rw [eWo] at h1; rw [eWt] at h2; exact held_pc hne h3 h4 h1 h2
  obtain ⟨La, eLa⟩ : ∃ l, l = (safL (chd A Q k) (wtA A) (hN (mr A 4) one (mn A))) := ⟨_, rfl⟩
  obtain ⟨Lb, eLb⟩ : ∃ l, l = (safL (chd A Q k) (wtA A) (hN (mr A 4) other (mn A))) := ⟨_, rfl⟩
  have hla : La.length ≤ 4096 ∧ ∀ i, i < La.length → sub (La.getD i 0) WO ∧ La.getD i 0 < 4096 := by
    rw [eLa, eWo]; exact ⟨(safL_mem (by omega)).1, fun i hi => saf_lt (n := 0) (by omega) hi⟩
  have hlb : Lb.length ≤ 4096 ∧ ∀ i, i < Lb.length → sub (Lb.getD i 0) WT ∧ Lb.getD i 0 < 4096 := by
    rw [eLb, eWt]; exact ⟨(safL_mem (by omega)).1, fun i hi => saf_lt (n := 0) (by omega) hi⟩
  rw [← eLa] at d4
  rw [← eLb] at d5
  rw [← eWo] at lo
  rw [← eWt] at lt
  have hn : ∀ t, sub t WO → t < 2 ^ mn A := fun t hs => by have := sub_le hs; omega
  have hn2 : ∀ t, sub t WT → t < 2 ^ mn A := fun t hs => by have := sub_le hs; omega
  have K77 : ∀ m i, i + m = La.length → ∀ gg, (frm (onep 155) g gg ∧ ((La.take i).foldl (fun s a => Lb.foldl (pyS (wtA A) price a) s) py0).1 ≤ 13 ∧ (((La.take i).foldl (fun s a => Lb.foldl (pyS (wtA A) price a) s) py0).1 ≤ 12 → gg.1 155 5 = nI ((La.take i).foldl (fun s a => Lb.foldl (pyS (wtA A) price a) s) py0).2.1 ∧ gg.1 155 6 = nI ((La.take i).foldl (fun s a => Lb.foldl (pyS (wtA A) price a) s) py0).2.2)) → ∀ x8 x9, mm_E (d + 6) YX9_findPayment 77 [some (.ref 155), some (.int one), some (.int other), some (.int price), some (.int (nI La.length)), some (.int (nI Lb.length)), some (.int (nI ((La.take i).foldl (fun s a => Lb.foldl (pyS (wtA A) price a) s) py0).1)), some (.int (nI i)), x8, x9] [] gg (fun v g => v = some (.int (bI ((pyF (wtA A) price La Lb).1 ≤ 12))) ∧ aimed A Q r k g ∧ gcn g (G + 2) ∧ tl_fr h g ∧ ((pyF (wtA A) price La Lb).1 ≤ 12 → g.1 155 5 = nI (pyF (wtA A) price La Lb).2.1 ∧ g.1 155 6 = nI (pyF (wtA A) price La Lb).2.2)) := by
    intro m
    induction m with
    | zero =>
      intro i hi gg S x8 x9
      have hi : i = La.length := by omega
      subst hi
      rw [List.take_length] at S ⊢
      obtain ⟨fg, s1, s2⟩ := S
      have hF : La.foldl (fun s a => Lb.foldl (pyS (wtA A) price a) s) py0 = pyF (wtA A) price La Lb := rfl
      rw [hF] at s1 s2 ⊢
      have hpost : aimed A Q r k gg ∧ gcn gg (G + 2) ∧ tl_fr h gg := by
        refine ⟨aimed_o hr d1 fg (fun c hc => by simp [onep]; omega), gcn_c d2 (by rw [fg.i rfl]) (fg.i rfl) (fg.i rfl), d3.trans ⟨fg.mono (fun c hc => ?_), fun j _ _ => by rw [fg.i rfl]⟩⟩
        simp only [rg, decide_eq_false_iff_not] at hc
        simp [onep]; omega
      refine mm_Es (fun _ _ => mm_iload dX9_findPayment_77 rfl) ?_
      refine mm_Es (fun _ _ => mm_iload dX9_findPayment_79 rfl) ?_
      refine mm_Eb (fun _ _ => mm_icmp_ge 195 dX9_findPayment_81 (by decide)) (fun c_81 => ?_) (fun c_81 => ?_)
      · refine mm_Es (fun _ _ => mm_iload dX9_findPayment_195 rfl) ?_
        refine mm_Es (fun _ _ => mm_bipush (x := 12) dX9_findPayment_197 (by decide)) ?_
        refine mm_Eb (fun _ _ => mm_icmp_gt 206 dX9_findPayment_199 (by decide)) (fun c_199 => ?_) (fun c_199 => ?_)
        · have hb : ¬ (pyF (wtA A) price La Lb).1 ≤ 12 := fun z => absurd c_199 (nI_nlt (a := 12) z (by decide))
          refine mm_Es (fun _ _ => mm_iconst (x := 0) dX9_findPayment_206 (by decide)) ?_
          refine mm_Er (mm_zreturn dX9_findPayment_207 rfl (by first | rfl | exact bI_nar _)) ?_
          refine ⟨?_, hpost.1, hpost.2.1, hpost.2.2, s2⟩
          first | rw [bI_1 hb] | rw [bI_0 hb]
        · have hb : (pyF (wtA A) price La Lb).1 ≤ 12 := Nat.le_of_not_lt (fun z => c_199 (nI_lt (a := 12) z (by omega)))
          refine mm_Es (fun _ _ => mm_iconst (x := 1) dX9_findPayment_202 (by decide)) ?_
          refine mm_Es (fun _ _ => mm_goto 207 dX9_findPayment_203 (by decide)) ?_
          refine mm_Er (mm_zreturn dX9_findPayment_207 rfl (by first | rfl | exact bI_nar _)) ?_
          refine ⟨?_, hpost.1, hpost.2.1, hpost.2.2, s2⟩
          first | rw [bI_1 hb] | rw [bI_0 hb]
      · exact absurd (Int32.le_refl _) c_81
    | succ m ih =>
      intro i hi gg S x8 x9
      have hin : i < La.length := by omega
      obtain ⟨a, ea⟩ : ∃ a, a = La.getD i 0 := ⟨_, rfl⟩
      obtain ⟨ha1, ha2⟩ := hla.2 i hin
      rw [← ea] at ha1 ha2
      have e156 : g.1 156 i = nI a := by rw [ea]; exact d4 i hin
      have wa := d1.wt (hn a ha1) (lo a ha1)
      have hO := foldl_s (fs := fun s a => Lb.foldl (pyS (wtA A) price a) s) (z := py0) hin
      rw [← ea] at hO
      obtain ⟨s0, es0⟩ : ∃ s, s = ((La.take i).foldl (fun s a => Lb.foldl (pyS (wtA A) price a) s) py0) := ⟨_, rfl⟩
      rw [← es0] at S hO ⊢
      have K87 : ∀ m j, j + m = Lb.length → ∀ gg s, s = (Lb.take j).foldl (pyS (wtA A) price a) s0 → (frm (onep 155) g gg ∧ s.1 ≤ 13 ∧ (s.1 ≤ 12 → gg.1 155 5 = nI s.2.1 ∧ gg.1 155 6 = nI s.2.2)) → ∀ x9, mm_E (d + 6) YX9_findPayment 87 [some (.ref 155), some (.int one), some (.int other), some (.int price), some (.int (nI La.length)), some (.int (nI Lb.length)), some (.int (nI s.1)), some (.int (nI i)), some (.int (nI j)), x9] [] gg (fun v g => v = some (.int (bI ((pyF (wtA A) price La Lb).1 ≤ 12))) ∧ aimed A Q r k g ∧ gcn g (G + 2) ∧ tl_fr h g ∧ ((pyF (wtA A) price La Lb).1 ≤ 12 → g.1 155 5 = nI (pyF (wtA A) price La Lb).2.1 ∧ g.1 155 6 = nI (pyF (wtA A) price La Lb).2.2)) := by
        intro m
        induction m with
        | zero =>
          intro j hj gg s hs S x9
          have hj : j = Lb.length := by omega
          subst hj
          rw [List.take_length] at hs
          have K := ih (i + 1) (by omega) gg (by rw [hO, ← hs]; exact S)
          rw [hO, ← hs] at K
          refine mm_Es (fun _ _ => mm_iload dX9_findPayment_87 rfl) ?_
          refine mm_Es (fun _ _ => mm_iload dX9_findPayment_89 rfl) ?_
          refine mm_Eb (fun _ _ => mm_icmp_ge 189 dX9_findPayment_91 (by decide)) (fun c_91 => ?_) (fun c_91 => ?_)
          · refine mm_Es (fun _ _ => mm_iinc dX9_findPayment_189 rfl (nI_inc i) rfl) ?_
            refine mm_Es (fun _ _ => mm_goto 77 dX9_findPayment_192 (by decide)) ?_
            exact K _ _
          · exact absurd (Int32.le_refl _) c_91
        | succ m ihm =>
          intro j hj gg s hs S x9
          have hjn : j < Lb.length := by omega
          obtain ⟨b, eb⟩ : ∃ b, b = Lb.getD j 0 := ⟨_, rfl⟩
          obtain ⟨hb1, hb2⟩ := hlb.2 j hjn
          rw [← eb] at hb1 hb2
          have e157 : g.1 157 j = nI b := by rw [eb]; exact d5 j hjn
          have wb := d1.wt (hn2 b hb1) (lt b hb1)
          have hI := foldl_s (fs := pyS (wtA A) price a) (z := s0) hjn
          rw [← hs, ← eb] at hI
          obtain ⟨fg, s1, s2⟩ := S
          have eg : ∀ c, c ≠ 155 → gg.1 c = g.1 c := fun c hc => fg.i (by simp [onep, hc])
          have hpab := hpc a b ha1 hb1 ha2 hb2
          by_cases hb : pc a + pc b < s.1 ∧ wtA A a - wtA A b = price
          · have hst : pyS (wtA A) price a s b = (pc a + pc b, a, b) := by unfold pyS; rw [if_pos hb]
            rw [hst] at hI
            have K := ihm (j + 1) (by omega) (mm_up (mm_up gg.1 155 5 (nI a)) 155 6 (nI b), gg.2.1, gg.2.2) _ hI.symm ⟨(fg.up (c := 155) rfl).up (c := 155) rfl, by dsimp only; omega, fun _ => ⟨by dsimp only; rw [mm_up_k (by decide), mm_up_e], by dsimp only; rw [mm_up_e]⟩⟩
            refine mm_Es (fun _ _ => mm_iload dX9_findPayment_87 rfl) ?_
            refine mm_Es (fun _ _ => mm_iload dX9_findPayment_89 rfl) ?_
            refine mm_Eb (fun _ _ => mm_icmp_ge 189 dX9_findPayment_91 (by decide)) (fun c_91 => ?_) (fun c_91 => ?_)
            · exact absurd c_91 (nI_ge hjn (by omega))
            · refine mm_Es (fun _ _ => mm_aload_n dX9_findPayment_94 rfl rfl) ?_
              refine mm_Es (fun _ _ => mm_getS dX9_findPayment_95 fX9_9 sh_155 rfl gr_155_2) ?_
              refine mm_Es (fun _ _ => mm_iload dX9_findPayment_98 rfl) ?_
              refine mm_Es (fun _ _ => mm_iald (i) dX9_findPayment_100 sh_156 rfl (by omega)) ?_
              refine mm_Es (fun _ _ => mm_cast (st' := [.int (nI a)]) rfl (by rw [eg 156 (by decide), e156]) rfl) ?_
              refine mm_Es (fun _ _ => mm_cS (Y1 := YJ6_bitCount_0f7a4) dX9_findPayment_101 lX9_34 sJ6_bitCount_0f7a4 (mJ6_bitCount_0f7a4 (d + 5) gg a ha2) rfl rfl (by simp [Value.category])) ?_
              refine mm_Es (fun _ _ => mm_aload_n dX9_findPayment_104 rfl rfl) ?_
              refine mm_Es (fun _ _ => mm_getS dX9_findPayment_105 fX9_15 sh_155 rfl gr_155_3) ?_
              refine mm_Es (fun _ _ => mm_iload dX9_findPayment_108 rfl) ?_
              refine mm_Es (fun _ _ => mm_iald (j) dX9_findPayment_110 sh_157 rfl (by omega)) ?_
              refine mm_Es (fun _ _ => mm_cast (st' := [.int (nI b), .int (nI (pc a))]) rfl (by rw [eg 157 (by decide), e157]; rfl) rfl) ?_
              refine mm_Es (fun _ _ => mm_cS (Y1 := YJ6_bitCount_0f7a4) dX9_findPayment_111 lX9_34 sJ6_bitCount_0f7a4 (mJ6_bitCount_0f7a4 (d + 5) gg b hb2) rfl rfl (by simp [Value.category])) ?_
              refine mm_Es (fun _ _ => mm_iadd dX9_findPayment_114) ?_
              refine mm_Es (fun _ _ => mm_cast (st' := [.int (nI (pc a + pc b))]) rfl (by rw [nI_add]) rfl) ?_
              refine mm_Es (fun _ _ => mm_istore dX9_findPayment_115 (by decide) rfl) ?_
              refine mm_Es (fun _ _ => mm_iload dX9_findPayment_117 rfl) ?_
              refine mm_Es (fun _ _ => mm_iload dX9_findPayment_119 rfl) ?_
              refine mm_Eb (fun _ _ => mm_icmp_ge 183 dX9_findPayment_121 (by decide)) (fun c_121 => ?_) (fun c_121 => ?_)
              · exact absurd c_121 (nI_ge hb.1 (by omega))
              · refine mm_Es (fun _ _ => mm_aload_n dX9_findPayment_124 rfl rfl) ?_
                refine mm_Es (fun _ _ => mm_getS dX9_findPayment_125 fX9_26 sh_155 rfl gr_155_1) ?_
                refine mm_Es (fun _ _ => mm_aload_n dX9_findPayment_128 rfl rfl) ?_
                refine mm_Es (fun _ _ => mm_getS dX9_findPayment_129 fX9_9 sh_155 rfl gr_155_2) ?_
                refine mm_Es (fun _ _ => mm_iload dX9_findPayment_132 rfl) ?_
                refine mm_Es (fun _ _ => mm_iald (i) dX9_findPayment_134 sh_156 rfl (by omega)) ?_
                refine mm_Es (fun _ _ => mm_cast (st' := [.int (nI a), .ref 135]) rfl (by rw [eg 156 (by decide), e156]) rfl) ?_
                refine mm_Es (fun _ _ => mm_cV (Y1 := YX0_worthOf) dX9_findPayment_135 lX9_58 vX0_worthOf (mX0_worthOf (d + 5) gg a ha2) sh_135 rfl rfl (by simp [Value.category])) ?_
                refine mm_Es (fun _ _ => mm_aload_n dX9_findPayment_138 rfl rfl) ?_
                refine mm_Es (fun _ _ => mm_getS dX9_findPayment_139 fX9_26 sh_155 rfl gr_155_1) ?_
                refine mm_Es (fun _ _ => mm_aload_n dX9_findPayment_142 rfl rfl) ?_
                refine mm_Es (fun _ _ => mm_getS dX9_findPayment_143 fX9_15 sh_155 rfl gr_155_3) ?_
                refine mm_Es (fun _ _ => mm_iload dX9_findPayment_146 rfl) ?_
                refine mm_Es (fun _ _ => mm_iald (j) dX9_findPayment_148 sh_157 rfl (by omega)) ?_
                refine mm_Es (fun _ _ => mm_cast (st' := [.int (nI b), .ref 135, .int (wtA A a)]) rfl (by rw [eg 157 (by decide), e157, eg 137 (by decide), wa]; rfl) rfl) ?_
                refine mm_Es (fun _ _ => mm_cV (Y1 := YX0_worthOf) dX9_findPayment_149 lX9_58 vX0_worthOf (mX0_worthOf (d + 5) gg b hb2) sh_135 rfl rfl (by simp [Value.category])) ?_
                refine mm_Es (fun _ _ => mm_isub dX9_findPayment_152) ?_
                refine mm_Es (fun _ _ => mm_cast (st' := [.int (wtA A a - wtA A b)]) rfl (by rw [eg 137 (by decide), wb]) rfl) ?_
                refine mm_Es (fun _ _ => mm_iload_n dX9_findPayment_153 rfl rfl) ?_
                refine mm_Ebn (fun _ _ => mm_icmp_ne 183 dX9_findPayment_154 (by decide)) (fun c_154 => ?_) (fun c_154 => ?_)
                · exact absurd hb.2 c_154
                · refine mm_Es (fun _ _ => mm_iload dX9_findPayment_157 rfl) ?_
                  refine mm_Es (fun _ _ => mm_istore dX9_findPayment_159 (by decide) rfl) ?_
                  refine mm_Es (fun _ _ => mm_aload_n dX9_findPayment_161 rfl rfl) ?_
                  refine mm_Es (fun _ _ => mm_aload_n dX9_findPayment_162 rfl rfl) ?_
                  refine mm_Es (fun _ _ => mm_getS dX9_findPayment_163 fX9_9 sh_155 rfl gr_155_2) ?_
                  refine mm_Es (fun _ _ => mm_iload dX9_findPayment_166 rfl) ?_
                  refine mm_Es (fun _ _ => mm_iald (i) dX9_findPayment_168 sh_156 rfl (by omega)) ?_
                  refine mm_Es (fun _ _ => mm_cast (st' := [.int (nI a), .ref 155]) rfl (by rw [eg 156 (by decide), e156]) rfl) ?_
                  refine mm_Es (fun _ _ => mm_putI dX9_findPayment_169 fX9_30 sh_155 rfl rfl rfl) ?_
                  refine mm_Es (fun _ _ => mm_aload_n dX9_findPayment_172 rfl rfl) ?_
                  refine mm_Es (fun _ _ => mm_aload_n dX9_findPayment_173 rfl rfl) ?_
                  refine mm_Es (fun _ _ => mm_getS dX9_findPayment_174 fX9_15 sh_155 rfl gr_155_3) ?_
                  refine mm_Es (fun _ _ => mm_iload dX9_findPayment_177 rfl) ?_
                  refine mm_Es (fun _ _ => mm_iald (j) dX9_findPayment_179 sh_157 rfl (by omega)) ?_
                  refine mm_Es (fun _ _ => mm_cast (st' := [.int (nI b), .ref 155]) rfl (by dsimp only; rw [mm_up_n (by decide), eg 157 (by decide), e157]) rfl) ?_
                  refine mm_Es (fun _ _ => mm_putI dX9_findPayment_180 fX9_40 sh_155 rfl rfl rfl) ?_
                  refine mm_Es (fun _ _ => mm_iinc dX9_findPayment_183 rfl (nI_inc j) rfl) ?_
                  refine mm_Es (fun _ _ => mm_goto 87 dX9_findPayment_186 (by decide)) ?_
                  exact K _
          · have hst : pyS (wtA A) price a s b = s := by unfold pyS; rw [if_neg hb]
            rw [hst] at hI
            have K := ihm (j + 1) (by omega) gg _ hI.symm ⟨fg, s1, s2⟩
            refine mm_Es (fun _ _ => mm_iload dX9_findPayment_87 rfl) ?_
            refine mm_Es (fun _ _ => mm_iload dX9_findPayment_89 rfl) ?_
            refine mm_Eb (fun _ _ => mm_icmp_ge 189 dX9_findPayment_91 (by decide)) (fun c_91 => ?_) (fun c_91 => ?_)
            · exact absurd c_91 (nI_ge hjn (by omega))
            · refine mm_Es (fun _ _ => mm_aload_n dX9_findPayment_94 rfl rfl) ?_
              refine mm_Es (fun _ _ => mm_getS dX9_findPayment_95 fX9_9 sh_155 rfl gr_155_2) ?_
              refine mm_Es (fun _ _ => mm_iload dX9_findPayment_98 rfl) ?_
              refine mm_Es (fun _ _ => mm_iald (i) dX9_findPayment_100 sh_156 rfl (by omega)) ?_
              refine mm_Es (fun _ _ => mm_cast (st' := [.int (nI a)]) rfl (by rw [eg 156 (by decide), e156]) rfl) ?_
              refine mm_Es (fun _ _ => mm_cS (Y1 := YJ6_bitCount_0f7a4) dX9_findPayment_101 lX9_34 sJ6_bitCount_0f7a4 (mJ6_bitCount_0f7a4 (d + 5) gg a ha2) rfl rfl (by simp [Value.category])) ?_
              refine mm_Es (fun _ _ => mm_aload_n dX9_findPayment_104 rfl rfl) ?_
              refine mm_Es (fun _ _ => mm_getS dX9_findPayment_105 fX9_15 sh_155 rfl gr_155_3) ?_
              refine mm_Es (fun _ _ => mm_iload dX9_findPayment_108 rfl) ?_
              refine mm_Es (fun _ _ => mm_iald (j) dX9_findPayment_110 sh_157 rfl (by omega)) ?_
              refine mm_Es (fun _ _ => mm_cast (st' := [.int (nI b), .int (nI (pc a))]) rfl (by rw [eg 157 (by decide), e157]; rfl) rfl) ?_
              refine mm_Es (fun _ _ => mm_cS (Y1 := YJ6_bitCount_0f7a4) dX9_findPayment_111 lX9_34 sJ6_bitCount_0f7a4 (mJ6_bitCount_0f7a4 (d + 5) gg b hb2) rfl rfl (by simp [Value.category])) ?_
              refine mm_Es (fun _ _ => mm_iadd dX9_findPayment_114) ?_
              refine mm_Es (fun _ _ => mm_cast (st' := [.int (nI (pc a + pc b))]) rfl (by rw [nI_add]) rfl) ?_
              refine mm_Es (fun _ _ => mm_istore dX9_findPayment_115 (by decide) rfl) ?_
              refine mm_Es (fun _ _ => mm_iload dX9_findPayment_117 rfl) ?_
              refine mm_Es (fun _ _ => mm_iload dX9_findPayment_119 rfl) ?_
              refine mm_Eb (fun _ _ => mm_icmp_ge 183 dX9_findPayment_121 (by decide)) (fun c_121 => ?_) (fun c_121 => ?_)
              · refine mm_Es (fun _ _ => mm_iinc dX9_findPayment_183 rfl (nI_inc j) rfl) ?_
                refine mm_Es (fun _ _ => mm_goto 87 dX9_findPayment_186 (by decide)) ?_
                exact K _
              · refine mm_Es (fun _ _ => mm_aload_n dX9_findPayment_124 rfl rfl) ?_
                refine mm_Es (fun _ _ => mm_getS dX9_findPayment_125 fX9_26 sh_155 rfl gr_155_1) ?_
                refine mm_Es (fun _ _ => mm_aload_n dX9_findPayment_128 rfl rfl) ?_
                refine mm_Es (fun _ _ => mm_getS dX9_findPayment_129 fX9_9 sh_155 rfl gr_155_2) ?_
                refine mm_Es (fun _ _ => mm_iload dX9_findPayment_132 rfl) ?_
                refine mm_Es (fun _ _ => mm_iald (i) dX9_findPayment_134 sh_156 rfl (by omega)) ?_
                refine mm_Es (fun _ _ => mm_cast (st' := [.int (nI a), .ref 135]) rfl (by rw [eg 156 (by decide), e156]) rfl) ?_
                refine mm_Es (fun _ _ => mm_cV (Y1 := YX0_worthOf) dX9_findPayment_135 lX9_58 vX0_worthOf (mX0_worthOf (d + 5) gg a ha2) sh_135 rfl rfl (by simp [Value.category])) ?_
                refine mm_Es (fun _ _ => mm_aload_n dX9_findPayment_138 rfl rfl) ?_
                refine mm_Es (fun _ _ => mm_getS dX9_findPayment_139 fX9_26 sh_155 rfl gr_155_1) ?_
                refine mm_Es (fun _ _ => mm_aload_n dX9_findPayment_142 rfl rfl) ?_
                refine mm_Es (fun _ _ => mm_getS dX9_findPayment_143 fX9_15 sh_155 rfl gr_155_3) ?_
                refine mm_Es (fun _ _ => mm_iload dX9_findPayment_146 rfl) ?_
                refine mm_Es (fun _ _ => mm_iald (j) dX9_findPayment_148 sh_157 rfl (by omega)) ?_
                refine mm_Es (fun _ _ => mm_cast (st' := [.int (nI b), .ref 135, .int (wtA A a)]) rfl (by rw [eg 157 (by decide), e157, eg 137 (by decide), wa]; rfl) rfl) ?_
                refine mm_Es (fun _ _ => mm_cV (Y1 := YX0_worthOf) dX9_findPayment_149 lX9_58 vX0_worthOf (mX0_worthOf (d + 5) gg b hb2) sh_135 rfl rfl (by simp [Value.category])) ?_
                refine mm_Es (fun _ _ => mm_isub dX9_findPayment_152) ?_
                refine mm_Es (fun _ _ => mm_cast (st' := [.int (wtA A a - wtA A b)]) rfl (by rw [eg 137 (by decide), wb]) rfl) ?_
                refine mm_Es (fun _ _ => mm_iload_n dX9_findPayment_153 rfl rfl) ?_
                refine mm_Ebn (fun _ _ => mm_icmp_ne 183 dX9_findPayment_154 (by decide)) (fun c_154 => ?_) (fun c_154 => ?_)
                · refine mm_Es (fun _ _ => mm_iinc dX9_findPayment_183 rfl (nI_inc j) rfl) ?_
                  refine mm_Es (fun _ _ => mm_goto 87 dX9_findPayment_186 (by decide)) ?_
                  exact K _
                · exact absurd ⟨Nat.lt_of_not_le (fun z => c_121 (nI_le z (by omega))), c_154⟩ hb
      have K := K87 Lb.length 0 (by omega) gg s0 rfl S
      refine mm_Es (fun _ _ => mm_iload dX9_findPayment_77 rfl) ?_
      refine mm_Es (fun _ _ => mm_iload dX9_findPayment_79 rfl) ?_
      refine mm_Eb (fun _ _ => mm_icmp_ge 195 dX9_findPayment_81 (by decide)) (fun c_81 => ?_) (fun c_81 => ?_)
      · exact absurd c_81 (nI_ge hin (by omega))
      · refine mm_Es (fun _ _ => mm_iconst (x := 0) dX9_findPayment_84 (by decide)) ?_
        refine mm_Es (fun _ _ => mm_istore dX9_findPayment_85 (by decide) rfl) ?_
        exact K _
  have K := K77 La.length 0 (by omega) g ⟨frm.refl _ _, Nat.le_refl _, fun z => absurd (show (13 : Nat) ≤ 12 from z) (by decide)⟩ none none
  rw [eLa, eLb] at K
  refine mm_Es (fun _ _ => mm_aload_n dX9_findPayment_0 rfl rfl) ?_
  refine mm_Es (fun _ _ => mm_getS dX9_findPayment_1 fX9_26 sh_155 rfl gr_155_1) ?_
  refine mm_Es (fun _ _ => mm_aload_n dX9_findPayment_4 rfl rfl) ?_
  refine mm_Es (fun _ _ => mm_getS dX9_findPayment_5 fX9_22 sh_155 rfl gr_155_0) ?_
  refine mm_Es (fun _ _ => mm_iload_n dX9_findPayment_8 rfl rfl) ?_
  refine mm_Es (fun _ _ => mm_cV (Y1 := YX5_heldBy) dX9_findPayment_9 lX9_43 vX5_heldBy (MH h (Or.inl rfl) one) sh_65 rfl rfl (by simp [Value.category])) ?_
  refine mm_Es (fun _ _ => mm_bipush (x := 12) dX9_findPayment_12 (by decide)) ?_
  refine mm_Es (fun _ _ => mm_cV (Y1 := YX0_learnWithin) dX9_findPayment_14 lX9_48 vX0_learnWithin (M1) sh_135 rfl rfl (by simp [Value.category])) ?_
  refine mm_Es (fun _ _ => mm_aload_n dX9_findPayment_17 rfl rfl) ?_
  refine mm_Es (fun _ _ => mm_getS dX9_findPayment_18 fX9_26 sh_155 rfl gr_155_1) ?_
  refine mm_Es (fun _ _ => mm_aload_n dX9_findPayment_21 rfl rfl) ?_
  refine mm_Es (fun _ _ => mm_getS dX9_findPayment_22 fX9_22 sh_155 rfl gr_155_0) ?_
  refine mm_Es (fun _ _ => mm_iload_n dX9_findPayment_25 rfl rfl) ?_
  refine mm_Es (fun _ _ => mm_cV (Y1 := YX5_heldBy) dX9_findPayment_26 lX9_43 vX5_heldBy (MH g1 (Or.inr (Or.inl rfl)) other) sh_65 rfl rfl (by simp [Value.category])) ?_
  refine mm_Es (fun _ _ => mm_bipush (x := 12) dX9_findPayment_29 (by decide)) ?_
  refine mm_Es (fun _ _ => mm_cV (Y1 := YX0_learnWithin) dX9_findPayment_31 lX9_48 vX0_learnWithin (M2) sh_135 rfl rfl (by simp [Value.category])) ?_
  refine mm_Es (fun _ _ => mm_aload_n dX9_findPayment_34 rfl rfl) ?_
  refine mm_Es (fun _ _ => mm_aload_n dX9_findPayment_35 rfl rfl) ?_
  refine mm_Es (fun _ _ => mm_getS dX9_findPayment_36 fX9_22 sh_155 rfl gr_155_0) ?_
  refine mm_Es (fun _ _ => mm_iload_n dX9_findPayment_39 rfl rfl) ?_
  refine mm_Es (fun _ _ => mm_cV (Y1 := YX5_heldBy) dX9_findPayment_40 lX9_43 vX5_heldBy (MH g2 (Or.inr (Or.inr (Or.inl rfl))) one) sh_65 rfl rfl (by simp [Value.category])) ?_
  refine mm_Es (fun _ _ => mm_aload_n dX9_findPayment_43 rfl rfl) ?_
  refine mm_Es (fun _ _ => mm_getS dX9_findPayment_44 fX9_9 sh_155 rfl gr_155_2) ?_
  refine mm_Es (fun _ _ => mm_cV (Y1 := YX9_collectSafe) dX9_findPayment_47 lX9_54 vX9_collectSafe (M3) sh_155 rfl rfl (by simp [Value.category])) ?_
  refine mm_Es (fun _ _ => mm_istore dX9_findPayment_50 (by decide) rfl) ?_
  refine mm_Es (fun _ _ => mm_aload_n dX9_findPayment_52 rfl rfl) ?_
  refine mm_Es (fun _ _ => mm_aload_n dX9_findPayment_53 rfl rfl) ?_
  refine mm_Es (fun _ _ => mm_getS dX9_findPayment_54 fX9_22 sh_155 rfl gr_155_0) ?_
  refine mm_Es (fun _ _ => mm_iload_n dX9_findPayment_57 rfl rfl) ?_
  refine mm_Es (fun _ _ => mm_cV (Y1 := YX5_heldBy) dX9_findPayment_58 lX9_43 vX5_heldBy (MH g3 (Or.inr (Or.inr (Or.inr rfl))) other) sh_65 rfl rfl (by simp [Value.category])) ?_
  refine mm_Es (fun _ _ => mm_aload_n dX9_findPayment_61 rfl rfl) ?_
  refine mm_Es (fun _ _ => mm_getS dX9_findPayment_62 fX9_15 sh_155 rfl gr_155_3) ?_
  refine mm_Es (fun _ _ => mm_cV (Y1 := YX9_collectSafe) dX9_findPayment_65 lX9_54 vX9_collectSafe (M4) sh_155 rfl rfl (by simp [Value.category])) ?_
  refine mm_Es (fun _ _ => mm_istore dX9_findPayment_68 (by decide) rfl) ?_
  refine mm_Es (fun _ _ => mm_bipush (x := 13) dX9_findPayment_70 (by decide)) ?_
  refine mm_Es (fun _ _ => mm_istore dX9_findPayment_72 (by decide) rfl) ?_
  refine mm_Es (fun _ _ => mm_iconst (x := 0) dX9_findPayment_74 (by decide)) ?_
  refine mm_Es (fun _ _ => mm_istore dX9_findPayment_75 (by decide) rfl) ?_
  exact K
