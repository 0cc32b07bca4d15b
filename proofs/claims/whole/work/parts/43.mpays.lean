/-! Payments: pays of the reference. -/
noncomputable def sst {α : Type} (ch : Nat → List Int32) (wt : Nat → Int32) (W : Nat) (fs : α → Nat → α) (s : α) (t : Nat) : α := by
  classical
  exact if safe ch wt W t then fs s t else s
theorem sst_y {α : Type} {ch : Nat → List Int32} {wt : Nat → Int32} {W : Nat} {fs : α → Nat → α} {s : α} {t : Nat} (h : safe ch wt W t) : sst ch wt W fs s t = fs s t := by unfold sst; rw [if_pos h]
theorem sst_n {α : Type} {ch : Nat → List Int32} {wt : Nat → Int32} {W : Nat} {fs : α → Nat → α} {s : α} {t : Nat} (h : ¬ safe ch wt W t) : sst ch wt W fs s t = s := by unfold sst; rw [if_neg h]
theorem foldl_saf {α : Type} {ch : Nat → List Int32} {wt : Nat → Int32} {W : Nat} (fs : α → Nat → α) (z : α) : ∀ N, (foldW W (sfs ch wt W) [] N).foldl fs z = foldW W (sst ch wt W fs) z N := by
  intro N
  induction N with
  | zero => rfl
  | succ N ih =>
    simp only [foldW]
    split
    · by_cases h : safe ch wt W N
      · rw [sfs_y h, sst_y h, List.foldl_append, ih]; rfl
      · rw [sfs_n h, sst_n h, ih]
    · exact ih
/-- the pairs met so far -/
def prc (ch : Nat → List Int32) (wt : Nat → Int32) (W1 W2 a b a2 b2 : Nat) : Prop := safe ch wt W1 a2 ∧ safe ch wt W2 b2 ∧ (a2 < a ∨ (a2 = a ∧ b2 < b))
/-- a price that can be said -/
def prP (wt : Nat → Int32) (P : Nat → Nat → Prop) (x : Nat) : Prop := ∃ a b, P a b ∧ wt a - wt b = nI x
def flg (wt : Nat → Int32) (P : Nat → Nat → Prop) (f0 f1 : Nat → Int32) : Prop := ∀ x, x < 12000 → (prP wt P x → f1 x = 1) ∧ (¬ prP wt P x → f1 x = f0 x)
theorem flg_c {wt : Nat → Int32} {P P2 : Nat → Nat → Prop} {f0 f1 : Nat → Int32} (h : flg wt P f0 f1) (e : ∀ a b, P2 a b ↔ P a b) : flg wt P2 f0 f1 := by
  have : P2 = P := funext (fun a => funext (fun b => propext (e a b)))
  rw [this]; exact h
theorem flg_in {wt : Nat → Int32} {P P2 : Nat → Nat → Prop} {f0 f1 : Nat → Int32} {a b x : Nat} (h : flg wt P f0 f1) (hx : x < 12000) (hd : wt a - wt b = nI x) (e : ∀ a2 b2, P2 a2 b2 ↔ P a2 b2 ∨ (a2 = a ∧ b2 = b)) : flg wt P2 f0 (upd f1 x 1) := by
  intro y hy
  unfold upd
  by_cases z : y = x
  · rw [if_pos z]
    refine ⟨fun _ => rfl, fun hn => absurd ⟨a, b, (e a b).mpr (Or.inr ⟨rfl, rfl⟩), by rw [z]; exact hd⟩ hn⟩
  · rw [if_neg z]
    refine ⟨fun ⟨a2, b2, h1, h2⟩ => ?_, fun hn => (h y hy).2 (fun ⟨a2, b2, h1, h2⟩ => hn ⟨a2, b2, (e a2 b2).mpr (Or.inl h1), h2⟩)⟩
    rcases (e a2 b2).mp h1 with q | ⟨rfl, rfl⟩
    · exact (h y hy).1 ⟨a2, b2, q, h2⟩
    · rw [hd] at h2
      exact absurd (nI_inj (by omega) (by omega) h2).symm z
theorem flg_out {wt : Nat → Int32} {P P2 : Nat → Nat → Prop} {f0 f1 : Nat → Int32} {a b : Nat} (h : flg wt P f0 f1) (hd : ∀ x, x < 12000 → ¬ wt a - wt b = nI x) (e : ∀ a2 b2, P2 a2 b2 ↔ P a2 b2 ∨ (a2 = a ∧ b2 = b)) : flg wt P2 f0 f1 := by
  intro y hy
  refine ⟨fun ⟨a2, b2, h1, h2⟩ => ?_, fun hn => (h y hy).2 (fun ⟨a2, b2, h1, h2⟩ => hn ⟨a2, b2, (e a2 b2).mpr (Or.inl h1), h2⟩)⟩
  rcases (e a2 b2).mp h1 with q | ⟨rfl, rfl⟩
  · exact (h y hy).1 ⟨a2, b2, q, h2⟩
  · exact absurd h2 (hd y hy)
def o13 (s : PY) : Int32 := if s.1 = 13 then -2 else nI s.1
theorem o13_n {s : PY} (h : ¬ s.1 = 13) : o13 s = nI s.1 := by unfold o13; rw [if_neg h]
theorem o13_e {s : PY} (h : s.1 ≤ 13) : o13 s = -2 ↔ s.1 = 13 := by
  unfold o13
  by_cases z : s.1 = 13
  · rw [if_pos z]; exact ⟨fun _ => z, fun _ => rfl⟩
  · rw [if_neg z]; exact ⟨fun q => absurd q (n2 (by omega)), fun q => absurd q z⟩
theorem foldW_s {α : Type} {W : Nat} {st : α → Nat → α} {z : α} {s : Nat} : foldW W st z (s + 1) = if sub s W then st (foldW W st z s) s else foldW W st z s := rfl
set_option maxRecDepth 100000 in
set_option maxHeartbeats 4000000 in
theorem mX11_pays (d : Nat) (h : mm_H) (A : MD) (hA : mdOK A) (hV : viewM h A) (Q : LD) (r : Nat) (hr : r < 6) (hQ : lawOK Q) (hM : lawM h.1 r Q) (k : Nat) (hk : k < mk A) (one other price : Int32) (hne : ¬ one = other) : ∃ g, mm_M (d + 9) YX11_pays [.ref 165, .int (nI r), .int (nI k), .int one, .int other, .int price] h (some (.int (o13 (pyF (wtA A) price (safL (chd A Q k) (wtA A) (hN (mr A 4) one (mn A))) (safL (chd A Q k) (wtA A) (hN (mr A 4) other (mn A))))))) g ∧ mfr h g ∧ (¬ (pyF (wtA A) price (safL (chd A Q k) (wtA A) (hN (mr A 4) one (mn A))) (safL (chd A Q k) (wtA A) (hN (mr A 4) other (mn A)))).1 = 13 → g.1 165 55 = nI (pyF (wtA A) price (safL (chd A Q k) (wtA A) (hN (mr A 4) one (mn A))) (safL (chd A Q k) (wtA A) (hN (mr A 4) other (mn A)))).2.1 ∧ g.1 165 56 = nI (pyF (wtA A) price (safL (chd A Q k) (wtA A) (hN (mr A 4) one (mn A))) (safL (chd A Q k) (wtA A) (hN (mr A 4) other (mn A)))).2.2) ∧ (pyF (wtA A) price (safL (chd A Q k) (wtA A) (hN (mr A 4) one (mn A))) (safL (chd A Q k) (wtA A) (hN (mr A 4) other (mn A)))).1 ≤ 13 ∧ flg (wtA A) (fun a b => safe (chd A Q k) (wtA A) (hN (mr A 4) one (mn A)) a ∧ safe (chd A Q k) (wtA A) (hN (mr A 4) other (mn A)) b) (h.1 206) (g.1 206) := by
  suffices hE : mm_E (d + 9) YX11_pays 0 [some (.ref 165), some (.int (nI r)), some (.int (nI k)), some (.int one), some (.int other), some (.int price), none, none, none, none, none, none, none, none, none, none] [] h (fun v g => v = some (.int (o13 (pyF (wtA A) price (safL (chd A Q k) (wtA A) (hN (mr A 4) one (mn A))) (safL (chd A Q k) (wtA A) (hN (mr A 4) other (mn A)))))) ∧ mfr h g ∧ (¬ (pyF (wtA A) price (safL (chd A Q k) (wtA A) (hN (mr A 4) one (mn A))) (safL (chd A Q k) (wtA A) (hN (mr A 4) other (mn A)))).1 = 13 → g.1 165 55 = nI (pyF (wtA A) price (safL (chd A Q k) (wtA A) (hN (mr A 4) one (mn A))) (safL (chd A Q k) (wtA A) (hN (mr A 4) other (mn A)))).2.1 ∧ g.1 165 56 = nI (pyF (wtA A) price (safL (chd A Q k) (wtA A) (hN (mr A 4) one (mn A))) (safL (chd A Q k) (wtA A) (hN (mr A 4) other (mn A)))).2.2) ∧ (pyF (wtA A) price (safL (chd A Q k) (wtA A) (hN (mr A 4) one (mn A))) (safL (chd A Q k) (wtA A) (hN (mr A 4) other (mn A)))).1 ≤ 13 ∧ flg (wtA A) (fun a b => safe (chd A Q k) (wtA A) (hN (mr A 4) one (mn A)) a ∧ safe (chd A Q k) (wtA A) (hN (mr A 4) other (mn A)) b) (h.1 206) (g.1 206)) by
    obtain ⟨v, g, hR, rfl, h1⟩ := hE
    exact ⟨g, mm_M.of _ rfl rfl (Nat.le_of_ble_eq_true rfl) hR, h1⟩
  have h12 := hA.1
  have hp := p2_lt h12
  have ho := hN_lt (mr A 4) one (mn A)
  have ht := hN_lt (mr A 4) other (mn A)
  have hch : ∀ t, t < 4096 → (chd A Q k t).length ≤ 12 := fun t ht => Nat.le_trans (chd_pc h12 Q k ht) (pc_le ht)
  have held : ∀ p, mm_M (d + 8) YX11_heldBy [.ref 165, .int p] h (some (.int (nI (hN (mr A 4) p (mn A))))) h := fun p => by
    have M := mX11_heldBy (d + 8) h (mn A) hV.1 h12 p
    rw [sp_held_N _ _ _ h12, hN_c (mn A) (fun c hc => (hV.2.2.2.2.1 c hc).2.2.2.2.1)] at M
    exact M
  obtain ⟨WO, eWo⟩ : ∃ W, W = (hN (mr A 4) one (mn A)) := ⟨_, rfl⟩
  obtain ⟨WT, eWt⟩ : ∃ W, W = (hN (mr A 4) other (mn A)) := ⟨_, rfl⟩
  have held1 := held one
  have held2 := held other
  rw [← eWo] at held1 ho
  rw [← eWt] at held2 ht
  have hWO : WO < 4096 := by omega
  have hWT : WT < 4096 := by omega
  have hpc : ∀ a b, sub a WO → sub b WT → pc a + pc b ≤ 12 := fun a b h1 h2 => by
    have l1 := sub_le h1
    have l2 := sub_le h2
    rw [eWo] at h1; rw [eWt] at h2; exact held_pc hne (by omega) (by omega) h1 h2
  have hdis : ∀ a, ¬ a = 0 → sub a WO → ¬ sub a WT := fun a h0 h1 h2 => by
    rw [eWo] at h1; rw [eWt] at h2
    have := held_disj hne h1 h2
    rw [Nat.and_self] at this
    exact h0 this
  obtain ⟨g1, M1, f1, kp1, -⟩ := mX11_keepsAll d h A hA hV Q r hr hQ hM k hk WO hWO 12 (by decide)
  have hV1 := viewM_f hV f1.1 (fun c hc => pKp_f (by omega) (by omega))
  obtain ⟨g2, M2, f2, s2, n2⟩ := mX11_findsSafe (d + 6) g1 A hA hV1 (chd A Q k) hch WO hWO (fun t ht => kp1 t ht (pc_le (by have := sub_le ht; omega)))
  have f12 : mfr h g2 := f1.mfr.trans ⟨f2.mono (fun c hc => by have := pMs_g hc; simp [onep]; omega), fun j _ => by rw [f2.i rfl]⟩
  have hV2 := viewM_f hV f12.1 (fun c hc => pMs_f (by omega) (by omega))
  have hM2 := lawM_f hM f12.1 (fun c h1 h2 => pMs_f (by omega) (by omega))
  obtain ⟨g3, M3, f3, kp3, -⟩ := mX11_keepsAll d g2 A hA hV2 Q r hr hQ hM2 k hk WT hWT 12 (by decide)
  have hV3 := viewM_f hV2 f3.1 (fun c hc => pKp_f (by omega) (by omega))
  obtain ⟨g, M4, f4, s4, n4⟩ := mX11_findsSafe (d + 6) g3 A hA hV3 (chd A Q k) hch WT hWT (fun t ht => kp3 t ht (pc_le (by have := sub_le ht; omega)))
  have f14 : mfr h g := (f12.trans f3.mfr).trans ⟨f4.mono (fun c hc => by have := pMs_g hc; simp [onep]; omega), fun j _ => by rw [f4.i rfl]⟩
  have hVg := viewM_f hV f14.1 (fun c hc => pMs_f (by omega) (by omega))
  have z205 : g3.1 205 = g2.1 205 := f3.1.i rfl
  have z206 : g.1 206 = h.1 206 := by
    have q4 : g.1 206 = g3.1 206 := f4.i rfl
    have q3 : g3.1 206 = g2.1 206 := f3.1.i rfl
    have q2 : g2.1 206 = g1.1 206 := f2.i rfl
    have q1 : g1.1 206 = h.1 206 := f1.1.i rfl
    rw [q4, q3, q2, q1]
  have s00 : sub 0 WO ∧ sub 0 WT := ⟨by simp [sub], by simp [sub]⟩
  have eA := s2 0 s00.1
  have eB := s4 0 s00.2
  rw [← z205] at eA
  obtain ⟨xA, exA⟩ : ∃ x, x = g3.1 205 0 := ⟨_, rfl⟩
  obtain ⟨xB, exB⟩ : ∃ x, x = g.1 205 0 := ⟨_, rfl⟩
  rw [← exA] at eA
  rw [← exB] at eB
  have SA : ∀ a, ¬ a = 0 → sub a WO → sfI (chd A Q k) (wtA A) WO a (g.1 205 a) := fun a h0 h1 => by
    rw [n4 a (hdis a h0 h1), z205]; exact s2 a h1
  have SB : ∀ b, sub b WT → sfI (chd A Q k) (wtA A) WT b (g.1 205 b) := fun b h1 => s4 b h1
  have sf1 : ∀ W t x, sfI (chd A Q k) (wtA A) W t x → ¬ x = 0 → safe (chd A Q k) (wtA A) W t := fun W t x hs hx => by
    rcases hs with ⟨-, h⟩ | ⟨rfl, -⟩
    · exact h
    · exact absurd rfl hx
  have sf0 : ∀ W t x, sfI (chd A Q k) (wtA A) W t x → x = 0 → ¬ safe (chd A Q k) (wtA A) W t := fun W t x hs hx => by
    rcases hs with ⟨rfl, -⟩ | ⟨-, h⟩
    · exact absurd hx (by decide)
    · exact h
  rw [← eWo, ← eWt]
  have hFin : (foldW WO (sst (chd A Q k) (wtA A) WO (fun s a => foldW WT (sst (chd A Q k) (wtA A) WT (pyS (wtA A) price a)) s (WT + 1))) py0 (WO + 1)) = (pyF (wtA A) price (safL (chd A Q k) (wtA A) WO) (safL (chd A Q k) (wtA A) WT)) := by
    unfold pyF
    have e1 : ∀ s a, (safL (chd A Q k) (wtA A) WT).foldl (pyS (wtA A) price a) s = foldW WT (sst (chd A Q k) (wtA A) WT (pyS (wtA A) price a)) s (WT + 1) := fun s a => foldl_saf _ _ _
    have e2 := foldl_saf (ch := chd A Q k) (wt := wtA A) (W := WO) (fun s a => (safL (chd A Q k) (wtA A) WT).foldl (pyS (wtA A) price a) s) py0 (WO + 1)
    unfold safL at e1 e2 ⊢
    rw [e2]
    simp only [e1]
  have K70 : ∀ m a, a + m = WO + 1 → ∀ gg, (frm (fun c => c == 165 || c == 206) g gg ∧ (∀ j, j < 49 → gg.1 165 j = g.1 165 j) ∧ (foldW WO (sst (chd A Q k) (wtA A) WO (fun s a => foldW WT (sst (chd A Q k) (wtA A) WT (pyS (wtA A) price a)) s (WT + 1))) py0 a).1 ≤ 13 ∧ (¬ (foldW WO (sst (chd A Q k) (wtA A) WO (fun s a => foldW WT (sst (chd A Q k) (wtA A) WT (pyS (wtA A) price a)) s (WT + 1))) py0 a).1 = 13 → gg.1 165 55 = nI (foldW WO (sst (chd A Q k) (wtA A) WO (fun s a => foldW WT (sst (chd A Q k) (wtA A) WT (pyS (wtA A) price a)) s (WT + 1))) py0 a).2.1 ∧ gg.1 165 56 = nI (foldW WO (sst (chd A Q k) (wtA A) WO (fun s a => foldW WT (sst (chd A Q k) (wtA A) WT (pyS (wtA A) price a)) s (WT + 1))) py0 a).2.2) ∧ flg (wtA A) (prc (chd A Q k) (wtA A) WO WT a 0) (h.1 206) (gg.1 206)) → ∀ x12 x13 x14 x15, mm_E (d + 9) YX11_pays 70 [some (.ref 165), some (.int (nI r)), some (.int (nI k)), some (.int one), some (.int other), some (.int price), some (.int (nI WO)), some (.int (nI WT)), some (.int xA), some (.int xB), some (.int (o13 (foldW WO (sst (chd A Q k) (wtA A) WO (fun s a => foldW WT (sst (chd A Q k) (wtA A) WT (pyS (wtA A) price a)) s (WT + 1))) py0 a))), some (.int (nI a)), x12, x13, x14, x15] [] gg (fun v g => v = some (.int (o13 (pyF (wtA A) price (safL (chd A Q k) (wtA A) WO) (safL (chd A Q k) (wtA A) WT)))) ∧ mfr h g ∧ (¬ (pyF (wtA A) price (safL (chd A Q k) (wtA A) WO) (safL (chd A Q k) (wtA A) WT)).1 = 13 → g.1 165 55 = nI (pyF (wtA A) price (safL (chd A Q k) (wtA A) WO) (safL (chd A Q k) (wtA A) WT)).2.1 ∧ g.1 165 56 = nI (pyF (wtA A) price (safL (chd A Q k) (wtA A) WO) (safL (chd A Q k) (wtA A) WT)).2.2) ∧ (pyF (wtA A) price (safL (chd A Q k) (wtA A) WO) (safL (chd A Q k) (wtA A) WT)).1 ≤ 13 ∧ flg (wtA A) (fun a b => safe (chd A Q k) (wtA A) WO a ∧ safe (chd A Q k) (wtA A) WT b) (h.1 206) (g.1 206)) := by
    intro m
    induction m with
    | zero =>
      intro a ha gg S x12 x13 x14 x15
      have ha : a = WO + 1 := by omega
      subst ha
      rw [hFin] at S ⊢
      obtain ⟨fg, s1, s3, s5, s6⟩ := S
      have hpost : mfr h gg ∧ flg (wtA A) (fun a b => safe (chd A Q k) (wtA A) WO a ∧ safe (chd A Q k) (wtA A) WT b) (h.1 206) (gg.1 206) := by
        refine ⟨f14.trans ⟨fg.mono (fun c hc => ?_), s1⟩, flg_c s6 (fun a b => ?_)⟩
        · have := pMs_g hc
          simp only [Bool.or_eq_false_iff, beq_eq_false_iff_ne]; omega
        · unfold prc
          refine ⟨fun z => ⟨z.1, z.2, Or.inl (by have := sub_le z.1.1; omega)⟩, fun z => ⟨z.1, z.2.1⟩⟩
      refine mm_Es (fun _ _ => mm_iload dX11_pays_70 rfl) ?_
      refine mm_Es (fun _ _ => mm_iload dX11_pays_72 rfl) ?_
      refine mm_Eb (fun _ _ => mm_icmp_gt 263 dX11_pays_74 (by decide)) (fun c_74 => ?_) (fun c_74 => ?_)
      · refine mm_Es (fun _ _ => mm_iload dX11_pays_263 rfl) ?_
        refine mm_Er (mm_ireturn dX11_pays_265 rfl) ?_
        exact ⟨rfl, hpost.1, s5, s3, hpost.2⟩
      · exact absurd (nI_lt (show WO < WO + 1 by omega) (by omega)) c_74
    | succ m ih =>
      intro a ha gg S x12 x13 x14 x15
      have haW : a ≤ WO := by omega
      have B74 : ¬ nI WO < nI a := nI_nlt haW (by omega)
      obtain ⟨s0, es0⟩ : ∃ s, s = (foldW WO (sst (chd A Q k) (wtA A) WO (fun s a => foldW WT (sst (chd A Q k) (wtA A) WT (pyS (wtA A) price a)) s (WT + 1))) py0 a) := ⟨_, rfl⟩
      have hO : (foldW WO (sst (chd A Q k) (wtA A) WO (fun s a => foldW WT (sst (chd A Q k) (wtA A) WT (pyS (wtA A) price a)) s (WT + 1))) py0 (a + 1)) = if sub a WO then sst (chd A Q k) (wtA A) WO (fun s a => foldW WT (sst (chd A Q k) (wtA A) WT (pyS (wtA A) price a)) s (WT + 1)) s0 a else s0 := by
        rw [foldW_s, ← es0]
      rw [← es0] at S ⊢
      have KN : ¬ safe (chd A Q k) (wtA A) WO a → ∀ x13, mm_E (d + 9) YX11_pays 120 [some (.ref 165), some (.int (nI r)), some (.int (nI k)), some (.int one), some (.int other), some (.int price), some (.int (nI WO)), some (.int (nI WT)), some (.int xA), some (.int xB), some (.int (o13 s0)), some (.int (nI a)), some (.int 0), some (.int x13), x14, x15] [] gg (fun v g => v = some (.int (o13 (pyF (wtA A) price (safL (chd A Q k) (wtA A) WO) (safL (chd A Q k) (wtA A) WT)))) ∧ mfr h g ∧ (¬ (pyF (wtA A) price (safL (chd A Q k) (wtA A) WO) (safL (chd A Q k) (wtA A) WT)).1 = 13 → g.1 165 55 = nI (pyF (wtA A) price (safL (chd A Q k) (wtA A) WO) (safL (chd A Q k) (wtA A) WT)).2.1 ∧ g.1 165 56 = nI (pyF (wtA A) price (safL (chd A Q k) (wtA A) WO) (safL (chd A Q k) (wtA A) WT)).2.2) ∧ (pyF (wtA A) price (safL (chd A Q k) (wtA A) WO) (safL (chd A Q k) (wtA A) WT)).1 ≤ 13 ∧ flg (wtA A) (fun a b => safe (chd A Q k) (wtA A) WO a ∧ safe (chd A Q k) (wtA A) WT b) (h.1 206) (g.1 206)) := by
        intro hns x13
        have hO2 : (foldW WO (sst (chd A Q k) (wtA A) WO (fun s a => foldW WT (sst (chd A Q k) (wtA A) WT (pyS (wtA A) price a)) s (WT + 1))) py0 (a + 1)) = s0 := by
          rw [hO]
          split
          · exact sst_n hns
          · rfl
        obtain ⟨fg, s1, s3, s5, s6⟩ := S
        have K := ih (a + 1) (by omega) gg (by
          rw [hO2]
          refine ⟨fg, s1, s3, s5, flg_c s6 (fun a2 b2 => ?_)⟩
          unfold prc
          refine ⟨fun z => ⟨z.1, z.2.1, ?_⟩, fun z => ⟨z.1, z.2.1, ?_⟩⟩
          · rcases z.2.2 with y | y
            · left
              have : a2 ≠ a := fun q => hns (by rw [← q]; exact z.1)
              omega
            · omega
          · rcases z.2.2 with y | y
            · left; omega
            · omega)
        rw [hO2] at K
        refine mm_Es (fun _ _ => mm_iload dX11_pays_120 rfl) ?_
        refine mm_Eb (fun _ _ => mm_if_eq 257 dX11_pays_122 (by decide)) (fun c_122 => ?_) (fun c_122 => ?_)
        · refine mm_Es (fun _ _ => mm_iinc dX11_pays_257 rfl (nI_inc a) rfl) ?_
          refine mm_Es (fun _ _ => mm_goto 70 dX11_pays_260 (by decide)) ?_
          exact K _ _ _ _
        · exact absurd c_122 (by decide)
      have KY : safe (chd A Q k) (wtA A) WO a → mm_E (d + 9) YX11_pays 120 [some (.ref 165), some (.int (nI r)), some (.int (nI k)), some (.int one), some (.int other), some (.int price), some (.int (nI WO)), some (.int (nI WT)), some (.int xA), some (.int xB), some (.int (o13 s0)), some (.int (nI a)), some (.int 1), some (.int 0), x14, x15] [] gg (fun v g => v = some (.int (o13 (pyF (wtA A) price (safL (chd A Q k) (wtA A) WO) (safL (chd A Q k) (wtA A) WT)))) ∧ mfr h g ∧ (¬ (pyF (wtA A) price (safL (chd A Q k) (wtA A) WO) (safL (chd A Q k) (wtA A) WT)).1 = 13 → g.1 165 55 = nI (pyF (wtA A) price (safL (chd A Q k) (wtA A) WO) (safL (chd A Q k) (wtA A) WT)).2.1 ∧ g.1 165 56 = nI (pyF (wtA A) price (safL (chd A Q k) (wtA A) WO) (safL (chd A Q k) (wtA A) WT)).2.2) ∧ (pyF (wtA A) price (safL (chd A Q k) (wtA A) WO) (safL (chd A Q k) (wtA A) WT)).1 ≤ 13 ∧ flg (wtA A) (fun a b => safe (chd A Q k) (wtA A) WO a ∧ safe (chd A Q k) (wtA A) WT b) (h.1 206) (g.1 206)) := by
        intro hsa
        have hO2 : (foldW WO (sst (chd A Q k) (wtA A) WO (fun s a => foldW WT (sst (chd A Q k) (wtA A) WT (pyS (wtA A) price a)) s (WT + 1))) py0 (a + 1)) = (fun s a => foldW WT (sst (chd A Q k) (wtA A) WT (pyS (wtA A) price a)) s (WT + 1)) s0 a := by
          rw [hO, if_pos hsa.1]; exact sst_y hsa
        dsimp only at hO2
        have K120 : ∀ m b, b + m = WT + 1 → ∀ gg s, s = foldW WT (sst (chd A Q k) (wtA A) WT (pyS (wtA A) price a)) s0 b → (frm (fun c => c == 165 || c == 206) g gg ∧ (∀ j, j < 49 → gg.1 165 j = g.1 165 j) ∧ s.1 ≤ 13 ∧ (¬ s.1 = 13 → gg.1 165 55 = nI s.2.1 ∧ gg.1 165 56 = nI s.2.2) ∧ flg (wtA A) (prc (chd A Q k) (wtA A) WO WT a b) (h.1 206) (gg.1 206)) → ∀ x14 x15, mm_E (d + 9) YX11_pays 120 [some (.ref 165), some (.int (nI r)), some (.int (nI k)), some (.int one), some (.int other), some (.int price), some (.int (nI WO)), some (.int (nI WT)), some (.int xA), some (.int xB), some (.int (o13 s)), some (.int (nI a)), some (.int 1), some (.int (nI b)), x14, x15] [] gg (fun v g => v = some (.int (o13 (pyF (wtA A) price (safL (chd A Q k) (wtA A) WO) (safL (chd A Q k) (wtA A) WT)))) ∧ mfr h g ∧ (¬ (pyF (wtA A) price (safL (chd A Q k) (wtA A) WO) (safL (chd A Q k) (wtA A) WT)).1 = 13 → g.1 165 55 = nI (pyF (wtA A) price (safL (chd A Q k) (wtA A) WO) (safL (chd A Q k) (wtA A) WT)).2.1 ∧ g.1 165 56 = nI (pyF (wtA A) price (safL (chd A Q k) (wtA A) WO) (safL (chd A Q k) (wtA A) WT)).2.2) ∧ (pyF (wtA A) price (safL (chd A Q k) (wtA A) WO) (safL (chd A Q k) (wtA A) WT)).1 ≤ 13 ∧ flg (wtA A) (fun a b => safe (chd A Q k) (wtA A) WO a ∧ safe (chd A Q k) (wtA A) WT b) (h.1 206) (g.1 206)) := by
          intro m
          induction m with
          | zero =>
            intro b hb gg s hs S x14 x15
            have hb : b = WT + 1 := by omega
            subst hb
            obtain ⟨fg, s1, s3, s5, s6⟩ := S
            have K := ih (a + 1) (by omega) gg (by
              rw [hO2, ← hs]
              refine ⟨fg, s1, s3, s5, flg_c s6 (fun a2 b2 => ?_)⟩
              unfold prc
              refine ⟨fun z => ⟨z.1, z.2.1, ?_⟩, fun z => ⟨z.1, z.2.1, ?_⟩⟩
              · have := sub_le z.2.1.1
                rcases z.2.2 with y | y
                · omega
                · omega
              · rcases z.2.2 with y | y
                · left; omega
                · left; omega)
            rw [hO2, ← hs] at K
            refine mm_Es (fun _ _ => mm_iload dX11_pays_120 rfl) ?_
            refine mm_Eb (fun _ _ => mm_if_eq 257 dX11_pays_122 (by decide)) (fun c_122 => ?_) (fun c_122 => ?_)
            · exact absurd c_122 (by decide)
            · refine mm_Es (fun _ _ => mm_iload dX11_pays_125 rfl) ?_
              refine mm_Es (fun _ _ => mm_iload dX11_pays_127 rfl) ?_
              refine mm_Eb (fun _ _ => mm_icmp_gt 257 dX11_pays_129 (by decide)) (fun c_129 => ?_) (fun c_129 => ?_)
              · refine mm_Es (fun _ _ => mm_iinc dX11_pays_257 rfl (nI_inc a) rfl) ?_
                refine mm_Es (fun _ _ => mm_goto 70 dX11_pays_260 (by decide)) ?_
                exact K _ _ _ _
              · exact absurd (nI_lt (show WT < WT + 1 by omega) (by omega)) c_129
          | succ m ihm =>
            intro b hb gg s hs S x14 x15
            have hbW : b ≤ WT := by omega
            have B129 : ¬ nI WT < nI b := nI_nlt hbW (by omega)
            have hI : foldW WT (sst (chd A Q k) (wtA A) WT (pyS (wtA A) price a)) s0 (b + 1) = if sub b WT then sst (chd A Q k) (wtA A) WT (pyS (wtA A) price a) s b else s := by rw [foldW_s, ← hs]
            obtain ⟨fg, s1, s3, s5, s6⟩ := S
            have hVgg := viewM_f hVg fg (fun c hc => by simp; omega)
            have e205 : gg.1 205 = g.1 205 := fg.i rfl
            have wth : ∀ t, mm_M (d + 8) YX11_worthOf [.ref 165, .int (nI t)] gg (some (.int (wtA A t))) gg := fun t => by
              have M5 := mX11_worthOf (d + 7) gg (mn A) hVgg.1 h12 (nI t)
              rw [sp_wth_c (mn A) (fun c hc => (hVgg.2.2.2.2.1 c hc).2.2.1)] at M5
              exact M5
            have KS : ¬ safe (chd A Q k) (wtA A) WT b → ∀ x14 x15, mm_E (d + 9) YX11_pays 251 [some (.ref 165), some (.int (nI r)), some (.int (nI k)), some (.int one), some (.int other), some (.int price), some (.int (nI WO)), some (.int (nI WT)), some (.int xA), some (.int xB), some (.int (o13 s)), some (.int (nI a)), some (.int 1), some (.int (nI b)), x14, x15] [] gg (fun v g => v = some (.int (o13 (pyF (wtA A) price (safL (chd A Q k) (wtA A) WO) (safL (chd A Q k) (wtA A) WT)))) ∧ mfr h g ∧ (¬ (pyF (wtA A) price (safL (chd A Q k) (wtA A) WO) (safL (chd A Q k) (wtA A) WT)).1 = 13 → g.1 165 55 = nI (pyF (wtA A) price (safL (chd A Q k) (wtA A) WO) (safL (chd A Q k) (wtA A) WT)).2.1 ∧ g.1 165 56 = nI (pyF (wtA A) price (safL (chd A Q k) (wtA A) WO) (safL (chd A Q k) (wtA A) WT)).2.2) ∧ (pyF (wtA A) price (safL (chd A Q k) (wtA A) WO) (safL (chd A Q k) (wtA A) WT)).1 ≤ 13 ∧ flg (wtA A) (fun a b => safe (chd A Q k) (wtA A) WO a ∧ safe (chd A Q k) (wtA A) WT b) (h.1 206) (g.1 206)) := by
              intro hns x14 x15
              have hI2 : foldW WT (sst (chd A Q k) (wtA A) WT (pyS (wtA A) price a)) s0 (b + 1) = s := by
                rw [hI]
                split
                · exact sst_n hns
                · rfl
              have K := ihm (b + 1) (by omega) gg s hI2.symm ⟨fg, s1, s3, s5, flg_c s6 (fun a2 b2 => by
                unfold prc
                refine ⟨fun z => ⟨z.1, z.2.1, ?_⟩, fun z => ⟨z.1, z.2.1, ?_⟩⟩
                · rcases z.2.2 with y | y
                  · left; omega
                  · right
                    have : b2 ≠ b := fun q => hns (by rw [← q]; exact z.2.1)
                    omega
                · rcases z.2.2 with y | y
                  · left; omega
                  · right; omega)⟩
              refine mm_Es (fun _ _ => mm_iinc dX11_pays_251 rfl (nI_inc b) rfl) ?_
              refine mm_Es (fun _ _ => mm_goto 120 dX11_pays_254 (by decide)) ?_
              exact K _ _
            have K165 : safe (chd A Q k) (wtA A) WT b → ∀ x14 x15, mm_E (d + 9) YX11_pays 165 [some (.ref 165), some (.int (nI r)), some (.int (nI k)), some (.int one), some (.int other), some (.int price), some (.int (nI WO)), some (.int (nI WT)), some (.int xA), some (.int xB), some (.int (o13 s)), some (.int (nI a)), some (.int 1), some (.int (nI b)), x14, x15] [] gg (fun v g => v = some (.int (o13 (pyF (wtA A) price (safL (chd A Q k) (wtA A) WO) (safL (chd A Q k) (wtA A) WT)))) ∧ mfr h g ∧ (¬ (pyF (wtA A) price (safL (chd A Q k) (wtA A) WO) (safL (chd A Q k) (wtA A) WT)).1 = 13 → g.1 165 55 = nI (pyF (wtA A) price (safL (chd A Q k) (wtA A) WO) (safL (chd A Q k) (wtA A) WT)).2.1 ∧ g.1 165 56 = nI (pyF (wtA A) price (safL (chd A Q k) (wtA A) WO) (safL (chd A Q k) (wtA A) WT)).2.2) ∧ (pyF (wtA A) price (safL (chd A Q k) (wtA A) WO) (safL (chd A Q k) (wtA A) WT)).1 ≤ 13 ∧ flg (wtA A) (fun a b => safe (chd A Q k) (wtA A) WO a ∧ safe (chd A Q k) (wtA A) WT b) (h.1 206) (g.1 206)) := by
              intro hsb x14 x15
              have hI2 : foldW WT (sst (chd A Q k) (wtA A) WT (pyS (wtA A) price a)) s0 (b + 1) = pyS (wtA A) price a s b := by
                rw [hI, if_pos hsb.1]; exact sst_y hsb
              have hpab := hpc a b hsa.1 hsb.1
              have hpr : ∀ a2 b2, prc (chd A Q k) (wtA A) WO WT a (b + 1) a2 b2 ↔ prc (chd A Q k) (wtA A) WO WT a b a2 b2 ∨ (a2 = a ∧ b2 = b) := fun a2 b2 => by
                unfold prc
                constructor
                · rintro ⟨z1, z2, z3⟩
                  by_cases q : a2 = a ∧ b2 = b
                  · exact Or.inr q
                  · exact Or.inl ⟨z1, z2, by omega⟩
                · rintro (⟨z1, z2, z3⟩ | ⟨rfl, rfl⟩)
                  · exact ⟨z1, z2, by omega⟩
                  · exact ⟨hsa, hsb, by omega⟩
              have K201 : ∀ gh, frm (fun c => c == 165 || c == 206) g gh → gh.1 165 = gg.1 165 → flg (wtA A) (prc (chd A Q k) (wtA A) WO WT a (b + 1)) (h.1 206) (gh.1 206) → ∀ x15, mm_E (d + 9) YX11_pays 201 [some (.ref 165), some (.int (nI r)), some (.int (nI k)), some (.int one), some (.int other), some (.int price), some (.int (nI WO)), some (.int (nI WT)), some (.int xA), some (.int xB), some (.int (o13 s)), some (.int (nI a)), some (.int 1), some (.int (nI b)), some (.int (wtA A a - wtA A b)), x15] [] gh (fun v g => v = some (.int (o13 (pyF (wtA A) price (safL (chd A Q k) (wtA A) WO) (safL (chd A Q k) (wtA A) WT)))) ∧ mfr h g ∧ (¬ (pyF (wtA A) price (safL (chd A Q k) (wtA A) WO) (safL (chd A Q k) (wtA A) WT)).1 = 13 → g.1 165 55 = nI (pyF (wtA A) price (safL (chd A Q k) (wtA A) WO) (safL (chd A Q k) (wtA A) WT)).2.1 ∧ g.1 165 56 = nI (pyF (wtA A) price (safL (chd A Q k) (wtA A) WO) (safL (chd A Q k) (wtA A) WT)).2.2) ∧ (pyF (wtA A) price (safL (chd A Q k) (wtA A) WO) (safL (chd A Q k) (wtA A) WT)).1 ≤ 13 ∧ flg (wtA A) (fun a b => safe (chd A Q k) (wtA A) WO a ∧ safe (chd A Q k) (wtA A) WT b) (h.1 206) (g.1 206)) := by
                intro gh fh e165 hfl x15
                by_cases hb : pc a + pc b < s.1 ∧ wtA A a - wtA A b = price
                · have hst : pyS (wtA A) price a s b = (pc a + pc b, a, b) := by unfold pyS; rw [if_pos hb]
                  rw [hst] at hI2
                  have hn13 : ¬ pc a + pc b = 13 := by omega
                  have K := ihm (b + 1) (by omega) (mm_up (mm_up gh.1 165 55 (nI a)) 165 56 (nI b), gh.2.1, gh.2.2) _ hI2.symm ⟨(fh.up (c := 165) rfl).up (c := 165) rfl, fun j hj => by dsimp only; rw [mm_up_k (by omega), mm_up_k (by omega), e165]; exact s1 j hj, by dsimp only; omega, fun _ => ⟨by dsimp only; rw [mm_up_k (by decide), mm_up_e], by dsimp only; rw [mm_up_e]⟩, by dsimp only; rw [mm_up_n (by decide), mm_up_n (by decide)]; exact hfl⟩
                  have e13 : o13 (pc a + pc b, a, b) = nI (pc a + pc b) := by unfold o13; rw [if_neg hn13]
                  rw [e13] at K
                  refine mm_Es (fun _ _ => mm_iload dX11_pays_201 rfl) ?_
                  refine mm_Es (fun _ _ => mm_cS (Y1 := YX11_bits) dX11_pays_203 lX11_363 sX11_bits (mX11_bits (d + 8) gh a (by omega)) rfl rfl (by simp [Value.category])) ?_
                  refine mm_Es (fun _ _ => mm_iload dX11_pays_206 rfl) ?_
                  refine mm_Es (fun _ _ => mm_cS (Y1 := YX11_bits) dX11_pays_208 lX11_363 sX11_bits (mX11_bits (d + 8) gh b (by omega)) rfl rfl (by simp [Value.category])) ?_
                  refine mm_Es (fun _ _ => mm_iadd dX11_pays_211) ?_
                  refine mm_Es (fun _ _ => mm_cast (st' := [.int (nI (pc a + pc b))]) rfl (by rw [nI_add]; rfl) rfl) ?_
                  refine mm_Es (fun _ _ => mm_istore dX11_pays_212 (by decide) rfl) ?_
                  refine mm_Es (fun _ _ => mm_iload dX11_pays_214 rfl) ?_
                  refine mm_Es (fun _ _ => mm_iload dX11_pays_216 rfl) ?_
                  refine mm_Ebn (fun _ _ => mm_icmp_ne 251 dX11_pays_218 (by decide)) (fun c_218 => ?_) (fun c_218 => ?_)
                  · exact absurd hb.2 c_218
                  · refine mm_Es (fun _ _ => mm_iload dX11_pays_221 rfl) ?_
                    refine mm_Es (fun _ _ => mm_bipush (x := (-2)) dX11_pays_223 (by decide)) ?_
                    refine mm_Eb (fun _ _ => mm_icmp_eq 235 dX11_pays_225 (by decide)) (fun c_225 => ?_) (fun c_225 => ?_)
                    · refine mm_Es (fun _ _ => mm_iload dX11_pays_235 rfl) ?_
                      refine mm_Es (fun _ _ => mm_istore dX11_pays_237 (by decide) rfl) ?_
                      refine mm_Es (fun _ _ => mm_aload_n dX11_pays_239 rfl rfl) ?_
                      refine mm_Es (fun _ _ => mm_iload dX11_pays_240 rfl) ?_
                      refine mm_Es (fun _ _ => mm_putI dX11_pays_242 fX11_467 sh_165 rfl rfl rfl) ?_
                      refine mm_Es (fun _ _ => mm_aload_n dX11_pays_245 rfl rfl) ?_
                      refine mm_Es (fun _ _ => mm_iload dX11_pays_246 rfl) ?_
                      refine mm_Es (fun _ _ => mm_putI dX11_pays_248 fX11_470 sh_165 rfl rfl rfl) ?_
                      refine mm_Es (fun _ _ => mm_iinc dX11_pays_251 rfl (nI_inc b) rfl) ?_
                      refine mm_Es (fun _ _ => mm_goto 120 dX11_pays_254 (by decide)) ?_
                      exact K _ _
                    · refine mm_Es (fun _ _ => mm_iload dX11_pays_228 rfl) ?_
                      refine mm_Es (fun _ _ => mm_iload dX11_pays_230 rfl) ?_
                      refine mm_Eb (fun _ _ => mm_icmp_ge 251 dX11_pays_232 (by decide)) (fun c_232 => ?_) (fun c_232 => ?_)
                      · exact absurd c_232 (by rw [o13_n (fun z => c_225 ((o13_e s3).mpr z))]; exact nI_ge hb.1 (by omega))
                      · refine mm_Es (fun _ _ => mm_iload dX11_pays_235 rfl) ?_
                        refine mm_Es (fun _ _ => mm_istore dX11_pays_237 (by decide) rfl) ?_
                        refine mm_Es (fun _ _ => mm_aload_n dX11_pays_239 rfl rfl) ?_
                        refine mm_Es (fun _ _ => mm_iload dX11_pays_240 rfl) ?_
                        refine mm_Es (fun _ _ => mm_putI dX11_pays_242 fX11_467 sh_165 rfl rfl rfl) ?_
                        refine mm_Es (fun _ _ => mm_aload_n dX11_pays_245 rfl rfl) ?_
                        refine mm_Es (fun _ _ => mm_iload dX11_pays_246 rfl) ?_
                        refine mm_Es (fun _ _ => mm_putI dX11_pays_248 fX11_470 sh_165 rfl rfl rfl) ?_
                        refine mm_Es (fun _ _ => mm_iinc dX11_pays_251 rfl (nI_inc b) rfl) ?_
                        refine mm_Es (fun _ _ => mm_goto 120 dX11_pays_254 (by decide)) ?_
                        exact K _ _
                · have hst : pyS (wtA A) price a s b = s := by unfold pyS; rw [if_neg hb]
                  rw [hst] at hI2
                  have K := ihm (b + 1) (by omega) gh _ hI2.symm ⟨fh, fun j hj => by rw [e165]; exact s1 j hj, s3, fun z => by rw [e165]; exact s5 z, hfl⟩
                  refine mm_Es (fun _ _ => mm_iload dX11_pays_201 rfl) ?_
                  refine mm_Es (fun _ _ => mm_cS (Y1 := YX11_bits) dX11_pays_203 lX11_363 sX11_bits (mX11_bits (d + 8) gh a (by omega)) rfl rfl (by simp [Value.category])) ?_
                  refine mm_Es (fun _ _ => mm_iload dX11_pays_206 rfl) ?_
                  refine mm_Es (fun _ _ => mm_cS (Y1 := YX11_bits) dX11_pays_208 lX11_363 sX11_bits (mX11_bits (d + 8) gh b (by omega)) rfl rfl (by simp [Value.category])) ?_
                  refine mm_Es (fun _ _ => mm_iadd dX11_pays_211) ?_
                  refine mm_Es (fun _ _ => mm_cast (st' := [.int (nI (pc a + pc b))]) rfl (by rw [nI_add]; rfl) rfl) ?_
                  refine mm_Es (fun _ _ => mm_istore dX11_pays_212 (by decide) rfl) ?_
                  refine mm_Es (fun _ _ => mm_iload dX11_pays_214 rfl) ?_
                  refine mm_Es (fun _ _ => mm_iload dX11_pays_216 rfl) ?_
                  refine mm_Ebn (fun _ _ => mm_icmp_ne 251 dX11_pays_218 (by decide)) (fun c_218 => ?_) (fun c_218 => ?_)
                  · refine mm_Es (fun _ _ => mm_iinc dX11_pays_251 rfl (nI_inc b) rfl) ?_
                    refine mm_Es (fun _ _ => mm_goto 120 dX11_pays_254 (by decide)) ?_
                    exact K _ _
                  · refine mm_Es (fun _ _ => mm_iload dX11_pays_221 rfl) ?_
                    refine mm_Es (fun _ _ => mm_bipush (x := (-2)) dX11_pays_223 (by decide)) ?_
                    refine mm_Eb (fun _ _ => mm_icmp_eq 235 dX11_pays_225 (by decide)) (fun c_225 => ?_) (fun c_225 => ?_)
                    · exact absurd ⟨by have := (o13_e s3).mp c_225; omega, c_218⟩ hb
                    · refine mm_Es (fun _ _ => mm_iload dX11_pays_228 rfl) ?_
                      refine mm_Es (fun _ _ => mm_iload dX11_pays_230 rfl) ?_
                      refine mm_Eb (fun _ _ => mm_icmp_ge 251 dX11_pays_232 (by decide)) (fun c_232 => ?_) (fun c_232 => ?_)
                      · refine mm_Es (fun _ _ => mm_iinc dX11_pays_251 rfl (nI_inc b) rfl) ?_
                        refine mm_Es (fun _ _ => mm_goto 120 dX11_pays_254 (by decide)) ?_
                        exact K _ _
                      · exact absurd ⟨Nat.lt_of_not_le (fun z => c_232 (by rw [o13_n (fun y => c_225 ((o13_e s3).mpr y))]; exact nI_le z (by omega))), c_218⟩ hb
              by_cases hx : ∃ x, x < 12000 ∧ wtA A a - wtA A b = nI x
              · obtain ⟨x, hx1, hx2⟩ := hx
                have K := K201 (mm_up gg.1 206 x 1, gg.2.1, gg.2.2) (fg.up rfl) (by dsimp only; rw [mm_up_n (by decide)]) (by dsimp only; rw [mm_up_s]; exact flg_in s6 hx1 hx2 hpr)
                have hi3 : (0 : Int64).toInt ≤ (wtA A a - wtA A b).toInt64.toInt ∧ (wtA A a - wtA A b).toInt64.toInt ≤ (11999 : Int64).toInt := by rw [i64_toInt, li_0, li_11999, hx2, nI_toInt (by omega)]; omega
                refine mm_Es (fun _ _ => mm_aload_n dX11_pays_165 rfl rfl) ?_
                refine mm_Es (fun _ _ => mm_iload dX11_pays_166 rfl) ?_
                refine mm_Es (fun _ _ => mm_cV (Y1 := YX11_worthOf) dX11_pays_168 lX11_446 vX11_worthOf (wth a) sh_165 rfl rfl (by simp [Value.category])) ?_
                refine mm_Es (fun _ _ => mm_aload_n dX11_pays_171 rfl rfl) ?_
                refine mm_Es (fun _ _ => mm_iload dX11_pays_172 rfl) ?_
                refine mm_Es (fun _ _ => mm_cV (Y1 := YX11_worthOf) dX11_pays_174 lX11_446 vX11_worthOf (wth b) sh_165 rfl rfl (by simp [Value.category])) ?_
                refine mm_Es (fun _ _ => mm_isub dX11_pays_177) ?_
                refine mm_Es (fun _ _ => mm_istore dX11_pays_178 (by decide) rfl) ?_
                refine mm_Es (fun _ _ => mm_iload dX11_pays_180 rfl) ?_
                refine mm_Es (fun _ _ => mm_i2l dX11_pays_182 rfl) ?_
                refine mm_Es (fun _ _ => mm_lconst (x := 0) dX11_pays_183 (by decide)) ?_
                refine mm_Es (fun _ _ => mm_ldc2 dX11_pays_184 kX11_465) ?_
                refine mm_Es (fun _ _ => mm_cS (Y1 := YX11_in) dX11_pays_187 lX11_171 sX11_in (mX11_in (d + 8) gg _ _ _) rfl rfl (by simp [Value.category])) ?_
                refine mm_Eb (fun _ _ => mm_if_eq 201 dX11_pays_190 (by decide)) (fun c_190 => ?_) (fun c_190 => ?_)
                · exact absurd hi3 (bI_e0.mp c_190)
                · refine mm_Es (fun _ _ => mm_aload_n dX11_pays_193 rfl rfl) ?_
                  refine mm_Es (fun _ _ => mm_getS dX11_pays_194 fX11_138 sh_165 rfl gr_165_54) ?_
                  refine mm_Es (fun _ _ => mm_iload dX11_pays_197 rfl) ?_
                  refine mm_Es (fun _ _ => mm_iconst (x := 1) dX11_pays_199 (by decide)) ?_
                  refine mm_Es (fun _ _ => mm_zast (x) dX11_pays_200 sh_206 hx2 hx1 rfl) ?_
                  exact K _
              · have K := K201 gg fg rfl (flg_out s6 (fun x h1 h2 => hx ⟨x, h1, h2⟩) hpr)
                have hi3 : ¬ ((0 : Int64).toInt ≤ (wtA A a - wtA A b).toInt64.toInt ∧ (wtA A a - wtA A b).toInt64.toInt ≤ (11999 : Int64).toInt) := by
                  rw [i64_toInt, li_0, li_11999]
                  intro z
                  obtain ⟨x, x1, x2⟩ := nI_ex (n := 12000) (show 0 ≤ (wtA A a - wtA A b).toInt ∧ (wtA A a - wtA A b).toInt < (12000 : Nat) by omega)
                  exact hx ⟨x, x1, x2⟩
                refine mm_Es (fun _ _ => mm_aload_n dX11_pays_165 rfl rfl) ?_
                refine mm_Es (fun _ _ => mm_iload dX11_pays_166 rfl) ?_
                refine mm_Es (fun _ _ => mm_cV (Y1 := YX11_worthOf) dX11_pays_168 lX11_446 vX11_worthOf (wth a) sh_165 rfl rfl (by simp [Value.category])) ?_
                refine mm_Es (fun _ _ => mm_aload_n dX11_pays_171 rfl rfl) ?_
                refine mm_Es (fun _ _ => mm_iload dX11_pays_172 rfl) ?_
                refine mm_Es (fun _ _ => mm_cV (Y1 := YX11_worthOf) dX11_pays_174 lX11_446 vX11_worthOf (wth b) sh_165 rfl rfl (by simp [Value.category])) ?_
                refine mm_Es (fun _ _ => mm_isub dX11_pays_177) ?_
                refine mm_Es (fun _ _ => mm_istore dX11_pays_178 (by decide) rfl) ?_
                refine mm_Es (fun _ _ => mm_iload dX11_pays_180 rfl) ?_
                refine mm_Es (fun _ _ => mm_i2l dX11_pays_182 rfl) ?_
                refine mm_Es (fun _ _ => mm_lconst (x := 0) dX11_pays_183 (by decide)) ?_
                refine mm_Es (fun _ _ => mm_ldc2 dX11_pays_184 kX11_465) ?_
                refine mm_Es (fun _ _ => mm_cS (Y1 := YX11_in) dX11_pays_187 lX11_171 sX11_in (mX11_in (d + 8) gg _ _ _) rfl rfl (by simp [Value.category])) ?_
                refine mm_Eb (fun _ _ => mm_if_eq 201 dX11_pays_190 (by decide)) (fun c_190 => ?_) (fun c_190 => ?_)
                · exact K _
                · exact absurd (bI_n0.mp c_190) hi3
            have e0 : ∀ {q : Nat}, q < 4096 → nI q = 0 → q = 0 := fun hq z => nI_inj (by omega) (by decide) z
            refine mm_Es (fun _ _ => mm_iload dX11_pays_120 rfl) ?_
            refine mm_Eb (fun _ _ => mm_if_eq 257 dX11_pays_122 (by decide)) (fun c_122 => ?_) (fun c_122 => ?_)
            · exact absurd c_122 (by decide)
            · refine mm_Es (fun _ _ => mm_iload dX11_pays_125 rfl) ?_
              refine mm_Es (fun _ _ => mm_iload dX11_pays_127 rfl) ?_
              refine mm_Eb (fun _ _ => mm_icmp_gt 257 dX11_pays_129 (by decide)) (fun c_129 => ?_) (fun c_129 => ?_)
              · exact absurd c_129 B129
              · refine mm_Es (fun _ _ => mm_iload dX11_pays_132 rfl) ?_
                refine mm_Es (fun _ _ => mm_iload dX11_pays_134 rfl) ?_
                refine mm_Es (fun _ _ => mm_iconst (x := (-1)) dX11_pays_136 (by decide)) ?_
                refine mm_Es (fun _ _ => mm_ixor dX11_pays_137) ?_
                refine mm_Es (fun _ _ => mm_iand dX11_pays_138) ?_
                refine mm_Ebn (fun _ _ => mm_if_ne 251 dX11_pays_139 (by decide)) (fun c_139 => ?_) (fun c_139 => ?_)
                · exact KS (fun z => absurd ((sub_I (show b < 4096 by omega) hWT).mpr z.1) c_139) _ _
                · have hsb := (sub_I (show b < 4096 by omega) hWT).mp c_139
                  refine mm_Es (fun _ _ => mm_iload dX11_pays_142 rfl) ?_
                  refine mm_Ebn (fun _ _ => mm_if_ne 155 dX11_pays_144 (by decide)) (fun c_144 => ?_) (fun c_144 => ?_)
                  · refine mm_Es (fun _ _ => mm_aload_n dX11_pays_155 rfl rfl) ?_
                    refine mm_Es (fun _ _ => mm_getS dX11_pays_156 fX11_134 sh_165 rfl gr_165_53) ?_
                    refine mm_Es (fun _ _ => mm_iload dX11_pays_159 rfl) ?_
                    refine mm_Es (fun _ _ => mm_zald (b) dX11_pays_161 sh_205 rfl (by omega)) ?_
                    refine mm_Eb (fun _ _ => mm_if_eq 251 dX11_pays_162 (by decide)) (fun c_162 => ?_) (fun c_162 => ?_)
                    · exact KS (sf0 _ _ _ (SB b hsb) (by rw [e205] at c_162; exact c_162)) _ _
                    · first | exact K165 (by rw [e0 (by omega) c_144]; exact sf1 _ _ _ eB c_149) _ _ | exact K165 (sf1 _ _ _ (SB b hsb) (by rw [e205] at c_162; exact c_162)) _ _
                  · refine mm_Es (fun _ _ => mm_iload dX11_pays_147 rfl) ?_
                    refine mm_Eb (fun _ _ => mm_if_eq 251 dX11_pays_149 (by decide)) (fun c_149 => ?_) (fun c_149 => ?_)
                    · exact KS (by rw [e0 (by omega) c_144]; exact sf0 _ _ _ eB c_149) _ _
                    · refine mm_Es (fun _ _ => mm_goto 165 dX11_pays_152 (by decide)) ?_
                      first | exact K165 (by rw [e0 (by omega) c_144]; exact sf1 _ _ _ eB c_149) _ _ | exact K165 (sf1 _ _ _ (SB b hsb) (by rw [e205] at c_162; exact c_162)) _ _
        have K := K120 (WT + 1) 0 (by omega) gg s0 rfl S
        exact K _ _
      have e0 : ∀ {q : Nat}, q < 4096 → nI q = 0 → q = 0 := fun hq z => nI_inj (by omega) (by decide) z
      have e205 : gg.1 205 = g.1 205 := S.1.i rfl
      refine mm_Es (fun _ _ => mm_iload dX11_pays_70 rfl) ?_
      refine mm_Es (fun _ _ => mm_iload dX11_pays_72 rfl) ?_
      refine mm_Eb (fun _ _ => mm_icmp_gt 263 dX11_pays_74 (by decide)) (fun c_74 => ?_) (fun c_74 => ?_)
      · exact absurd c_74 B74
      · refine mm_Es (fun _ _ => mm_iload dX11_pays_77 rfl) ?_
        refine mm_Es (fun _ _ => mm_iload dX11_pays_79 rfl) ?_
        refine mm_Es (fun _ _ => mm_iconst (x := (-1)) dX11_pays_81 (by decide)) ?_
        refine mm_Es (fun _ _ => mm_ixor dX11_pays_82) ?_
        refine mm_Es (fun _ _ => mm_iand dX11_pays_83) ?_
        refine mm_Ebn (fun _ _ => mm_if_ne 114 dX11_pays_84 (by decide)) (fun c_84 => ?_) (fun c_84 => ?_)
        · refine mm_Es (fun _ _ => mm_iconst (x := 0) dX11_pays_114 (by decide)) ?_
          refine mm_Es (fun _ _ => mm_istore dX11_pays_115 (by decide) rfl) ?_
          refine mm_Es (fun _ _ => mm_iconst (x := 0) dX11_pays_117 (by decide)) ?_
          refine mm_Es (fun _ _ => mm_istore dX11_pays_118 (by decide) rfl) ?_
          first | exact KN (fun z => absurd ((sub_I (show a < 4096 by omega) hWO).mpr z.1) c_84) _ | exact KN (by rw [e0 (by omega) c_89]; exact sf0 _ _ _ eA c_94) _ | exact KN (sf0 _ _ _ (SA a (fun z => c_89 (by rw [z]; rfl)) hsb) (by rw [e205] at c_107; exact c_107)) _ | exact KY (by rw [e0 (by omega) c_89]; exact sf1 _ _ _ eA c_94) | exact KY (sf1 _ _ _ (SA a (fun z => c_89 (by rw [z]; rfl)) hsb) (by rw [e205] at c_107; exact c_107))
        · have hsb := (sub_I (show a < 4096 by omega) hWO).mp c_84
          refine mm_Es (fun _ _ => mm_iload dX11_pays_87 rfl) ?_
          refine mm_Ebn (fun _ _ => mm_if_ne 100 dX11_pays_89 (by decide)) (fun c_89 => ?_) (fun c_89 => ?_)
          · refine mm_Es (fun _ _ => mm_aload_n dX11_pays_100 rfl rfl) ?_
            refine mm_Es (fun _ _ => mm_getS dX11_pays_101 fX11_134 sh_165 rfl gr_165_53) ?_
            refine mm_Es (fun _ _ => mm_iload dX11_pays_104 rfl) ?_
            refine mm_Es (fun _ _ => mm_zald (a) dX11_pays_106 sh_205 rfl (by omega)) ?_
            refine mm_Eb (fun _ _ => mm_if_eq 114 dX11_pays_107 (by decide)) (fun c_107 => ?_) (fun c_107 => ?_)
            · refine mm_Es (fun _ _ => mm_iconst (x := 0) dX11_pays_114 (by decide)) ?_
              refine mm_Es (fun _ _ => mm_istore dX11_pays_115 (by decide) rfl) ?_
              refine mm_Es (fun _ _ => mm_iconst (x := 0) dX11_pays_117 (by decide)) ?_
              refine mm_Es (fun _ _ => mm_istore dX11_pays_118 (by decide) rfl) ?_
              first | exact KN (fun z => absurd ((sub_I (show a < 4096 by omega) hWO).mpr z.1) c_84) _ | exact KN (by rw [e0 (by omega) c_89]; exact sf0 _ _ _ eA c_94) _ | exact KN (sf0 _ _ _ (SA a (fun z => c_89 (by rw [z]; rfl)) hsb) (by rw [e205] at c_107; exact c_107)) _ | exact KY (by rw [e0 (by omega) c_89]; exact sf1 _ _ _ eA c_94) | exact KY (sf1 _ _ _ (SA a (fun z => c_89 (by rw [z]; rfl)) hsb) (by rw [e205] at c_107; exact c_107))
            · refine mm_Es (fun _ _ => mm_iconst (x := 1) dX11_pays_110 (by decide)) ?_
              refine mm_Es (fun _ _ => mm_goto 115 dX11_pays_111 (by decide)) ?_
              refine mm_Es (fun _ _ => mm_istore dX11_pays_115 (by decide) rfl) ?_
              refine mm_Es (fun _ _ => mm_iconst (x := 0) dX11_pays_117 (by decide)) ?_
              refine mm_Es (fun _ _ => mm_istore dX11_pays_118 (by decide) rfl) ?_
              first | exact KN (fun z => absurd ((sub_I (show a < 4096 by omega) hWO).mpr z.1) c_84) _ | exact KN (by rw [e0 (by omega) c_89]; exact sf0 _ _ _ eA c_94) _ | exact KN (sf0 _ _ _ (SA a (fun z => c_89 (by rw [z]; rfl)) hsb) (by rw [e205] at c_107; exact c_107)) _ | exact KY (by rw [e0 (by omega) c_89]; exact sf1 _ _ _ eA c_94) | exact KY (sf1 _ _ _ (SA a (fun z => c_89 (by rw [z]; rfl)) hsb) (by rw [e205] at c_107; exact c_107))
          · refine mm_Es (fun _ _ => mm_iload dX11_pays_92 rfl) ?_
            refine mm_Eb (fun _ _ => mm_if_eq 114 dX11_pays_94 (by decide)) (fun c_94 => ?_) (fun c_94 => ?_)
            · refine mm_Es (fun _ _ => mm_iconst (x := 0) dX11_pays_114 (by decide)) ?_
              refine mm_Es (fun _ _ => mm_istore dX11_pays_115 (by decide) rfl) ?_
              refine mm_Es (fun _ _ => mm_iconst (x := 0) dX11_pays_117 (by decide)) ?_
              refine mm_Es (fun _ _ => mm_istore dX11_pays_118 (by decide) rfl) ?_
              first | exact KN (fun z => absurd ((sub_I (show a < 4096 by omega) hWO).mpr z.1) c_84) _ | exact KN (by rw [e0 (by omega) c_89]; exact sf0 _ _ _ eA c_94) _ | exact KN (sf0 _ _ _ (SA a (fun z => c_89 (by rw [z]; rfl)) hsb) (by rw [e205] at c_107; exact c_107)) _ | exact KY (by rw [e0 (by omega) c_89]; exact sf1 _ _ _ eA c_94) | exact KY (sf1 _ _ _ (SA a (fun z => c_89 (by rw [z]; rfl)) hsb) (by rw [e205] at c_107; exact c_107))
            · refine mm_Es (fun _ _ => mm_goto 110 dX11_pays_97 (by decide)) ?_
              refine mm_Es (fun _ _ => mm_iconst (x := 1) dX11_pays_110 (by decide)) ?_
              refine mm_Es (fun _ _ => mm_goto 115 dX11_pays_111 (by decide)) ?_
              refine mm_Es (fun _ _ => mm_istore dX11_pays_115 (by decide) rfl) ?_
              refine mm_Es (fun _ _ => mm_iconst (x := 0) dX11_pays_117 (by decide)) ?_
              refine mm_Es (fun _ _ => mm_istore dX11_pays_118 (by decide) rfl) ?_
              first | exact KN (fun z => absurd ((sub_I (show a < 4096 by omega) hWO).mpr z.1) c_84) _ | exact KN (by rw [e0 (by omega) c_89]; exact sf0 _ _ _ eA c_94) _ | exact KN (sf0 _ _ _ (SA a (fun z => c_89 (by rw [z]; rfl)) hsb) (by rw [e205] at c_107; exact c_107)) _ | exact KY (by rw [e0 (by omega) c_89]; exact sf1 _ _ _ eA c_94) | exact KY (sf1 _ _ _ (SA a (fun z => c_89 (by rw [z]; rfl)) hsb) (by rw [e205] at c_107; exact c_107))
  have K := K70 (WO + 1) 0 (by omega) g ⟨frm.refl _ _, fun _ _ => rfl, Nat.le_refl _, fun z => absurd rfl z, by
    intro x hx
    refine ⟨fun ⟨a, b, h1, h2⟩ => ?_, fun _ => by rw [z206]⟩
    obtain ⟨-, -, q⟩ := h1
    omega⟩ none none none none
  refine mm_Es (fun _ _ => mm_aload_n dX11_pays_0 rfl rfl) ?_
  refine mm_Es (fun _ _ => mm_iload_n dX11_pays_1 rfl rfl) ?_
  refine mm_Es (fun _ _ => mm_cV (Y1 := YX11_heldBy) dX11_pays_2 lX11_459 vX11_heldBy (held1) sh_165 rfl rfl (by simp [Value.category])) ?_
  refine mm_Es (fun _ _ => mm_istore dX11_pays_5 (by decide) rfl) ?_
  refine mm_Es (fun _ _ => mm_aload_n dX11_pays_7 rfl rfl) ?_
  refine mm_Es (fun _ _ => mm_iload dX11_pays_8 rfl) ?_
  refine mm_Es (fun _ _ => mm_cV (Y1 := YX11_heldBy) dX11_pays_10 lX11_459 vX11_heldBy (held2) sh_165 rfl rfl (by simp [Value.category])) ?_
  refine mm_Es (fun _ _ => mm_istore dX11_pays_13 (by decide) rfl) ?_
  refine mm_Es (fun _ _ => mm_aload_n dX11_pays_15 rfl rfl) ?_
  refine mm_Es (fun _ _ => mm_iload_n dX11_pays_16 rfl rfl) ?_
  refine mm_Es (fun _ _ => mm_iload_n dX11_pays_17 rfl rfl) ?_
  refine mm_Es (fun _ _ => mm_iload dX11_pays_18 rfl) ?_
  refine mm_Es (fun _ _ => mm_bipush (x := 12) dX11_pays_20 (by decide)) ?_
  refine mm_Es (fun _ _ => mm_cV (Y1 := YX11_keepsAll) dX11_pays_22 lX11_451 vX11_keepsAll (M1) sh_165 rfl rfl (by simp [Value.category])) ?_
  refine mm_Es (fun _ _ => mm_aload_n dX11_pays_25 rfl rfl) ?_
  refine mm_Es (fun _ _ => mm_iload dX11_pays_26 rfl) ?_
  refine mm_Es (fun _ _ => mm_cV (Y1 := YX11_findsSafe) dX11_pays_28 lX11_462 vX11_findsSafe (M2) sh_165 rfl rfl (by simp [Value.category])) ?_
  refine mm_Es (fun _ _ => mm_aload_n dX11_pays_31 rfl rfl) ?_
  refine mm_Es (fun _ _ => mm_iload_n dX11_pays_32 rfl rfl) ?_
  refine mm_Es (fun _ _ => mm_iload_n dX11_pays_33 rfl rfl) ?_
  refine mm_Es (fun _ _ => mm_iload dX11_pays_34 rfl) ?_
  refine mm_Es (fun _ _ => mm_bipush (x := 12) dX11_pays_36 (by decide)) ?_
  refine mm_Es (fun _ _ => mm_cV (Y1 := YX11_keepsAll) dX11_pays_38 lX11_451 vX11_keepsAll (M3) sh_165 rfl rfl (by simp [Value.category])) ?_
  refine mm_Es (fun _ _ => mm_aload_n dX11_pays_41 rfl rfl) ?_
  refine mm_Es (fun _ _ => mm_getS dX11_pays_42 fX11_134 sh_165 rfl gr_165_53) ?_
  refine mm_Es (fun _ _ => mm_iconst (x := 0) dX11_pays_45 (by decide)) ?_
  refine mm_Es (fun _ _ => mm_zald (0) dX11_pays_46 sh_205 rfl (by decide)) ?_
  refine mm_Es (fun _ _ => mm_istore dX11_pays_47 (by decide) rfl) ?_
  refine mm_Es (fun _ _ => mm_aload_n dX11_pays_49 rfl rfl) ?_
  refine mm_Es (fun _ _ => mm_iload dX11_pays_50 rfl) ?_
  refine mm_Es (fun _ _ => mm_cV (Y1 := YX11_findsSafe) dX11_pays_52 lX11_462 vX11_findsSafe (M4) sh_165 rfl rfl (by simp [Value.category])) ?_
  refine mm_Es (fun _ _ => mm_aload_n dX11_pays_55 rfl rfl) ?_
  refine mm_Es (fun _ _ => mm_getS dX11_pays_56 fX11_134 sh_165 rfl gr_165_53) ?_
  refine mm_Es (fun _ _ => mm_iconst (x := 0) dX11_pays_59 (by decide)) ?_
  refine mm_Es (fun _ _ => mm_zald (0) dX11_pays_60 sh_205 rfl (by decide)) ?_
  refine mm_Es (fun _ _ => mm_istore dX11_pays_61 (by decide) rfl) ?_
  refine mm_Es (fun _ _ => mm_bipush (x := (-2)) dX11_pays_63 (by decide)) ?_
  refine mm_Es (fun _ _ => mm_istore dX11_pays_65 (by decide) rfl) ?_
  refine mm_Es (fun _ _ => mm_iconst (x := 0) dX11_pays_67 (by decide)) ?_
  refine mm_Es (fun _ _ => mm_istore dX11_pays_68 (by decide) rfl) ?_
  exact mm_Ec (by rw [exA, exB]; rfl) rfl rfl K
