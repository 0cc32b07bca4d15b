/-! What holds between two calls. -/
/-- what an image keeps: mint, heard, payments, draw -/
abbrev IMD : Type := MD × List Int32 × PD × Nat
def hrdOK (H : List Int32) : Prop := H.length ≤ 12 ∧ ∀ i j, i < j → j < H.length → H.getD i 0 < H.getD j 0
def imOK (q : IMD) : Prop := mdOK q.1 ∧ flOK q.1 ∧ hrdOK q.2.1 ∧ pdOK q.1 q.2.2.1 ∧ q.2.2.2 < 2 ^ 31
/-- a state of the class at b -/
def vS (I : Nat → Nat → Int32) (b : Nat) (q : IMD) : Prop :=
  (I (b + 4) 0 = nI (mn q.1) ∧ I (b + 4) 7 = nI (mk q.1) ∧ I (b + 4) 10 = mb q.1 ∧ I (b + 4) 11 = mf q.1 ∧ (∀ c, c < mn q.1 → I (b + 4 + 1) c = mr q.1 0 c ∧ I (b + 4 + 2) c = mr q.1 1 c ∧ I (b + 4 + 3) c = mr q.1 2 c ∧ I (b + 4 + 4) c = mr q.1 3 c ∧ I (b + 4 + 5) c = mr q.1 4 c ∧ I (b + 4 + 6) c = mr q.1 5 c) ∧ ∀ c, c < mk q.1 → I (b + 4 + 7) c = mr q.1 6 c ∧ I (b + 4 + 8) c = mr q.1 7 c) ∧
  I b 2 = nI q.2.1.length ∧ (∀ j, j < q.2.1.length → I (b + 1) j = q.2.1.getD j 0) ∧
  (I b 5 = nI (pdn q.2.2.1) ∧ ∀ i, i < pdn q.2.2.1 → I (b + 2) i = nI (pdk q.2.2.1 i) ∧ I (b + 3) i = nI (pds q.2.2.1 i)) ∧ I b 6 = nI q.2.2.2
/-- a state of the reference, by its rows -/
def vR (a : Nat → Nat → Int32) (q : IMD) : Prop :=
  (a 0 0 = nI (mn q.1) ∧ a 0 1 = nI (mk q.1) ∧ a 0 2 = mb q.1 ∧ a 0 3 = mf q.1 ∧ (∀ c, c < mn q.1 → a 1 c = mr q.1 0 c ∧ a 2 c = mr q.1 1 c ∧ a 3 c = mr q.1 2 c ∧ a 4 c = mr q.1 3 c ∧ a 7 c = mr q.1 4 c ∧ a 8 c = mr q.1 5 c) ∧ ∀ c, c < mk q.1 → a 5 c = mr q.1 6 c ∧ a 6 c = mr q.1 7 c) ∧
  a 0 4 = nI q.2.1.length ∧ (∀ j, j < q.2.1.length → a 9 j = q.2.1.getD j 0) ∧
  (a 0 5 = nI (pdn q.2.2.1) ∧ ∀ i, i < pdn q.2.2.1 → a 10 i = nI (pdk q.2.2.1 i) ∧ a 11 i = nI (pds q.2.2.1 i)) ∧ a 0 6 = nI q.2.2.2
theorem vR_c {a b : Nat → Nat → Int32} {q : IMD} (hq : imOK q) (e : ∀ f j, f < 12 → j < ca_n f → b f j = a f j) (v : vR a q) : vR b q := by
  obtain ⟨⟨h1, h2, -⟩, -, ⟨h3, -⟩, ⟨h4, -⟩, -⟩ := hq
  obtain ⟨⟨a1, a2, a3, a4, a5, a6⟩, a7, a8, ⟨a9, a10⟩, a11⟩ := v
  have n0 : ∀ j, j < 7 → b 0 j = a 0 j := fun j hj => e 0 j (by decide) hj
  refine ⟨⟨(n0 0 (by decide)).trans a1, (n0 1 (by decide)).trans a2, (n0 2 (by decide)).trans a3, (n0 3 (by decide)).trans a4, fun c hc => ?_, fun c hc => ?_⟩, (n0 4 (by decide)).trans a7, fun j hj => ?_, ⟨(n0 5 (by decide)).trans a9, fun i hi => ?_⟩, (n0 6 (by decide)).trans a11⟩
  · obtain ⟨b1, b2, b3, b4, b5, b6⟩ := a5 c hc
    have hc : c < 12 := by omega
    exact ⟨(e 1 c (by decide) hc).trans b1, (e 2 c (by decide) hc).trans b2, (e 3 c (by decide) hc).trans b3, (e 4 c (by decide) hc).trans b4, (e 7 c (by decide) hc).trans b5, (e 8 c (by decide) hc).trans b6⟩
  · obtain ⟨b1, b2⟩ := a6 c hc
    have hc : c < 4 := by omega
    exact ⟨(e 5 c (by decide) hc).trans b1, (e 6 c (by decide) hc).trans b2⟩
  · exact (e 9 j (by decide) (show j < 12 by omega)).trans (a8 j hj)
  · obtain ⟨b1, b2⟩ := a10 i hi
    have hi : i < 10 := by omega
    exact ⟨(e 10 i (by decide) hi).trans b1, (e 11 i (by decide) hi).trans b2⟩
theorem vS_cp {I J : Nat → Nat → Int32} {b o : Nat} {q : IMD} (hq : imOK q) (c4 : mm_cp I J (b + 4) (o + 4)) (e2 : J b 2 = I o 2) (e5 : J b 5 = I o 5) (e6 : J b 6 = I o 6) (r1 : ∀ j, j < 12 → J (b + 1) j = I (o + 1) j) (r2 : ∀ j, j < 10 → J (b + 2) j = I (o + 2) j) (r3 : ∀ j, j < 10 → J (b + 3) j = I (o + 3) j) (v : vS I o q) : vS J b q := by
  obtain ⟨⟨h1, h2, -⟩, -, ⟨h3, -⟩, ⟨h4, -⟩, -⟩ := hq
  obtain ⟨⟨a1, a2, a3, a4, a5, a6⟩, a7, a8, ⟨a9, a10⟩, a11⟩ := v
  obtain ⟨p1, p2, p3, p4, p5, p6⟩ := c4
  refine ⟨⟨p1.trans a1, p2.trans a2, p3.trans a3, p4.trans a4, fun c hc => ?_, fun c hc => ?_⟩, e2.trans a7, fun j hj => (r1 j (by omega)).trans (a8 j hj), ⟨e5.trans a9, fun i hi => ⟨(r2 i (by omega)).trans (a10 i hi).1, (r3 i (by omega)).trans (a10 i hi).2⟩⟩, e6.trans a11⟩
  · obtain ⟨b1, b2, b3, b4, b5, b6⟩ := a5 c hc
    exact ⟨(p5 1 c (by decide) (by decide) (by omega)).trans b1, (p5 2 c (by decide) (by decide) (by omega)).trans b2, (p5 3 c (by decide) (by decide) (by omega)).trans b3, (p5 4 c (by decide) (by decide) (by omega)).trans b4, (p5 5 c (by decide) (by decide) (by omega)).trans b5, (p5 6 c (by decide) (by decide) (by omega)).trans b6⟩
  · obtain ⟨b1, b2⟩ := a6 c hc
    exact ⟨(p6 7 c (by decide) (by decide) (by omega)).trans b1, (p6 8 c (by decide) (by decide) (by omega)).trans b2⟩
theorem vS_e {I J : Nat → Nat → Int32} {b : Nat} {q : IMD} (e : ∀ c, b ≤ c → c ≤ b + 12 → J c = I c) (v : vS I b q) : vS J b q := by
  unfold vS at *
  rw [e b (by omega) (by omega), e (b + 1) (by omega) (by omega), e (b + 2) (by omega) (by omega), e (b + 3) (by omega) (by omega), e (b + 4) (by omega) (by omega), e (b + 4 + 1) (by omega) (by omega), e (b + 4 + 2) (by omega) (by omega), e (b + 4 + 3) (by omega) (by omega), e (b + 4 + 4) (by omega) (by omega), e (b + 4 + 5) (by omega) (by omega), e (b + 4 + 6) (by omega) (by omega), e (b + 4 + 7) (by omega) (by omega), e (b + 4 + 8) (by omega) (by omega)]
  exact v
/-- images -/
def imC (I : Nat → Nat → Int32) (IM : Nat → Option IMD) : Prop := ∀ k, k < 4 → match IM k with
  | none => I (74 + 13 * k) 7 = 0
  | some q => I (74 + 13 * k) 7 = 1 ∧ vS I (74 + 13 * k) q
def imM (I : Nat → Nat → Int32) (IM : Nat → Option IMD) : Prop := ∀ k, k < 4 → match IM k with
  | none => I 215 k = 0
  | some q => I 215 k = 1 ∧ vR (fun f j => I 214 (130 * k + ca_o f + j)) q
theorem imC_e {I J : Nat → Nat → Int32} {IM : Nat → Option IMD} (e : ∀ c, 74 ≤ c → c ≤ 125 → J c = I c) (v : imC I IM) : imC J IM := by
  intro k hk
  have h := v k hk
  cases q : IM k with
  | none => rw [q] at h; rw [e _ (by omega) (by omega)]; exact h
  | some p => rw [q] at h; exact ⟨by rw [e _ (by omega) (by omega)]; exact h.1, vS_e (fun c h1 h2 => e c (by omega) (by omega)) h.2⟩
theorem imM_e {I J : Nat → Nat → Int32} {IM : Nat → Option IMD} (e1 : J 214 = I 214) (e2 : J 215 = I 215) (v : imM I IM) : imM J IM := by
  unfold imM at *; rw [e1, e2]; exact v
/-- the class's side -/
def CI (A : MD) (LQ : Nat → LD) (nl : Nat) (B : Nat → Int32) (t X : Nat) (H : List Int32) (P : PD) (IM : Nat → Option IMD) (G : Nat) (h : mm_H) : Prop := stC A LQ nl h G ∧ (h.1 0 1 = nI t ∧ ∀ i, i < t → h.1 1 i = B i) ∧ h.1 61 6 = nI X ∧ (h.1 61 2 = nI H.length ∧ ∀ j, j < H.length → h.1 62 j = H.getD j 0) ∧ viewPC h P ∧ imC h.1 IM
/-- the reference's side -/
def MI (A : MD) (LQ : Nat → LD) (nl : Nat) (B : Nat → Int32) (t X : Nat) (H : List Int32) (P : PD) (IM : Nat → Option IMD) (h : mm_H) : Prop := stM A LQ nl h ∧ h.1 165 29 = 10 ∧ (h.1 165 20 = nI t ∧ ∀ i, i < t → h.1 185 i = B i) ∧ h.1 166 6 = nI X ∧ (h.1 166 4 = nI H.length ∧ ∀ j, j < H.length → h.1 182 j = H.getD j 0) ∧ viewPM h P ∧ imM h.1 IM
/-- what is kept -/
def DI (A : MD) (B : Nat → Int32) (t X : Nat) (H : List Int32) (P : PD) (IM : Nat → Option IMD) : Prop := flOK A ∧ (t ≤ 400 ∧ ∀ i, byt (B i)) ∧ X < 2 ^ 31 ∧ hrdOK H ∧ pdOK A P ∧ ∀ k q, IM k = some q → imOK q
def IV (N : Nat) (h : mm_H) : Prop := ∃ A LQ nl B t X H P IM G, CI A LQ nl B t X H P IM G h ∧ MI A LQ nl B t X H P IM h ∧ DI A B t X H P IM ∧ G ≤ 4096 * N
def pHi : Nat → Bool := fun c => decide (165 ≤ c)
def loS (h g : mm_H) : Prop := frm pHi h g
def hiS (h g : mm_H) : Prop := ∀ c, 165 ≤ c → g.1 c = h.1 c
theorem hiS.refl (h : mm_H) : hiS h h := fun _ _ => rfl
theorem loS.refl (h : mm_H) : loS h h := frm.refl _ _
theorem loS.i {h g : mm_H} (a : loS h g) {c : Nat} (hc : c < 165) : g.1 c = h.1 c := frm.i a (by simp only [pHi, decide_eq_false_iff_not]; omega)
theorem CI.lo {A : MD} {LQ : Nat → LD} {nl : Nat} {B : Nat → Int32} {t X : Nat} {H : List Int32} {P : PD} {IM : Nat → Option IMD} {G : Nat} {h g : mm_H} (I : CI A LQ nl B t X H P IM G h) (a : loS h g) : CI A LQ nl B t X H P IM G g := by
  obtain ⟨h1, h2, h3, h4, h5, h6⟩ := I
  exact ⟨stC_o h1 a (fun c hc => by simp only [pHi, decide_eq_false_iff_not]; omega), by rw [a.i (c := 0) (by decide), a.i (c := 1) (by decide)]; exact h2, by rw [a.i (c := 61) (by decide)]; exact h3, by rw [a.i (c := 61) (by decide), a.i (c := 62) (by decide)]; exact h4, viewPC_c h5 (a.i (by decide)) (a.i (by decide)) (a.i (by decide)), imC_e (fun c _ _ => a.i (by omega)) h6⟩
theorem stM_hi {A : MD} {LQ : Nat → LD} {nl : Nat} {h g : mm_H} (S : stM A LQ nl h) (e : ∀ c, (166 ≤ c ∧ c ≤ 172) ∨ c = 180 ∨ c = 181 ∨ (186 ≤ c ∧ c ≤ 192) → g.1 c = h.1 c) (e24 : g.1 165 24 = h.1 165 24) : stM A LQ nl g := by
  obtain ⟨h1, h2, h3, h4, h5⟩ := S
  refine ⟨h1, ?_, by rw [e24]; exact h3, h4, fun r hr => ⟨(h5 r hr).1, lawM_c (h5 r hr).2 (fun c q1 q2 => e c (by omega))⟩⟩
  unfold viewM at *
  rw [e 166 (by decide), e 167 (by decide), e 168 (by decide), e 169 (by decide), e 170 (by decide), e 171 (by decide), e 172 (by decide), e 180 (by decide), e 181 (by decide)]
  exact h2
/-- what only the rows of questions and of texts touch -/
theorem MI.fr {A : MD} {LQ : Nat → LD} {nl : Nat} {B : Nat → Int32} {t X : Nat} {H : List Int32} {P : PD} {IM : Nat → Option IMD} {h g : mm_H} (I : MI A LQ nl B t X H P IM h) (e : ∀ c, (166 ≤ c ∧ c ≤ 172) ∨ (180 ≤ c ∧ c ≤ 192) ∨ c = 214 ∨ c = 215 → g.1 c = h.1 c) (e24 : g.1 165 24 = h.1 165 24) (e29 : g.1 165 29 = h.1 165 29) (e20 : g.1 165 20 = h.1 165 20) : MI A LQ nl B t X H P IM g := by
  obtain ⟨h1, h2, h3, h4, h5, h6, h7⟩ := I
  exact ⟨stM_hi h1 (fun c hc => e c (by omega)) e24, by rw [e29]; exact h2, by rw [e20, e 185 (by decide)]; exact h3, by rw [e 166 (by decide)]; exact h4, by rw [e 166 (by decide), e 182 (by decide)]; exact h5, viewPM_c h6 (e 166 (by decide)) (e 183 (by decide)) (e 184 (by decide)), imM_e (e 214 (by decide)) (e 215 (by decide)) h7⟩
theorem MI.hi {A : MD} {LQ : Nat → LD} {nl : Nat} {B : Nat → Int32} {t X : Nat} {H : List Int32} {P : PD} {IM : Nat → Option IMD} {h g : mm_H} (I : MI A LQ nl B t X H P IM h) (a : hiS h g) : MI A LQ nl B t X H P IM g := I.fr (fun c hc => a c (by omega)) (by rw [a 165 (by decide)]) (by rw [a 165 (by decide)]) (by rw [a 165 (by decide)])
theorem MI.mfr {A : MD} {LQ : Nat → LD} {nl : Nat} {B : Nat → Int32} {t X : Nat} {H : List Int32} {P : PD} {IM : Nat → Option IMD} {h g : mm_H} (I : MI A LQ nl B t X H P IM h) (a : mfr h g) : MI A LQ nl B t X H P IM g ∧ loS h g := by
  refine ⟨I.fr (fun c hc => a.1.i (by simp only [pMs, Bool.or_eq_false_iff, beq_eq_false_iff_ne, rg, decide_eq_false_iff_not]; omega)) (a.2 24 (by decide)) (a.2 29 (by decide)) (a.2 20 (by decide)), a.1.mono (fun c hc => ?_)⟩
  simp only [pHi, pMs, Bool.or_eq_false_iff, beq_eq_false_iff_ne, rg, decide_eq_false_iff_not] at hc ⊢
  omega
theorem CI.cfr {A : MD} {LQ : Nat → LD} {nl : Nat} {B : Nat → Int32} {t X : Nat} {H : List Int32} {P : PD} {IM : Nat → Option IMD} {G G2 : Nat} {h g : mm_H} (I : CI A LQ nl B t X H P IM G h) (a : cfr h g) (S : stC A LQ nl g G2) : CI A LQ nl B t X H P IM G2 g ∧ hiS h g := by
  obtain ⟨h1, h2, h3, h4, h5, h6⟩ := I
  have e : ∀ c, c < 135 ∨ 164 < c → g.1 c = h.1 c := fun c hc => (a.1 c (by simp only [rg, decide_eq_false_iff_not]; omega)).1
  exact ⟨⟨S, by rw [e 0 (by decide), e 1 (by decide)]; exact h2, by rw [e 61 (by decide)]; exact h3, by rw [e 61 (by decide), e 62 (by decide)]; exact h4, viewPC_c h5 (e 61 (by decide)) (e 63 (by decide)) (e 64 (by decide)), imC_e (fun c _ _ => e c (by omega)) h6⟩, fun c hc => e c (by omega)⟩
/-- a call on both, with one answer -/
def STEP (d N : Nat) (YC YM : mm_Y) (av : List Value) (h : mm_H) : Prop := ∃ x g1 g2, mm_M (d + 30) YC (.ref 0 :: av) h (some (.int x)) g1 ∧ mm_M (d + 30) YM (.ref 165 :: av) g1 (some (.int x)) g2 ∧ IV (N + 1) g2
theorem STEP.of {d N : Nat} {YC YM : mm_Y} {av : List Value} {h : mm_H} {A : MD} {LQ : Nat → LD} {nl : Nat} {B : Nat → Int32} {t X : Nat} {H : List Int32} {P : PD} {IM : Nat → Option IMD} {A2 : MD} {LQ2 : Nat → LD} {nl2 : Nat} {B2 : Nat → Int32} {t2 X2 : Nat} {H2 : List Int32} {P2 : PD} {IM2 : Nat → Option IMD} {G2 : Nat} (M : MI A LQ nl B t X H P IM h) (x : Int32) (hC : ∃ g1, mm_M (d + 30) YC (.ref 0 :: av) h (some (.int x)) g1 ∧ CI A2 LQ2 nl2 B2 t2 X2 H2 P2 IM2 G2 g1 ∧ hiS h g1) (hM : ∀ g1, MI A LQ nl B t X H P IM g1 → ∃ g2, mm_M (d + 30) YM (.ref 165 :: av) g1 (some (.int x)) g2 ∧ MI A2 LQ2 nl2 B2 t2 X2 H2 P2 IM2 g2 ∧ loS g1 g2) (hD : DI A2 B2 t2 X2 H2 P2 IM2) (hG : G2 ≤ 4096 * (N + 1)) : STEP d N YC YM av h := by
  obtain ⟨g1, m1, c1, s1⟩ := hC
  obtain ⟨g2, m2, c2, s2⟩ := hM g1 (M.hi s1)
  exact ⟨x, g1, g2, m1, m2, A2, LQ2, nl2, B2, t2, X2, H2, P2, IM2, G2, c1.lo s2, c2, hD, hG⟩
/-- a call that answers and changes nothing -/
theorem STEP.no {d N : Nat} {YC YM : mm_Y} {av : List Value} {h : mm_H} {A : MD} {LQ : Nat → LD} {nl : Nat} {B : Nat → Int32} {t X : Nat} {H : List Int32} {P : PD} {IM : Nat → Option IMD} {G : Nat} (C : CI A LQ nl B t X H P IM G h) (M : MI A LQ nl B t X H P IM h) (hD : DI A B t X H P IM) (hG : G ≤ 4096 * N) (x : Int32) (m1 : mm_M (d + 30) YC (.ref 0 :: av) h (some (.int x)) h) (m2 : mm_M (d + 30) YM (.ref 165 :: av) h (some (.int x)) h) : STEP d N YC YM av h := ⟨x, h, h, m1, m2, A, LQ, nl, B, t, X, H, P, IM, G, C, M, hD, by omega⟩
/-- a question that is answered -/
theorem STEP.ask {d N : Nat} {YC YM : mm_Y} {av : List Value} {h : mm_H} {A : MD} {LQ : Nat → LD} {nl : Nat} {B : Nat → Int32} {t X : Nat} {H : List Int32} {P : PD} {IM : Nat → Option IMD} {G G2 : Nat} (C : CI A LQ nl B t X H P IM G h) (M : MI A LQ nl B t X H P IM h) (hD : DI A B t X H P IM) (hG : G2 ≤ 4096 * (N + 1)) (x : Int32) (hC : ∃ g1, mm_M (d + 30) YC (.ref 0 :: av) h (some (.int x)) g1 ∧ cfr h g1 ∧ stC A LQ nl g1 G2) (hM : ∀ g1, MI A LQ nl B t X H P IM g1 → ∃ g2, mm_M (d + 30) YM (.ref 165 :: av) g1 (some (.int x)) g2 ∧ mfr g1 g2) : STEP d N YC YM av h := by
  obtain ⟨g1, m1, f1, S1⟩ := hC
  refine STEP.of M x ⟨g1, m1, C.cfr f1 S1⟩ (fun g1 I => ?_) hD hG
  obtain ⟨g2, m2, f2⟩ := hM g1 I
  exact ⟨g2, m2, I.mfr f2⟩
theorem zi_in {a : Int32} {n : Nat} (h : 0 ≤ a.toInt ∧ a.toInt < n) : ∃ k, k < n ∧ a = nI k := by
  refine ⟨a.toInt.toNat, by omega, Int32.toInt_inj.mp ?_⟩
  have := Int32.toInt_lt a
  rw [nI_toInt (show a.toInt.toNat < 2 ^ 31 by omega)]
  omega
theorem zi_in1 {a : Int32} {n : Nat} (h : 0 ≤ a.toInt ∧ a.toInt ≤ n) : ∃ k, k ≤ n ∧ a = nI k := by
  obtain ⟨k, h1, h2⟩ := zi_in (a := a) (n := n + 1) ⟨h.1, by omega⟩
  exact ⟨k, by omega, h2⟩
theorem MS_uq {ch : Nat → List Int32} {wt : Nat → Int32} {P : Nat → Prop} {o q : Option (Nat × Nat)} (a : MS ch wt P o) (b : MS ch wt P q) : o = q := by
  cases o with
  | none =>
    cases q with
    | none => rfl
    | some y =>
      obtain ⟨b1, b2, b3, b4, b5, -⟩ := b.2 y.1 y.2 rfl
      exact absurd (a.1 rfl _ _ b1 b2 b3 b4) b5
  | some x =>
    cases q with
    | none =>
      obtain ⟨a1, a2, a3, a4, a5, -⟩ := a.2 x.1 x.2 rfl
      exact absurd (b.1 rfl _ _ a1 a2 a3 a4) a5
    | some y =>
      obtain ⟨a1, a2, a3, a4, a5, a6⟩ := a.2 x.1 x.2 rfl
      obtain ⟨b1, b2, b3, b4, b5, b6⟩ := b.2 y.1 y.2 rfl
      have p := a6 _ _ b1 b2 b3 b4 b5
      have r := b6 _ _ a1 a2 a3 a4 a5
      have e1 : x.1 = y.1 := Nat.le_antisymm p.1 r.1
      have e2 : x.2 = y.2 := Nat.le_antisymm (p.2 e1.symm) (r.2 e1)
      rw [show x = (x.1, x.2) from rfl, show y = (y.1, y.2) from rfl, e1, e2]
