/-! A call on both sides: what changes something. -/
theorem hi_up {h : mm_H} {a k : Nat} {x : Int32} (ha : a < 165) : hiS h (mm_up h.1 a k x, h.2.1, h.2.2) := fun c hc => by dsimp only; rw [mm_up_n (by omega)]
theorem lo_up {h : mm_H} {a k : Nat} {x : Int32} (ha : 165 ≤ a) : loS h (mm_up h.1 a k x, h.2.1, h.2.2) := (frm.refl _ h).up (by simp only [pHi, decide_eq_true_eq]; exact ha)
/-- the class's side, where the mint stays and chords are kept -/
theorem CI.st {A : MD} {LQ : Nat → LD} {nl : Nat} {B : Nat → Int32} {t X : Nat} {H : List Int32} {P : PD} {IM : Nat → Option IMD} {G : Nat} {h g : mm_H} (C : CI A LQ nl B t X H P IM G h) (e : ∀ c, (25 ≤ c ∧ c ≤ 60) ∨ (65 ≤ c ∧ c ≤ 73) ∨ (135 ≤ c ∧ c ≤ 154) → g.1 c = h.1 c) (e0 : g.1 0 6 = h.1 0 6) (r : g.2.2 = h.2.2) : stC A LQ nl g G := by
  obtain ⟨hA, hV, h6, hn6, hL, ⟨c1, r0, c2, c3, c4⟩, hcG⟩ := C.1
  have vw : viewC g A := by
    unfold viewC
    rw [e 65 (by decide), e 66 (by decide), e 67 (by decide), e 68 (by decide), e 69 (by decide), e 70 (by decide), e 71 (by decide), e 72 (by decide), e 73 (by decide)]
    exact hV
  have lw : ∀ r, r < nl → lawC g.1 (25 + 6 * r) (LQ r) := fun r hr => lawC_c (hL r hr).2 (fun c q1 q2 => e c (by omega))
  refine ⟨hA, vw, by rw [e0]; exact h6, hn6, fun r hr => ⟨(hL r hr).1, lw r hr⟩, ⟨by rw [e 138 (by decide)]; exact c1, r0, c2, by rw [r]; exact c3, ?_⟩, gcn_c hcG (by rw [e 135 (by decide)]) (e 142 (by decide)) (e 143 (by decide))⟩
  rcases c4 with w | ⟨k, w1, w2, w3⟩
  · exact Or.inl (by rw [e 135 (by decide)]; exact w)
  · refine Or.inr ⟨k, w1, w2, ?_, by rw [r]; exact w3.2.1, by rw [e 135 (by decide)]; exact w3.2.2⟩
    obtain ⟨⟨x1, x2, x3, x4, x5, m, W, x6⟩, -⟩ := w3
    exact ⟨vw, lw r0 w2, by rw [r]; exact x3, by rw [e 145 (by decide)]; exact x4, kinv_c x5 (e 146 (by decide)) (e 147 (by decide)), m, W, cinv_f x6 (by rw [e 135 (by decide)]) (e 136 (by decide)) (e 138 (by decide)) (e 139 (by decide)) (e 140 (by decide)) (e 141 (by decide)) (fun b _ => Or.inr (by rw [e 137 (by decide)]))⟩
/-- where the mint changes and chords are forgotten -/
theorem CI.fg {A A2 : MD} {LQ : Nat → LD} {nl : Nat} {B : Nat → Int32} {t X : Nat} {H : List Int32} {P : PD} {IM : Nat → Option IMD} {G : Nat} {h g : mm_H} (C : CI A LQ nl B t X H P IM G h) (hA2 : mdOK A2) (vw : viewC g A2) (e : ∀ c, (25 ≤ c ∧ c ≤ 60) ∨ (136 ≤ c ∧ c ≤ 154) → g.1 c = h.1 c) (e0 : g.1 0 6 = h.1 0 6) (e3 : g.1 135 3 = -1) (e11 : g.1 135 11 = h.1 135 11) (r : g.2.2 = h.2.2) : stC A2 LQ nl g G := by
  obtain ⟨hA, hV, h6, hn6, hL, ⟨c1, r0, c2, c3, c4⟩, hcG⟩ := C.1
  exact ⟨hA2, vw, by rw [e0]; exact h6, hn6, fun r hr => ⟨(hL r hr).1, lawC_c (hL r hr).2 (fun c q1 q2 => e c (by omega))⟩, ⟨by rw [e 138 (by decide)]; exact c1, r0, c2, by rw [r]; exact c3, Or.inl e3⟩, gcn_c hcG e11 (e 142 (by decide)) (e 143 (by decide))⟩
set_option maxRecDepth 100000 in
theorem st_seed (d N : Nat) (h : mm_H) (I : IV N h) (hN : N ≤ 512) (x : Int32) : STEP d N YX10_seed YX11_seed [.int x] h := by
  obtain ⟨A, LQ, nl, B, t, X, H, P, IM, G, C, M, D, hG⟩ := I
  have hA : mdOK A := C.1.1
  have h12 := hA.1
  have h4 := hA.2.1
  have hV := C.1.2.1
  have wV := M.1.2.1
  have hV0 := hV.1
  have hV7 := hV.2.1
  have wV0 := wV.1
  have wV1 := wV.2.1
  by_cases hc : 0 ≤ x.toInt
  · obtain ⟨Y, hY, rfl⟩ := zi_in (a := x) (n := 2 ^ 31) ⟨hc, by have := Int32.toInt_lt x; omega⟩
    refine STEP.of (A2 := A) (LQ2 := LQ) (nl2 := nl) (B2 := B) (t2 := t) (X2 := Y) (H2 := H) (P2 := P) (IM2 := IM) (G2 := G) M (nI X) ⟨(mm_up h.1 61 6 (nI Y), h.2.1, h.2.2), ?_, ⟨?_, ?_, ?_, ?_, ?_, ?_⟩, hi_up (by decide)⟩ (fun g I => ⟨(mm_up g.1 166 6 (nI Y), g.2.1, g.2.2), ?_, ⟨?_, ?_, ?_, ?_, ?_, ?_, ?_⟩, lo_up (by decide)⟩) ⟨D.1, D.2.1, hY, D.2.2.2⟩ (by omega)
    · have := mX10_seed_t (d + 30) h (nI Y) hc
      rw [C.2.2.1] at this
      exact this
    · refine C.st (fun c hc => ?_) ?_ rfl <;> dsimp only
      · rw [mm_up_n (by omega)]
      · rw [mm_up_n (by decide)]
    · dsimp only; rw [mm_up_n (by decide), mm_up_n (by decide)]; exact C.2.1
    · dsimp only; rw [mm_up_e]
    · dsimp only; rw [mm_up_k (by decide), mm_up_n (by decide)]; exact C.2.2.2.1
    · refine ⟨?_, fun i hi => ?_⟩
      · dsimp only; rw [mm_up_k (by decide)]; exact C.2.2.2.2.1.1
      · dsimp only; rw [mm_up_n (by decide), mm_up_n (by decide)]; exact C.2.2.2.2.1.2 i hi
    · exact imC_e (fun c h1 h2 => by dsimp only; rw [mm_up_n (by omega)]) C.2.2.2.2.2
    · have := mX11_seed_t (d + 30) g (nI Y) hc
      rw [I.2.2.2.1] at this
      exact this
    · have wV := I.1.2.1
      refine ⟨hA, ?_, ?_, I.1.2.2.2.1, fun r hr => ⟨(I.1.2.2.2.2 r hr).1, lawM_c (I.1.2.2.2.2 r hr).2 (fun c q1 q2 => by dsimp only; rw [mm_up_n (by omega)])⟩⟩
      · unfold viewM at *
        dsimp only
        rw [mm_up_k (by decide), mm_up_k (by decide), mm_up_k (by decide), mm_up_k (by decide), mm_up_n (by decide), mm_up_n (by decide), mm_up_n (by decide), mm_up_n (by decide), mm_up_n (by decide), mm_up_n (by decide), mm_up_n (by decide), mm_up_n (by decide)]
        exact wV
      · dsimp only; rw [mm_up_n (by decide)]; exact I.1.2.2.1
    · dsimp only; rw [mm_up_n (by decide)]; exact I.2.1
    · dsimp only; rw [mm_up_n (by decide), mm_up_n (by decide)]; exact I.2.2.1
    · dsimp only; rw [mm_up_e]
    · dsimp only; rw [mm_up_k (by decide), mm_up_n (by decide)]; exact I.2.2.2.2.1
    · refine ⟨?_, fun i hi => ?_⟩
      · dsimp only; rw [mm_up_k (by decide)]; exact I.2.2.2.2.2.1.1
      · dsimp only; rw [mm_up_n (by decide), mm_up_n (by decide)]; exact I.2.2.2.2.2.1.2 i hi
    · exact imM_e (by dsimp only; rw [mm_up_n (by decide)]) (by dsimp only; rw [mm_up_n (by decide)]) I.2.2.2.2.2.2
  · exact STEP.no C M D hG (-1) (mX10_seed_f (d + 30) h x hc) (mX11_seed_f (d + 30) h x hc)
set_option maxRecDepth 100000 in
theorem st_forger (d N : Nat) (h : mm_H) (I : IV N h) (hN : N ≤ 512) (n g : Int32) : STEP d N YX10_forger YX11_forger [.int n, .int g] h := by
  obtain ⟨A, LQ, nl, B, t, X, H, P, IM, G, C, M, D, hG⟩ := I
  have hA : mdOK A := C.1.1
  have h12 := hA.1
  have h4 := hA.2.1
  have hV := C.1.2.1
  have wV := M.1.2.1
  have hV0 := hV.1
  have hV7 := hV.2.1
  have wV0 := wV.1
  have wV1 := wV.2.1
  by_cases hc : (1 ≤ n.toInt ∧ n.toInt ≤ 200) ∧ (1 ≤ g.toInt ∧ g.toInt ≤ 200)
  · obtain ⟨q1, q2⟩ := hc
    obtain ⟨n, hn, rfl⟩ := zi_in1 (a := n) (n := 200) ⟨by omega, q1.2⟩
    obtain ⟨g, hg, rfl⟩ := zi_in1 (a := g) (n := 200) ⟨by omega, q2.2⟩
    have hn1 : 1 ≤ n := by have := q1.1; rw [nI_toInt (show n < 2 ^ 31 by omega)] at this; omega
    have hg1 : 1 ≤ g := by have := q2.1; rw [nI_toInt (show g < 2 ^ 31 by omega)] at this; omega
    refine STEP.ask C M D (by omega) _ ⟨h, mX10_forger_t (d + 29) h n g ⟨hn1, hn⟩ ⟨hg1, hg⟩, cfr.refl h, C.1⟩ (fun k I => ⟨_, mX11_forger_t (d + 29) k n g ⟨hn1, hn⟩ ⟨hg1, hg⟩, ⟨(frm.refl _ k).row (c := 211) (by decide), fun j _ => ?_⟩⟩)
    dsimp only; rw [mm_row_n (by decide)]
  · exact STEP.no C M D hG (-1) (mX10_forger_f (d + 29) h n g hc) (mX11_forger_f (d + 29) h n g hc)
set_option maxRecDepth 100000 in
theorem st_end (d N : Nat) (h : mm_H) (I : IV N h) (hN : N ≤ 512) (n : Int32) : STEP d N YX10_end YX11_end [.int n] h := by
  obtain ⟨A, LQ, nl, B, t, X, H, P, IM, G, C, M, D, hG⟩ := I
  have hA : mdOK A := C.1.1
  have h12 := hA.1
  have h4 := hA.2.1
  have hV := C.1.2.1
  have wV := M.1.2.1
  have hV0 := hV.1
  have hV7 := hV.2.1
  have wV0 := wV.1
  have wV1 := wV.2.1
  by_cases hc : 0 ≤ n.toInt ∧ n.toInt ≤ t
  · obtain ⟨m, hm, rfl⟩ := zi_in1 hc
    have h400 := D.2.1.1
    refine STEP.of (A2 := A) (LQ2 := LQ) (nl2 := nl) (B2 := B) (t2 := m) (X2 := X) (H2 := H) (P2 := P) (IM2 := IM) (G2 := G) M (nI m) ⟨_, mX10_end_t (d + 30) h t C.2.1.1 h400 (nI m) hc, ⟨?_, ?_, ?_, ?_, ?_, ?_⟩, hi_up (by decide)⟩ (fun g I => ⟨_, mX11_end_t (d + 30) g t I.2.2.1.1 h400 (nI m) hc, ⟨?_, ?_, ?_, ?_, ?_, ?_, ?_⟩, lo_up (by decide)⟩) ⟨D.1, ⟨by omega, D.2.1.2⟩, D.2.2⟩ (by omega)
    · refine C.st (fun c hc => ?_) ?_ rfl <;> dsimp only
      · rw [mm_up_n (by omega)]
      · rw [mm_up_k (by decide)]
    · exact ⟨by dsimp only; rw [mm_up_e], fun i hi => by dsimp only; rw [mm_up_n (by decide)]; exact C.2.1.2 i (by omega)⟩
    · dsimp only; rw [mm_up_n (by decide)]; exact C.2.2.1
    · dsimp only; rw [mm_up_n (by decide), mm_up_n (by decide)]; exact C.2.2.2.1
    · exact viewPC_c C.2.2.2.2.1 (by dsimp only; rw [mm_up_n (by decide)]) (by dsimp only; rw [mm_up_n (by decide)]) (by dsimp only; rw [mm_up_n (by decide)])
    · exact imC_e (fun c h1 h2 => by dsimp only; rw [mm_up_n (by omega)]) C.2.2.2.2.2
    · exact stM_hi I.1 (fun c hc => by dsimp only; rw [mm_up_n (by omega)]) (by dsimp only; rw [mm_up_k (by decide)])
    · dsimp only; rw [mm_up_k (by decide)]; exact I.2.1
    · exact ⟨by dsimp only; rw [mm_up_e], fun i hi => by dsimp only; rw [mm_up_n (by decide)]; exact I.2.2.1.2 i (by omega)⟩
    · dsimp only; rw [mm_up_n (by decide)]; exact I.2.2.2.1
    · dsimp only; rw [mm_up_n (by decide), mm_up_n (by decide)]; exact I.2.2.2.2.1
    · exact viewPM_c I.2.2.2.2.2.1 (by dsimp only; rw [mm_up_n (by decide)]) (by dsimp only; rw [mm_up_n (by decide)]) (by dsimp only; rw [mm_up_n (by decide)])
    · exact imM_e (by dsimp only; rw [mm_up_n (by decide)]) (by dsimp only; rw [mm_up_n (by decide)]) I.2.2.2.2.2.2
  · exact STEP.no C M D hG (-1) (mX10_end_f (d + 30) h t C.2.1.1 D.2.1.1 n hc) (mX11_end_f (d + 30) h t M.2.2.1.1 D.2.1.1 n hc)
set_option maxRecDepth 100000 in
theorem st_year (d N : Nat) (h : mm_H) (I : IV N h) (hN : N ≤ 512) (m w : Int32) : STEP d N YX10_year YX11_year [.int m, .int w] h := by
  obtain ⟨A, LQ, nl, B, t, X, H, P, IM, G, C, M, D, hG⟩ := I
  have hA : mdOK A := C.1.1
  have h12 := hA.1
  have h4 := hA.2.1
  have hV := C.1.2.1
  have wV := M.1.2.1
  have hV0 := hV.1
  have hV7 := hV.2.1
  have wV0 := wV.1
  have wV1 := wV.2.1
  by_cases hc : (0 < mn A) ∧ (1 ≤ m.toInt ∧ m.toInt ≤ 500) ∧ (0 ≤ w.toInt ∧ w.toInt ≤ 2)
  · obtain ⟨q0, q1, q2⟩ := hc
    obtain ⟨m, hm, rfl⟩ := zi_in1 (a := m) (n := 500) ⟨by omega, q1.2⟩
    have hm1 : 1 ≤ m := by have := q1.1; rw [nI_toInt (show m < 2 ^ 31 by omega)] at this; omega
    obtain ⟨k, hk, rfl⟩ := zi_in1 (a := w) (n := 2) q2
    have hX := D.2.2.1
    have cw : ∀ j, j < mn A → h.1 68 j = mr A 2 j := fun j hj => (hV.2.2.2.2.1 j hj).2.2.1
    have ch : ∀ j, j < mn A → h.1 70 j = mr A 4 j := fun j hj => (hV.2.2.2.2.1 j hj).2.2.2.2.1
    have cf : ∀ j, j < mn A → h.1 71 j = mr A 5 j := fun j hj => (hV.2.2.2.2.1 j hj).2.2.2.2.2
    have ct : ∀ j, j < mn A → h.1 69 j = mr A 3 j := fun j hj => (hV.2.2.2.2.1 j hj).2.2.2.1
    have key : ∀ (x : Int32), (∃ g1 : mm_H, mm_M (d + 30) YX10_year [.ref 0, .int (nI m), .int (nI k)] h (some (.int x)) g1 ∧ g1.2 = h.2 ∧ (∀ a, (a < 126 ∨ 134 < a) → g1.1 a = h.1 a)) → (∀ g, MI A LQ nl B t X H P IM g → ∃ g2 : mm_H, mm_M (d + 30) YX11_year [.ref 165, .int (nI m), .int (nI k)] g (some (.int x)) g2 ∧ g2.2 = g.2 ∧ (∀ j, j < 12 → g2.1 180 j = g.1 180 j) ∧ (∀ j, j < 12 → g2.1 181 j = g.1 181 j) ∧ g2.1 166 = g.1 166 ∧ (∀ a, a ≠ 180 → a ≠ 181 → a ≠ 212 → a ≠ 213 → a ≠ 166 → g2.1 a = g.1 a)) → STEP d N YX10_year YX11_year [.int (nI m), .int (nI k)] h := by
      intro x hC hM
      obtain ⟨g1, m1, r1, e1⟩ := hC
      refine STEP.of (A2 := A) (LQ2 := LQ) (nl2 := nl) (B2 := B) (t2 := t) (X2 := X) (H2 := H) (P2 := P) (IM2 := IM) (G2 := G) M x ⟨g1, m1, ⟨?_, ?_, ?_, ?_, ?_, ?_⟩, fun c hc => e1 c (by omega)⟩ (fun g I => ?_) D (by omega)
      · exact C.st (fun c hc => e1 c (by omega)) (by rw [e1 0 (by decide)]) (by rw [r1])
      · rw [e1 0 (by decide), e1 1 (by decide)]; exact C.2.1
      · rw [e1 61 (by decide)]; exact C.2.2.1
      · rw [e1 61 (by decide), e1 62 (by decide)]; exact C.2.2.2.1
      · exact viewPC_c C.2.2.2.2.1 (e1 61 (by decide)) (e1 63 (by decide)) (e1 64 (by decide))
      · exact imC_e (fun c _ _ => e1 c (by omega)) C.2.2.2.2.2
      · obtain ⟨g2, m2, r2, u1, u2, u3, u4⟩ := hM g I
        have o : ∀ c, c ≠ 180 → c ≠ 181 → c ≠ 212 → c ≠ 213 → g2.1 c = g.1 c := fun c a1 a2 a3 a4 => by
          by_cases z : c = 166
          · rw [z]; exact u3
          · exact u4 c a1 a2 a3 a4 z
        have vw : viewM g2 A := by
          obtain ⟨v1, v2, v3, v4, v5, v6⟩ := I.1.2.1
          unfold viewM
          rw [u3, o 167 (by decide) (by decide) (by decide) (by decide), o 168 (by decide) (by decide) (by decide) (by decide), o 169 (by decide) (by decide) (by decide) (by decide), o 170 (by decide) (by decide) (by decide) (by decide), o 171 (by decide) (by decide) (by decide) (by decide), o 172 (by decide) (by decide) (by decide) (by decide)]
          exact ⟨v1, v2, v3, v4, fun c hc => by rw [u1 c (by omega), u2 c (by omega)]; exact v5 c hc, v6⟩
        refine ⟨g2, m2, ⟨⟨hA, vw, ?_, I.1.2.2.2.1, fun r hr => ⟨(I.1.2.2.2.2 r hr).1, lawM_c (I.1.2.2.2.2 r hr).2 (fun c q1 q2 => o c (by omega) (by omega) (by omega) (by omega))⟩⟩, ?_, ?_, ?_, ?_, ?_, ?_⟩, ⟨fun c hc => ?_, by rw [r2]⟩⟩
        · rw [o 165 (by decide) (by decide) (by decide) (by decide)]; exact I.1.2.2.1
        · rw [o 165 (by decide) (by decide) (by decide) (by decide)]; exact I.2.1
        · rw [o 165 (by decide) (by decide) (by decide) (by decide), o 185 (by decide) (by decide) (by decide) (by decide)]; exact I.2.2.1
        · rw [u3]; exact I.2.2.2.1
        · rw [u3, o 182 (by decide) (by decide) (by decide) (by decide)]; exact I.2.2.2.2.1
        · exact viewPM_c I.2.2.2.2.2.1 u3 (o 183 (by decide) (by decide) (by decide) (by decide)) (o 184 (by decide) (by decide) (by decide) (by decide))
        · exact imM_e (o 214 (by decide) (by decide) (by decide) (by decide)) (o 215 (by decide) (by decide) (by decide) (by decide)) I.2.2.2.2.2.2
        · simp only [pHi, decide_eq_false_iff_not] at hc
          exact ⟨o c (by omega) (by omega) (by omega) (by omega), by rw [r2]⟩
    have tg : ∀ g, MI A LQ nl B t X H P IM g → ∀ j, j < mn A → ¬ g.1 170 j ≤ 0 := fun g I j hj => by
      rw [(I.1.2.1.2.2.2.2.1 j hj).2.2.2.1]
      exact Int32.not_le.mpr (hA.2.2 j hj).2.1
    have gw : ∀ g, MI A LQ nl B t X H P IM g → ∀ j, j < mn A → g.1 169 j = mr A 2 j := fun g I j hj => (I.1.2.1.2.2.2.2.1 j hj).2.2.1
    have gh : ∀ g, MI A LQ nl B t X H P IM g → ∀ j, j < mn A → g.1 180 j = mr A 4 j := fun g I j hj => (I.1.2.1.2.2.2.2.1 j hj).2.2.2.2.1
    have gf : ∀ g, MI A LQ nl B t X H P IM g → ∀ j, j < mn A → g.1 181 j = mr A 5 j := fun g I j hj => (I.1.2.1.2.2.2.2.1 j hj).2.2.2.2.2
    have gt : ∀ g, MI A LQ nl B t X H P IM g → ∀ j, j < mn A → g.1 170 j = mr A 3 j := fun g I j hj => (I.1.2.1.2.2.2.2.1 j hj).2.2.2.1
    have y0 : ∀ {f f2 k k2 : Nat → Int32}, (∀ j, j < mn A → f j = f2 j) → (∀ j, j < mn A → k j = k2 j) → yr0 f k (mn A) X m = yr0 f2 k2 (mn A) X m := fun a b => sp_rich_c (fun p => sp_wheld_c a (yh_c b m)) 5
    rcases (show k = 0 ∨ k = 1 ∨ k = 2 by omega) with rfl | rfl | rfl
    · refine key (yr0 (mr A 2) (mr A 4) (mn A) X m) ?_ (fun g I => ?_)
      · have := mX10_year_0 (d + 27) h (mn A) X m hV0 h12 q0 C.2.2.1 hX ⟨hm1, hm⟩
        rw [y0 cw ch] at this; exact this
      · have := mX11_year_0 (d + 27) g (mn A) X m I.1.2.1.1 h12 q0 I.2.2.2.1 hX ⟨hm1, hm⟩ (tg g I)
        rw [y0 (gw g I) (gh g I)] at this; exact this
    · have y1 : ∀ {f f2 k k2 : Nat → Int32}, (∀ j, j < mn A → f j = f2 j) → (∀ j, j < mn A → k j = k2 j) → yr1 f k (mn A) X m = yr1 f2 k2 (mn A) X m := fun a b => by
        unfold yr1; rw [y0 a b]; exact sp_wheld_c a (yh_c b m)
      refine key (yr1 (mr A 2) (mr A 4) (mn A) X m) ?_ (fun g I => ?_)
      · have := mX10_year_1 (d + 27) h (mn A) X m hV0 h12 q0 C.2.2.1 hX ⟨hm1, hm⟩
        rw [y1 cw ch] at this; exact this
      · have := mX11_year_1 (d + 27) g (mn A) X m I.1.2.1.1 h12 q0 I.2.2.2.1 hX ⟨hm1, hm⟩ (tg g I)
        rw [y1 (gw g I) (gh g I)] at this; exact this
    · have y2 : ∀ {f f2 k k2 : Nat → Int32}, (∀ j, j < mn A → f j = f2 j) → (∀ j, j < mn A → k j = k2 j) → yr2 f k (mn A) X m = yr2 f2 k2 (mn A) X m := fun a b => sp_cracks_c (yf_c q0 a m) b
      refine key (yr2 (mr A 5) (mr A 3) (mn A) X m) ?_ (fun g I => ?_)
      · have := mX10_year_2 (d + 27) h (mn A) X m hV0 h12 q0 C.2.2.1 hX ⟨hm1, hm⟩
        rw [y2 cf ct] at this; exact this
      · have := mX11_year_2 (d + 27) g (mn A) X m I.1.2.1.1 h12 q0 I.2.2.2.1 hX ⟨hm1, hm⟩ (tg g I)
        rw [y2 (gf g I) (gt g I)] at this; exact this
  · exact STEP.no C M D hG (-1) (mX10_year_f (d + 27) h (mn A) hV0 h12 m w hc) (mX11_year_f (d + 27) h (mn A) wV0 h12 m w hc)
