/-! A call on both sides: what changes the mint, payments, images; texts. -/
theorem CI.mint {A A2 : MD} {LQ LQ2 : Nat → LD} {nl nl2 : Nat} {B : Nat → Int32} {t X : Nat} {H : List Int32} {P : PD} {IM : Nat → Option IMD} {G G2 : Nat} {h g : mm_H} (C : CI A LQ nl B t X H P IM G h) (S : stC A2 LQ2 nl2 g G2) (e : ∀ c, c = 1 ∨ (61 ≤ c ∧ c ≤ 64) ∨ (74 ≤ c ∧ c ≤ 125) → g.1 c = h.1 c) (e0 : g.1 0 1 = h.1 0 1) : CI A2 LQ2 nl2 B t X H P IM G2 g := ⟨S, by rw [e0, e 1 (by decide)]; exact C.2.1, by rw [e 61 (by decide)]; exact C.2.2.1, by rw [e 61 (by decide), e 62 (by decide)]; exact C.2.2.2.1, viewPC_c C.2.2.2.2.1 (e 61 (by decide)) (e 63 (by decide)) (e 64 (by decide)), imC_e (fun c _ _ => e c (by omega)) C.2.2.2.2.2⟩
theorem MI.mint {A A2 : MD} {LQ LQ2 : Nat → LD} {nl nl2 : Nat} {B : Nat → Int32} {t X : Nat} {H : List Int32} {P : PD} {IM : Nat → Option IMD} {h g : mm_H} (M : MI A LQ nl B t X H P IM h) (S : stM A2 LQ2 nl2 g) (e : ∀ c, c = 166 ∨ (182 ≤ c ∧ c ≤ 185) ∨ c = 214 ∨ c = 215 → g.1 c = h.1 c) (e20 : g.1 165 20 = h.1 165 20) (e29 : g.1 165 29 = h.1 165 29) : MI A2 LQ2 nl2 B t X H P IM g := ⟨S, by rw [e29]; exact M.2.1, by rw [e20, e 185 (by decide)]; exact M.2.2.1, by rw [e 166 (by decide)]; exact M.2.2.2.1, by rw [e 166 (by decide), e 182 (by decide)]; exact M.2.2.2.2.1, viewPM_c M.2.2.2.2.2.1 (e 166 (by decide)) (e 183 (by decide)) (e 184 (by decide)), imM_e (e 214 (by decide)) (e 215 (by decide)) M.2.2.2.2.2.2⟩
/-- the mint with other holders, notes, falls -/
def setH (A : MD) (f : Nat → Int32) : MD := (fun i => match i with | 4 => f | i => mr A i, A.2)
def setN (A : MD) (f : Nat → Int32) : MD := (fun i => match i with | 0 => f | i => mr A i, A.2)
def setL (A : MD) (f : Nat → Int32) : MD := (fun i => match i with | 5 => f | i => mr A i, A.2)
theorem fall_bd {x b : Int32} (hx : 0 ≤ x.toInt ∧ x.toInt ≤ 9999) (hb : b = 0 ∨ b = 1) (hc : b = 1 → x < 9999) : 0 ≤ (x + b).toInt ∧ (x + b).toInt ≤ 9999 := by
  obtain ⟨k, h1, rfl⟩ := zi_in1 (n := 9999) hx
  rcases hb with rfl | rfl
  · rw [show nI k + 0 = nI k by simp, nI_toInt (show k < 2 ^ 31 by omega)]; omega
  · have := hc rfl
    rw [Int32.lt_iff_toInt_lt, ti_9999, nI_toInt (show k < 2 ^ 31 by omega)] at this
    rw [show nI k + 1 = nI (k + 1) from (nI_succ k).symm, nI_toInt (show k + 1 < 2 ^ 31 by omega)]; omega
set_option maxRecDepth 100000 in
theorem st_give (d N : Nat) (h : mm_H) (I : IV N h) (hN : N ≤ 512) (c p : Int32) : STEP d N YX10_give YX11_give [.int c, .int p] h := by
  obtain ⟨A, LQ, nl, B, t, X, H, P, IM, G, C, M, D, hG⟩ := I
  have hA : mdOK A := C.1.1
  have h12 := hA.1
  have h4 := hA.2.1
  have hV := C.1.2.1
  have wV := M.1.2.1
  have hV0 := hV.1
  have hV7 := hV.2.1
  have wV0 := wV.1
  have wV1 := wV.2.1
  by_cases hc : (0 ≤ c.toInt ∧ c.toInt < mn A) ∧ (0 ≤ p.toInt ∧ p.toInt < 6)
  · obtain ⟨q1, q2⟩ := hc
    obtain ⟨j, hj, rfl⟩ := zi_in q1
    have m1 := mX10_give_t (d + 29) h (mn A) hV0 h12 j hj p q2
    rw [(hV.2.2.2.2.1 j hj).2.2.2.2.1] at m1
    have n1 : ∀ c, c ≠ 70 → (mm_up h.1 70 j p, h.2.1, h.2.2).1 c = h.1 c := fun c hc => by dsimp only; rw [mm_up_n hc]
    obtain ⟨g1, eg1⟩ : ∃ g : mm_H, g = (mm_up h.1 70 j p, h.2.1, h.2.2) := ⟨_, rfl⟩
    rw [← eg1] at m1 n1
    have e70 : ∀ c, c < mn A → g1.1 70 c = upd (mr A 4) j p c := fun c hc => by
      rw [eg1]; dsimp only
      rw [mm_up_s]
      unfold upd
      split
      · rfl
      · exact (hV.2.2.2.2.1 c hc).2.2.2.2.1
    have vw : viewC g1 (setH A (upd (mr A 4) j p)) := by
      obtain ⟨v1, v2, v3, v4, v5, v6⟩ := hV
      unfold viewC
      rw [n1 65 (by decide), n1 66 (by decide), n1 67 (by decide), n1 68 (by decide), n1 69 (by decide), n1 71 (by decide), n1 72 (by decide), n1 73 (by decide)]
      exact ⟨v1, v2, v3, v4, fun c hc => ⟨(v5 c hc).1, (v5 c hc).2.1, (v5 c hc).2.2.1, (v5 c hc).2.2.2.1, e70 c hc, (v5 c hc).2.2.2.2.2⟩, v6⟩
    have r1 : g1.2.2 = h.2.2 := by rw [eg1]
    have S1 : stC (setH A (upd (mr A 4) j p)) LQ nl g1 G := by
      obtain ⟨-, -, h6, hn6, hL, ⟨c1, r0, c2, c3, c4⟩, hcG⟩ := C.1
      have lw : ∀ r, r < nl → lawC g1.1 (25 + 6 * r) (LQ r) := fun r hr => lawC_c (hL r hr).2 (fun c q1 q2 => n1 c (by have := C.1.2.2.2.1; omega))
      refine ⟨hA, vw, by rw [n1 0 (by decide)]; exact h6, hn6, fun r hr => ⟨(hL r hr).1, lw r hr⟩, ⟨by rw [n1 138 (by decide)]; exact c1, r0, c2, by rw [r1]; exact c3, ?_⟩, gcn_c hcG (by rw [n1 135 (by decide)]) (n1 142 (by decide)) (n1 143 (by decide))⟩
      rcases c4 with w | ⟨k, w1, w2, w3⟩
      · exact Or.inl (by rw [n1 135 (by decide)]; exact w)
      · refine Or.inr ⟨k, w1, w2, ?_, by rw [r1]; exact w3.2.1, by rw [n1 135 (by decide)]; exact w3.2.2⟩
        obtain ⟨⟨x1, x2, x3, x4, x5, m, W, x6⟩, -⟩ := w3
        exact ⟨vw, lw r0 w2, by rw [r1]; exact x3, by rw [n1 145 (by decide)]; exact x4, kinv_c (A := A) x5 (n1 146 (by decide)) (n1 147 (by decide)), m, W, cinv_f (n := mn A) (ch := chd A (LQ r0) k) (wt := wtA A) x6 (by rw [n1 135 (by decide)]) (n1 136 (by decide)) (n1 138 (by decide)) (n1 139 (by decide)) (n1 140 (by decide)) (n1 141 (by decide)) (fun b _ => Or.inr (by rw [n1 137 (by decide)]))⟩
    refine STEP.of (A2 := setH A (upd (mr A 4) j p)) (LQ2 := LQ) (nl2 := nl) (B2 := B) (t2 := t) (X2 := X) (H2 := H) (P2 := P) (IM2 := IM) (G2 := G) M (mr A 4 j) ⟨g1, m1, C.mint S1 (fun c hc => n1 c (by omega)) (by rw [n1 0 (by decide)]), fun c hc => n1 c (by omega)⟩ (fun g I => ?_) D (by omega)
    have m2 := mX11_give_t (d + 28) g (mn A) I.1.2.1.1 h12 j hj p q2
    rw [(I.1.2.1.2.2.2.2.1 j hj).2.2.2.2.1] at m2
    have n2 : ∀ c, c ≠ 180 → (mm_up g.1 180 j p, g.2.1, g.2.2).1 c = g.1 c := fun c hc => by dsimp only; rw [mm_up_n hc]
    refine ⟨_, m2, I.mint ⟨hA, ?_, by rw [n2 165 (by decide)]; exact I.1.2.2.1, I.1.2.2.2.1, fun r hr => ⟨(I.1.2.2.2.2 r hr).1, lawM_c (I.1.2.2.2.2 r hr).2 (fun c q1 q2 => n2 c (by omega))⟩⟩ (fun c hc => n2 c (by omega)) (by rw [n2 165 (by decide)]) (by rw [n2 165 (by decide)]), lo_up (by decide)⟩
    obtain ⟨v1, v2, v3, v4, v5, v6⟩ := I.1.2.1
    unfold viewM
    rw [n2 166 (by decide), n2 167 (by decide), n2 168 (by decide), n2 169 (by decide), n2 170 (by decide), n2 171 (by decide), n2 172 (by decide), n2 181 (by decide)]
    refine ⟨v1, v2, v3, v4, fun c hc => ⟨(v5 c hc).1, (v5 c hc).2.1, (v5 c hc).2.2.1, (v5 c hc).2.2.2.1, ?_, (v5 c hc).2.2.2.2.2⟩, v6⟩
    show mm_up g.1 180 j p 180 c = upd (mr A 4) j p c
    rw [mm_up_s]
    unfold upd
    split
    · rfl
    · exact (v5 c hc).2.2.2.2.1
  · exact STEP.no C M D hG (-1) (mX10_give_f (d + 29) h (mn A) hV0 h12 c p hc) (mX11_give_f (d + 28) h (mn A) wV0 h12 c p hc)
set_option maxRecDepth 100000 in
theorem st_retune (d N : Nat) (h : mm_H) (I : IV N h) (hN : N ≤ 512) (c p : Int32) : STEP d N YX10_retune YX11_retune [.int c, .int p] h := by
  obtain ⟨A, LQ, nl, B, t, X, H, P, IM, G, C, M, D, hG⟩ := I
  have hA : mdOK A := C.1.1
  have h12 := hA.1
  have h4 := hA.2.1
  have hV := C.1.2.1
  have wV := M.1.2.1
  have hV0 := hV.1
  have hV7 := hV.2.1
  have wV0 := wV.1
  have wV1 := wV.2.1
  by_cases hc : (0 ≤ c.toInt ∧ c.toInt < mn A) ∧ (0 ≤ p.toInt ∧ p.toInt ≤ 2400)
  · obtain ⟨q1, q2⟩ := hc
    obtain ⟨j, hj, rfl⟩ := zi_in q1
    have m1 := mX10_retune_t (d + 29) h (mn A) hV0 h12 j hj p q2
    rw [(hV.2.2.2.2.1 j hj).1] at m1
    obtain ⟨g1, eg1⟩ : ∃ g : mm_H, g = (mm_up (mm_up h.1 66 j p) 135 3 (-1), h.2.1, h.2.2) := ⟨_, rfl⟩
    rw [← eg1] at m1
    have n1 : ∀ c, c ≠ 66 → c ≠ 135 → g1.1 c = h.1 c := fun c h1 h2 => by rw [eg1]; dsimp only; rw [mm_up_n h2, mm_up_n h1]
    have vw : viewC g1 (setN A (upd (mr A 0) j p)) := by
      obtain ⟨v1, v2, v3, v4, v5, v6⟩ := hV
      unfold viewC
      rw [n1 65 (by decide) (by decide), n1 67 (by decide) (by decide), n1 68 (by decide) (by decide), n1 69 (by decide) (by decide), n1 70 (by decide) (by decide), n1 71 (by decide) (by decide), n1 72 (by decide) (by decide), n1 73 (by decide) (by decide)]
      refine ⟨v1, v2, v3, v4, fun c hc => ⟨?_, (v5 c hc).2⟩, v6⟩
      show g1.1 66 c = upd (mr A 0) j p c
      rw [eg1]; dsimp only
      rw [mm_up_n (by decide), mm_up_s]
      unfold upd
      split
      · rfl
      · exact (v5 c hc).1
    have S1 : stC (setN A (upd (mr A 0) j p)) LQ nl g1 G := C.fg hA vw (fun c hc => n1 c (by omega) (by omega)) (by rw [n1 0 (by decide) (by decide)]) (by rw [eg1]; dsimp only; rw [mm_up_e]) (by rw [eg1]; dsimp only; rw [mm_up_k (by decide), mm_up_n (by decide)]) (by rw [eg1])
    refine STEP.of (A2 := setN A (upd (mr A 0) j p)) (LQ2 := LQ) (nl2 := nl) (B2 := B) (t2 := t) (X2 := X) (H2 := H) (P2 := P) (IM2 := IM) (G2 := G) M (mr A 0 j) ⟨g1, m1, C.mint S1 (fun c hc => n1 c (by omega) (by omega)) (by rw [n1 0 (by decide) (by decide)]), fun c hc => n1 c (by omega) (by omega)⟩ (fun g I => ?_) D (by omega)
    have m2 := mX11_retune_t (d + 28) g (mn A) I.1.2.1.1 h12 j hj p q2
    rw [(I.1.2.1.2.2.2.2.1 j hj).1] at m2
    have n2 : ∀ c, c ≠ 167 → (mm_up g.1 167 j p, g.2.1, g.2.2).1 c = g.1 c := fun c hc => by dsimp only; rw [mm_up_n hc]
    refine ⟨_, m2, I.mint ⟨hA, ?_, by rw [n2 165 (by decide)]; exact I.1.2.2.1, I.1.2.2.2.1, fun r hr => ⟨(I.1.2.2.2.2 r hr).1, lawM_c (I.1.2.2.2.2 r hr).2 (fun c q1 q2 => n2 c (by omega))⟩⟩ (fun c hc => n2 c (by omega)) (by rw [n2 165 (by decide)]) (by rw [n2 165 (by decide)]), lo_up (by decide)⟩
    obtain ⟨v1, v2, v3, v4, v5, v6⟩ := I.1.2.1
    unfold viewM
    rw [n2 166 (by decide), n2 168 (by decide), n2 169 (by decide), n2 170 (by decide), n2 171 (by decide), n2 172 (by decide), n2 180 (by decide), n2 181 (by decide)]
    refine ⟨v1, v2, v3, v4, fun c hc => ⟨?_, (v5 c hc).2⟩, v6⟩
    show mm_up g.1 167 j p 167 c = upd (mr A 0) j p c
    rw [mm_up_s]
    unfold upd
    split
    · rfl
    · exact (v5 c hc).1
  · exact STEP.no C M D hG (-1) (mX10_retune_f (d + 29) h (mn A) hV0 h12 c p hc) (mX11_retune_f (d + 28) h (mn A) wV0 h12 c p hc)
set_option maxRecDepth 100000 in
theorem st_fall (d N : Nat) (h : mm_H) (I : IV N h) (hN : N ≤ 512) (c : Int32) : STEP d N YX10_fall YX11_fall [.int c] h := by
  obtain ⟨A, LQ, nl, B, t, X, H, P, IM, G, C, M, D, hG⟩ := I
  have hA : mdOK A := C.1.1
  have h12 := hA.1
  have h4 := hA.2.1
  have hV := C.1.2.1
  have wV := M.1.2.1
  have hV0 := hV.1
  have hV7 := hV.2.1
  have wV0 := wV.1
  have wV1 := wV.2.1
  by_cases hc : 0 < mk A ∧ 0 ≤ c.toInt ∧ c.toInt < (2 ^ mn A : Nat)
  · obtain ⟨q0, q1⟩ := hc
    obtain ⟨a, ha, rfl⟩ := zi_in (n := 2 ^ mn A) q1
    have cf : ∀ j, j < mn A → h.1 71 j = mr A 5 j := fun j hj => (hV.2.2.2.2.1 j hj).2.2.2.2.2
    have gf : ∀ g, MI A LQ nl B t X H P IM g → ∀ j, j < mn A → g.1 181 j = mr A 5 j := fun g I j hj => (I.1.2.1.2.2.2.2.1 j hj).2.2.2.2.2
    by_cases hcan : sp_can (mr A 5) (nI a) (mn A)
    · have m1 := mX10_fall_t (d + 29) h (mn A) (mk A) hV0 h12 hV7 h4 q0 a ha ((sp_can_c cf).mpr hcan)
      obtain ⟨g1, eg1⟩ : ∃ g : mm_H, g = (mm_up (mm_row h.1 71 (sp_drop (h.1 71) (nI a) (mn A))) 135 3 (-1), h.2.1, h.2.2) := ⟨_, rfl⟩
      rw [← eg1] at m1
      have n1 : ∀ c, c ≠ 71 → c ≠ 135 → g1.1 c = h.1 c := fun c h1 h2 => by rw [eg1]; dsimp only; rw [mm_up_n h2, mm_row_n h1]
      have dr : ∀ f : Nat → Int32, (∀ j, j < mn A → f j = mr A 5 j) → ∀ c, c < mn A → sp_drop f (nI a) (mn A) c = sp_drop (mr A 5) (nI a) (mn A) c := fun f hf c hc => by
        unfold sp_drop; rw [if_pos hc, if_pos hc, hf c hc]
      have vw : viewC g1 (setL A (sp_drop (mr A 5) (nI a) (mn A))) := by
        obtain ⟨v1, v2, v3, v4, v5, v6⟩ := hV
        unfold viewC
        rw [n1 65 (by decide) (by decide), n1 66 (by decide) (by decide), n1 67 (by decide) (by decide), n1 68 (by decide) (by decide), n1 69 (by decide) (by decide), n1 70 (by decide) (by decide), n1 72 (by decide) (by decide), n1 73 (by decide) (by decide)]
        refine ⟨v1, v2, v3, v4, fun c hc => ⟨(v5 c hc).1, (v5 c hc).2.1, (v5 c hc).2.2.1, (v5 c hc).2.2.2.1, (v5 c hc).2.2.2.2.1, ?_⟩, v6⟩
        show g1.1 71 c = sp_drop (mr A 5) (nI a) (mn A) c
        rw [eg1]; dsimp only
        rw [mm_up_n (by decide), mm_row_s]
        exact dr _ cf c hc
      have S1 : stC (setL A (sp_drop (mr A 5) (nI a) (mn A))) LQ nl g1 G := C.fg hA vw (fun c hc => n1 c (by omega) (by omega)) (by rw [n1 0 (by decide) (by decide)]) (by rw [eg1]; dsimp only; rw [mm_up_e]) (by rw [eg1]; dsimp only; rw [mm_up_k (by decide), mm_row_n (by decide)]) (by rw [eg1])
      have fl2 : flOK (setL A (sp_drop (mr A 5) (nI a) (mn A))) := fun c hc => by
        have hc' : c < mn A := hc
        show 0 ≤ (sp_drop (mr A 5) (nI a) (mn A) c).toInt ∧ (sp_drop (mr A 5) (nI a) (mn A) c).toInt ≤ 9999
        unfold sp_drop
        rw [if_pos hc']
        exact fall_bd (D.1 c hc') (sp_bit_01 _ _) (fun z => hcan c hc' z)
      refine STEP.of (A2 := setL A (sp_drop (mr A 5) (nI a) (mn A))) (LQ2 := LQ) (nl2 := nl) (B2 := B) (t2 := t) (X2 := X) (H2 := H) (P2 := P) (IM2 := IM) (G2 := G) M _ ⟨g1, m1, C.mint S1 (fun c hc => n1 c (by omega) (by omega)) (by rw [n1 0 (by decide) (by decide)]), fun c hc => n1 c (by omega) (by omega)⟩ (fun g I => ?_) ⟨fl2, D.2⟩ (by omega)
      have m2 := mX11_fall_t (d + 28) g (mn A) (mk A) I.1.2.1.1 h12 I.1.2.1.2.1 h4 q0 a ha (fun z => (can_iff D.1).mp hcan ((sp_canI_c (gf g I)).mp z))
      have n2 : ∀ c, c ≠ 181 → (mm_row g.1 181 (sp_drop (g.1 181) (nI a) (mn A)), g.2.1, g.2.2).1 c = g.1 c := fun c hc => by dsimp only; rw [mm_row_n hc]
      refine ⟨_, m2, I.mint ⟨hA, ?_, by rw [n2 165 (by decide)]; exact I.1.2.2.1, I.1.2.2.2.1, fun r hr => ⟨(I.1.2.2.2.2 r hr).1, lawM_c (I.1.2.2.2.2 r hr).2 (fun c q1 q2 => n2 c (by omega))⟩⟩ (fun c hc => n2 c (by omega)) (by rw [n2 165 (by decide)]) (by rw [n2 165 (by decide)]), (frm.refl _ g).row (by decide)⟩
      obtain ⟨v1, v2, v3, v4, v5, v6⟩ := I.1.2.1
      unfold viewM
      rw [n2 166 (by decide), n2 167 (by decide), n2 168 (by decide), n2 169 (by decide), n2 170 (by decide), n2 171 (by decide), n2 172 (by decide), n2 180 (by decide)]
      refine ⟨v1, v2, v3, v4, fun c hc => ⟨(v5 c hc).1, (v5 c hc).2.1, (v5 c hc).2.2.1, (v5 c hc).2.2.2.1, (v5 c hc).2.2.2.2.1, ?_⟩, v6⟩
      show mm_row g.1 181 (sp_drop (g.1 181) (nI a) (mn A)) 181 c = sp_drop (mr A 5) (nI a) (mn A) c
      rw [mm_row_s]
      exact dr _ (gf g I) c hc
    · exact STEP.no C M D hG (-1) (mX10_fall_n (d + 29) h (mn A) (mk A) hV0 h12 hV7 h4 q0 a ha (fun z => hcan ((sp_can_c cf).mp z))) (mX11_fall_n (d + 28) h (mn A) (mk A) wV0 h12 wV1 h4 q0 a ha ((sp_canI_c (gf h M)).mpr (Classical.not_not.mp (fun z => hcan ((can_iff D.1).mpr z)))))
  · exact STEP.no C M D hG (-1) (mX10_fall_f (d + 29) h (mn A) (mk A) hV0 h12 hV7 h4 c hc) (mX11_fall_f (d + 28) h (mn A) (mk A) wV0 h12 wV1 h4 c hc)
set_option maxRecDepth 100000 in
theorem st_done (d N : Nat) (h : mm_H) (I : IV N h) (hN : N ≤ 512) (r k a b p : Int32) : STEP d N YX10_done YX11_done [.int r, .int k, .int a, .int b, .int p] h := by
  obtain ⟨A, LQ, nl, B, t, X, H, P, IM, G, C, M, D, hG⟩ := I
  have hA : mdOK A := C.1.1
  have h12 := hA.1
  have h4 := hA.2.1
  have hV := C.1.2.1
  have wV := M.1.2.1
  have hV0 := hV.1
  have hV7 := hV.2.1
  have wV0 := wV.1
  have wV1 := wV.2.1
  by_cases hb : dealP A nl r k a b ∧ (0 ≤ p.toInt ∧ p.toInt ≤ 9999)
  · obtain ⟨⟨q1, q2, q3⟩, q4⟩ := hb
    obtain ⟨r, hr, rfl⟩ := zi_in q1
    obtain ⟨k, hk, rfl⟩ := zi_in q2
    obtain ⟨S, eS⟩ : ∃ S, S = pyB A (LQ r) k a b p := ⟨_, rfl⟩
    by_cases hf : S.1 = 13 ∨ ¬ sp_can (mr A 5) (nI S.2.1 ||| nI S.2.2) (mn A)
    · obtain ⟨g1, m1, f1, S1⟩ := mX10_done_f (d + 23) h A LQ nl G C.1 (by omega) r k hr hk a b p q3 q4 (by rw [← eS]; exact hf)
      exact STEP.ask C M D (G2 := G + 2) (by omega) _ ⟨g1, m1, f1, S1⟩ (fun g I => mX11_done_f (d + 20) g A LQ nl I.1 r k hr hk a b p q3 q4 (by rw [← eS]; exact hf.imp id (fun z => Classical.not_not.mp (fun y => z ((can_iff D.1).mpr y)))))
    · have hf1 : ¬ S.1 = 13 := fun z => hf (Or.inl z)
      have hf2 : sp_can (mr A 5) (nI S.2.1 ||| nI S.2.2) (mn A) := Classical.not_not.mp (fun z => hf (Or.inr z))
      obtain ⟨g1, m1, f1, S1⟩ := mX10_done_t (d + 23) h A LQ nl G C.1 (by omega) r k hr hk a b p q3 q4 (by rw [← eS]; exact hf1) (by rw [← eS]; exact hf2)
      rw [← eS] at m1 S1
      have n1 : ∀ c, (c < 135 ∨ 164 < c) → c ≠ 70 → c ≠ 71 → g1.1 c = h.1 c := fun c h1 h2 h3 => (f1.1 c (by simp only [rg, decide_eq_false_iff_not]; omega) h2 h3).1
      have fl2 : flOK (mdD A S a b) := fun c hc => by
        have hc' : c < mn A := hc
        have e : mr (mdD A S a b) 5 c = mr A 5 c + sp_bit (nI S.2.1 ||| nI S.2.2) c := by
          simp only [mdD, mr]
          first | exact if_pos hc' | (rw [if_neg (by decide), if_pos rfl]; exact if_pos hc')
        rw [e]
        exact fall_bd (D.1 c hc') (sp_bit_01 _ _) (fun z => hf2 c hc' z)
      refine STEP.of (A2 := mdD A S a b) (LQ2 := LQ) (nl2 := nl) (B2 := B) (t2 := t) (X2 := X) (H2 := H) (P2 := P) (IM2 := IM) (G2 := G + 2) M _ ⟨g1, m1, C.mint S1 (fun c hc => n1 c (by omega) (by omega) (by omega)) (by rw [n1 0 (by decide) (by decide) (by decide)]), fun c hc => n1 c (by omega) (by omega) (by omega)⟩ (fun g I => ?_) ⟨fl2, D.2⟩ (by omega)
      obtain ⟨g2, m2, f2, S2⟩ := mX11_done_t (d + 20) g A LQ nl I.1 r k hr hk a b p q3 q4 (by rw [← eS]; exact hf1) (by rw [← eS]; exact (can_iff D.1).mp hf2)
      rw [← eS] at m2 S2
      refine ⟨g2, m2, I.mint S2 (fun c hc => f2.1.i (by simp only [pMd, pMs, Bool.or_eq_false_iff, beq_eq_false_iff_ne, rg, decide_eq_false_iff_not]; omega)) (f2.2 20 (by decide)) (f2.2 29 (by decide)), f2.1.mono (fun c hc => ?_)⟩
      simp only [pHi, pMd, pMs, Bool.or_eq_false_iff, beq_eq_false_iff_ne, rg, decide_eq_false_iff_not] at hc ⊢
      omega
  · exact STEP.no C M D hG (-1) (mX10_done_n (d + 28) h A LQ nl G C.1 r k a b p hb) (mX11_done_n (d + 27) h A LQ nl M.1 r k a b p hb)
