/-! A call on both sides: payments, images, texts. -/
theorem ca_215 : ∀ f, f < 12 → ca_c f ≠ 215 := by decide +kernel
theorem ca_bd : ∀ f, f < 12 → 166 ≤ ca_c f ∧ ca_c f ≤ 184 := by decide +kernel
theorem CI.pay {A : MD} {LQ : Nat → LD} {nl : Nat} {B : Nat → Int32} {t X : Nat} {H : List Int32} {P P2 : PD} {IM : Nat → Option IMD} {G : Nat} {h g : mm_H} (C : CI A LQ nl B t X H P IM G h) (e : ∀ c, c ≠ 61 → c ≠ 63 → c ≠ 64 → g.1 c = h.1 c) (e61 : ∀ j, j ≠ 5 → g.1 61 j = h.1 61 j) (r : g.2.2 = h.2.2) (v : viewPC g P2) : CI A LQ nl B t X H P2 IM G g ∧ hiS h g := ⟨⟨C.st (fun c hc => e c (by omega) (by omega) (by omega)) (by rw [e 0 (by decide) (by decide) (by decide)]) r, by rw [e 0 (by decide) (by decide) (by decide), e 1 (by decide) (by decide) (by decide)]; exact C.2.1, by rw [e61 6 (by decide)]; exact C.2.2.1, by rw [e61 2 (by decide), e 62 (by decide) (by decide) (by decide)]; exact C.2.2.2.1, v, imC_e (fun c _ _ => e c (by omega) (by omega) (by omega)) C.2.2.2.2.2⟩, fun c hc => e c (by omega) (by omega) (by omega)⟩
theorem MI.pay {A : MD} {LQ : Nat → LD} {nl : Nat} {B : Nat → Int32} {t X : Nat} {H : List Int32} {P P2 : PD} {IM : Nat → Option IMD} {h g : mm_H} (M : MI A LQ nl B t X H P IM h) (e : ∀ c, c ≠ 166 → c ≠ 183 → c ≠ 184 → g.1 c = h.1 c) (e166 : ∀ j, j ≠ 5 → g.1 166 j = h.1 166 j) (v : viewPM g P2) : MI A LQ nl B t X H P2 IM g := by
  refine ⟨⟨M.1.1, ?_, by rw [e 165 (by decide) (by decide) (by decide)]; exact M.1.2.2.1, M.1.2.2.2.1, fun r hr => ⟨(M.1.2.2.2.2 r hr).1, lawM_c (M.1.2.2.2.2 r hr).2 (fun c q1 q2 => e c (by omega) (by omega) (by omega))⟩⟩, by rw [e 165 (by decide) (by decide) (by decide)]; exact M.2.1, by rw [e 165 (by decide) (by decide) (by decide), e 185 (by decide) (by decide) (by decide)]; exact M.2.2.1, by rw [e166 6 (by decide)]; exact M.2.2.2.1, by rw [e166 4 (by decide), e 182 (by decide) (by decide) (by decide)]; exact M.2.2.2.2.1, v, imM_e (e 214 (by decide) (by decide) (by decide)) (e 215 (by decide) (by decide) (by decide)) M.2.2.2.2.2.2⟩
  have w := M.1.2.1
  unfold viewM at *
  rw [e166 0 (by decide), e166 1 (by decide), e166 2 (by decide), e166 3 (by decide), e 167 (by decide) (by decide) (by decide), e 168 (by decide) (by decide) (by decide), e 169 (by decide) (by decide) (by decide), e 170 (by decide) (by decide) (by decide), e 171 (by decide) (by decide) (by decide), e 172 (by decide) (by decide) (by decide), e 180 (by decide) (by decide) (by decide), e 181 (by decide) (by decide) (by decide)]
  exact w
set_option maxRecDepth 100000 in
theorem st_payment (d N : Nat) (h : mm_H) (I : IV N h) (hN : N ≤ 512) (c s : Int32) : STEP d N YX10_payment YX11_payment [.int c, .int s] h := by
  obtain ⟨A, LQ, nl, B, t, X, H, P, IM, G, C, M, D, hG⟩ := I
  have hA : mdOK A := C.1.1
  have h12 := hA.1
  have h4 := hA.2.1
  have hV := C.1.2.1
  have wV := M.1.2.1
  have hV0 := hV.1
  have hV7 := hV.2.1
  have wV0 := wV.1
  have wV1 := wV.2.1
  have hq := C.2.2.2.2.1
  have h10 : pdn P ≤ 10 := D.2.2.2.2.1.1
  by_cases c1 : c = -1
  · subst c1
    refine STEP.of (A2 := A) (LQ2 := LQ) (nl2 := nl) (B2 := B) (t2 := t) (X2 := X) (H2 := H) (P2 := (0, pdk P, pds P)) (IM2 := IM) (G2 := G) M 0 ⟨_, mX10_payment_0 (d + 29) h s, C.pay (fun c h1 h2 h3 => by dsimp only; rw [mm_up_n h1]) (fun j hj => by dsimp only; rw [mm_up_k hj]) rfl ⟨by dsimp only; rw [mm_up_e]; rfl, fun i hi => absurd hi (Nat.not_lt_zero i)⟩⟩ (fun g I => ⟨_, mX11_payment_0 (d + 28) g s, I.pay (fun c h1 h2 h3 => by dsimp only; rw [mm_up_n h1]) (fun j hj => by dsimp only; rw [mm_up_k hj]) ⟨by dsimp only; rw [mm_up_e]; rfl, fun i hi => absurd hi (Nat.not_lt_zero i)⟩, lo_up (by decide)⟩) ⟨D.1, D.2.1, D.2.2.1, D.2.2.2.1, ⟨Nat.zero_le 10, fun i hi => absurd hi (Nat.not_lt_zero i)⟩, D.2.2.2.2.2⟩ (by omega)
  · by_cases hc : (0 ≤ c.toInt ∧ c.toInt < mk A) ∧ (0 < mk A ∧ 0 ≤ s.toInt ∧ s.toInt < (2 ^ mn A : Nat)) ∧ ¬ s = 0 ∧ pdn P < 10
    · have m1 := mX10_payment_t (d + 29) h (mn A) (mk A) (pdn P) hV0 h12 hV7 h4 hq.1 h10 c s c1 hc
      have m2 : ∀ g, MI A LQ nl B t X H P IM g → _ := fun g I => mX11_payment_t (d + 28) g (mn A) (mk A) (pdn P) I.1.2.1.1 h12 I.1.2.1.2.1 h4 I.2.2.2.2.2.1.1 h10 c s c1 hc
      obtain ⟨q1, q2, q3, q4⟩ := hc
      obtain ⟨k, hk, rfl⟩ := zi_in q1
      obtain ⟨a, ha, rfl⟩ := zi_in (n := 2 ^ mn A) q2.2
      obtain ⟨P2, eP2⟩ : ∃ P2 : PD, P2 = (pdn P + 1, fun i => if i = pdn P then k else pdk P i, fun i => if i = pdn P then a else pds P i) := ⟨_, rfl⟩
      have vv : ∀ (I J : Nat → Nat → Int32) (u v w : Nat), u ≠ v → u ≠ w → v ≠ w → J = mm_up (mm_up (mm_up I u (pdn P) (nI k)) v (pdn P) (nI a)) w 5 (nI (pdn P + 1)) → (∀ i, i < pdn P → I u i = nI (pdk P i) ∧ I v i = nI (pds P i)) → J w 5 = nI (pdn P2) ∧ ∀ i, i < pdn P2 → J u i = nI (pdk P2 i) ∧ J v i = nI (pds P2 i) := by
        intro I J u v w h1 h2 h3 eJ hI
        rw [eP2, eJ]
        refine ⟨by rw [mm_up_e]; rfl, fun i hi => ?_⟩
        have hi' : i < pdn P + 1 := hi
        show _ = nI (if i = pdn P then k else pdk P i) ∧ _ = nI (if i = pdn P then a else pds P i)
        rw [mm_up_n h2, mm_up_n h3, mm_up_n h1]
        by_cases z : i = pdn P
        · rw [if_pos z, if_pos z, z, mm_up_e, mm_up_e]; exact ⟨rfl, rfl⟩
        · rw [if_neg z, if_neg z, mm_up_k z, mm_up_k z, mm_up_n (fun y => h1 y.symm)]; exact hI i (by omega)
      have pok : pdOK A P2 := by
        rw [eP2]
        refine ⟨by show pdn P + 1 ≤ 10; omega, fun i hi => ?_⟩
        have hi' : i < pdn P + 1 := hi
        show (if i = pdn P then k else pdk P i) < mk A ∧ (if i = pdn P then a else pds P i) < 2 ^ mn A
        by_cases z : i = pdn P
        · rw [if_pos z, if_pos z]; exact ⟨hk, ha⟩
        · rw [if_neg z, if_neg z]; exact D.2.2.2.2.1.2 i (by omega)
      refine STEP.of (A2 := A) (LQ2 := LQ) (nl2 := nl) (B2 := B) (t2 := t) (X2 := X) (H2 := H) (P2 := P2) (IM2 := IM) (G2 := G) M _ ⟨_, m1, C.pay (fun c h1 h2 h3 => by dsimp only; rw [mm_up_n h1, mm_up_n h3, mm_up_n h2]) (fun j hj => by dsimp only; rw [mm_up_k hj, mm_up_n (by decide), mm_up_n (by decide)]) rfl (vv h.1 _ 63 64 61 (by decide) (by decide) (by decide) rfl hq.2)⟩ (fun g I => ⟨_, m2 g I, I.pay (fun c h1 h2 h3 => by dsimp only; rw [mm_up_n h1, mm_up_n h3, mm_up_n h2]) (fun j hj => by dsimp only; rw [mm_up_k hj, mm_up_n (by decide), mm_up_n (by decide)]) (vv g.1 _ 183 184 166 (by decide) (by decide) (by decide) rfl I.2.2.2.2.2.1.2), (((frm.refl _ g).up (c := 183) (by decide)).up (c := 184) (by decide)).up (c := 166) (by decide)⟩) ⟨D.1, D.2.1, D.2.2.1, D.2.2.2.1, pok, D.2.2.2.2.2⟩ (by omega)
    · exact STEP.no C M D hG (-2) (mX10_payment_f (d + 29) h (mn A) (mk A) (pdn P) hV0 h12 hV7 h4 hq.1 h10 c s c1 hc) (mX11_payment_f (d + 28) h (mn A) (mk A) (pdn P) wV0 h12 wV1 h4 M.2.2.2.2.2.1.1 h10 c s c1 hc)
set_option maxRecDepth 100000 in
theorem st_image (d N : Nat) (h : mm_H) (I : IV N h) (hN : N ≤ 512) (k : Int32) : STEP d N YX10_image YX11_image [.int k] h := by
  obtain ⟨A, LQ, nl, B, t, X, H, P, IM, G, C, M, D, hG⟩ := I
  have hA : mdOK A := C.1.1
  have h12 := hA.1
  have h4 := hA.2.1
  have hV := C.1.2.1
  have wV := M.1.2.1
  have hV0 := hV.1
  have hV7 := hV.2.1
  have wV0 := wV.1
  have wV1 := wV.2.1
  by_cases hc : 0 ≤ k.toInt ∧ k.toInt < 4
  · obtain ⟨k, hk, rfl⟩ := zi_in (n := 4) hc
    obtain ⟨q, eq⟩ : ∃ q : IMD, q = (A, H, P, X) := ⟨_, rfl⟩
    have hq : imOK q := by rw [eq]; exact ⟨hA, D.1, D.2.2.2.1, D.2.2.2.2.1, D.2.2.1⟩
    have v0 : vS h.1 61 q := by rw [eq]; exact ⟨hV, C.2.2.2.1.1, C.2.2.2.1.2, C.2.2.2.2.1, C.2.2.1⟩
    obtain ⟨g1, m1, r1, p1, p2, p3, p4, p5, p6, p7, p8, p9⟩ := mX10_image_t (d + 27) h k hk
    rw [hV0] at m1
    have v1 : vS g1.1 (74 + 13 * k) q := vS_cp (o := 61) hq p1 p2 p3 p4 p6 p7 p8 v0
    have i1 : imC g1.1 (fun i => if i = k then some q else IM i) := by
      intro i hi
      by_cases z : i = k
      · dsimp only; rw [if_pos z, z]; exact ⟨p5, v1⟩
      · dsimp only; rw [if_neg z]
        have old := C.2.2.2.2.2 i hi
        cases e : IM i with
        | none => rw [e] at old; rw [p9 _ (by omega)]; exact old
        | some y => rw [e] at old; exact ⟨by rw [p9 _ (by omega)]; exact old.1, vS_e (fun c h1 h2 => p9 c (by omega)) old.2⟩
    refine STEP.of (A2 := A) (LQ2 := LQ) (nl2 := nl) (B2 := B) (t2 := t) (X2 := X) (H2 := H) (P2 := P) (IM2 := fun i => if i = k then some q else IM i) (G2 := G) M (nI (mn A)) ⟨g1, m1, ⟨C.st (fun c hc => p9 c (by omega)) (by rw [p9 0 (by omega)]) (by rw [r1]), ?_, ?_, ?_, ?_, i1⟩, fun c hc => p9 c (by omega)⟩ (fun g I => ?_) ⟨D.1, D.2.1, D.2.2.1, D.2.2.2.1, D.2.2.2.2.1, fun i y hy => ?_⟩ (by omega)
    · rw [p9 0 (by omega), p9 1 (by omega)]; exact C.2.1
    · rw [p9 61 (by omega)]; exact C.2.2.1
    · rw [p9 61 (by omega), p9 62 (by omega)]; exact C.2.2.2.1
    · exact viewPC_c C.2.2.2.2.1 (p9 61 (by omega)) (p9 63 (by omega)) (p9 64 (by omega))
    · obtain ⟨g2, m2, c1, c2, c3, c4, c5, c6, c7⟩ := mX11_image_t (d + 28) g k hk
      rw [I.1.2.1.1] at m2
      have u0 : vR (fun f j => g.1 (ca_c f) j) q := by rw [eq]; exact ⟨I.1.2.1, I.2.2.2.2.1.1, I.2.2.2.2.1.2, I.2.2.2.2.2.1, I.2.2.2.1⟩
      have o : ∀ c, c ≠ 165 → c ≠ 214 → c ≠ 215 → g2.1 c = g.1 c := fun c a1 a2 a3 => by rw [c7 c a1 a2]; dsimp only; rw [mm_up_n a3]
      have j165 : ∀ j, j ≠ 66 → j ≠ 67 → g2.1 165 j = g.1 165 j := fun j a1 a2 => by rw [c4 j a1 a2]; dsimp only; rw [mm_up_n (by decide)]
      have g215 : ∀ i, g2.1 215 i = if i = k then 1 else g.1 215 i := fun i => by rw [c7 215 (by decide) (by decide)]; dsimp only; rw [mm_up_s]; rfl
      have i2 : imM g2.1 (fun i => if i = k then some q else IM i) := by
        intro i hi
        by_cases z : i = k
        · dsimp only; rw [if_pos z, z]
          refine ⟨by rw [g215, if_pos rfl], vR_c hq (fun f j hf hj => ?_) u0⟩
          rw [c5 f j hf hj]; dsimp only
          rw [mm_up_n (ca_215 f hf)]
        · dsimp only; rw [if_neg z]
          have old := I.2.2.2.2.2.2 i hi
          cases e : IM i with
          | none => rw [e] at old; rw [g215, if_neg z]; exact old
          | some y =>
            rw [e] at old
            refine ⟨by rw [g215, if_neg z]; exact old.1, vR_c (D.2.2.2.2.2 i y e) (fun f j hf hj => ?_) old.2⟩
            have mo := ca_mono 11 (by decide) f (by omega)
            have : ca_o (11 + 1) = 119 := rfl
            rw [c6 _ (by omega)]; dsimp only
            rw [mm_up_n (by decide)]
      refine ⟨g2, m2, ⟨stM_hi I.1 (fun c hc => o c (by omega) (by omega) (by omega)) (j165 24 (by decide) (by decide)), by rw [j165 29 (by decide) (by decide)]; exact I.2.1, by rw [j165 20 (by decide) (by decide), o 185 (by decide) (by decide) (by decide)]; exact I.2.2.1, by rw [o 166 (by decide) (by decide) (by decide)]; exact I.2.2.2.1, by rw [o 166 (by decide) (by decide) (by decide), o 182 (by decide) (by decide) (by decide)]; exact I.2.2.2.2.1, viewPM_c I.2.2.2.2.2.1 (o 166 (by decide) (by decide) (by decide)) (o 183 (by decide) (by decide) (by decide)) (o 184 (by decide) (by decide) (by decide)), i2⟩, ⟨fun c hc => ?_, by rw [c1]⟩⟩
      simp only [pHi, decide_eq_false_iff_not] at hc
      exact ⟨o c (by omega) (by omega) (by omega), by rw [c1]⟩
    · dsimp only at hy
      by_cases z : i = k
      · rw [if_pos z] at hy; cases hy; exact hq
      · rw [if_neg z] at hy; exact D.2.2.2.2.2 i y hy
  · exact STEP.no C M D hG (-1) (mX10_image_f (d + 30) h k hc) (mX11_image_f (d + 29) h k hc)
set_option maxRecDepth 100000 in
theorem st_back (d N : Nat) (h : mm_H) (I : IV N h) (hN : N ≤ 512) (k : Int32) : STEP d N YX10_back YX11_back [.int k] h := by
  obtain ⟨A, LQ, nl, B, t, X, H, P, IM, G, C, M, D, hG⟩ := I
  have hA : mdOK A := C.1.1
  have h12 := hA.1
  have h4 := hA.2.1
  have hV := C.1.2.1
  have wV := M.1.2.1
  have hV0 := hV.1
  have hV7 := hV.2.1
  have wV0 := wV.1
  have wV1 := wV.2.1
  by_cases hc : 0 ≤ k.toInt ∧ k.toInt < 4
  · obtain ⟨k, hk, rfl⟩ := zi_in (n := 4) hc
    have oC := C.2.2.2.2.2 k hk
    have oM := M.2.2.2.2.2.2 k hk
    cases e : IM k with
    | none =>
      rw [e] at oC oM
      exact STEP.no C M D hG (-1) (mX10_back_n (d + 30) h k hk oC) (mX11_back_n (d + 29) h k hk oM)
    | some q =>
      rw [e] at oC
      have hq := D.2.2.2.2.2 k q e
      obtain ⟨p1, v1⟩ := oC
      obtain ⟨g1, m1, r1, s1, s2, s3⟩ := mX10_back_t (d + 27) h k hk (by rw [p1]; decide)
      rw [v1.1.1] at m1
      obtain ⟨t1, t2, t3, t4, t5, t6, t7, t8⟩ := s1
      have w1 : vS g1.1 61 q := vS_cp (o := 74 + 13 * k) hq t1 t2 t3 t4 t6 t7 t8 v1
      have vw : viewC g1 q.1 := w1.1
      have S1 : stC q.1 LQ nl g1 G := C.fg hq.1 vw (fun c hc => s3 c (by omega) (by omega)) (by rw [s3 0 (by decide) (by decide)]) (by rw [s2]; rfl) (by rw [s2]; rfl) (by rw [r1])
      refine STEP.of (A2 := q.1) (LQ2 := LQ) (nl2 := nl) (B2 := B) (t2 := t) (X2 := q.2.2.2) (H2 := q.2.1) (P2 := q.2.2.1) (IM2 := IM) (G2 := G) M (nI (mn q.1)) ⟨g1, m1, ⟨S1, by rw [s3 0 (by decide) (by decide), s3 1 (by decide) (by decide)]; exact C.2.1, w1.2.2.2.2, ⟨w1.2.1, w1.2.2.1⟩, w1.2.2.2.1, imC_e (fun c _ _ => s3 c (by omega) (by omega)) C.2.2.2.2.2⟩, fun c hc => s3 c (by omega) (by omega)⟩ (fun g I => ?_) ⟨hq.2.1, D.2.1, hq.2.2.2.2, hq.2.2.1, hq.2.2.2.1, D.2.2.2.2.2⟩ (by omega)
      have oI := I.2.2.2.2.2.2 k hk
      rw [e] at oI
      obtain ⟨u1, u2⟩ := oI
      obtain ⟨g2, m2, c1, c2, c3, c4, c5, c7⟩ := mX11_back_t (d + 28) g k hk (by rw [u1]; decide)
      have e0 : g.1 214 (130 * k) = nI (mn q.1) := u2.1.1
      rw [e0] at m2
      have z2 : vR (fun f j => g2.1 (ca_c f) j) q := vR_c hq (fun f j hf hj => c5 f j hf hj) u2
      have o : ∀ c, c ≠ 165 → (∀ f, f < 12 → c ≠ ca_c f) → g2.1 c = g.1 c := c7
      have no : ∀ c, c < 165 ∨ c = 185 ∨ (186 ≤ c ∧ c ≤ 192) ∨ c = 214 ∨ c = 215 → g2.1 c = g.1 c := fun c hc => o c (by omega) (fun f hf w => by have := ca_bd f hf; omega)
      refine ⟨g2, m2, ⟨⟨hq.1, z2.1, by rw [c4 24 (by decide) (by decide)]; exact I.1.2.2.1, I.1.2.2.2.1, fun r hr => ⟨(I.1.2.2.2.2 r hr).1, lawM_c (I.1.2.2.2.2 r hr).2 (fun c q1 q2 => no c (by omega))⟩⟩, by rw [c4 29 (by decide) (by decide)]; exact I.2.1, by rw [c4 20 (by decide) (by decide), no 185 (by decide)]; exact I.2.2.1, z2.2.2.2.2, ⟨z2.2.1, z2.2.2.1⟩, z2.2.2.2.1, imM_e (no 214 (by decide)) (no 215 (by decide)) I.2.2.2.2.2.2⟩, ⟨fun c hc => ?_, by rw [c1]⟩⟩
      simp only [pHi, decide_eq_false_iff_not] at hc
      exact ⟨no c (by omega), by rw [c1]⟩
  · exact STEP.no C M D hG (-1) (mX10_back_f (d + 30) h k hc) (mX11_back_f (d + 29) h k hc)
set_option maxRecDepth 100000 in
theorem st_mint (d N : Nat) (h : mm_H) (I : IV N h) (hN : N ≤ 512) : STEP d N YX10_mint YX11_mint [] h := by
  obtain ⟨A, LQ, nl, B, t, X, H, P, IM, G, C, M, D, hG⟩ := I
  have hA : mdOK A := C.1.1
  have h12 := hA.1
  have h4 := hA.2.1
  have hV := C.1.2.1
  have wV := M.1.2.1
  have hV0 := hV.1
  have hV7 := hV.2.1
  have wV0 := wV.1
  have wV1 := wV.2.1
  have h400 := D.2.1.1
  have hby := D.2.1.2
  obtain ⟨x1, g1, m1, f1, z1, R1⟩ := mX10_mint (d + 22) h A LQ nl G C.1 B t h400 C.2.1.1 C.2.1.2
  have n1 : ∀ c, c = 1 ∨ (18 ≤ c ∧ c ≤ 60) ∨ (62 ≤ c ∧ c ≤ 64) ∨ (74 ≤ c ∧ c ≠ 135) → g1.1 c = h.1 c := fun c hc => f1.1.i (by simp only [pCM, Bool.or_eq_false_iff, beq_eq_false_iff_ne, rg, decide_eq_false_iff_not]; omega)
  have t0 : g1.1 0 1 = nI 0 ∧ ∀ i, i < 0 → g1.1 1 i = B i := ⟨z1, fun i hi => absurd hi (Nat.not_lt_zero i)⟩
  cases e : mrun B t 30 A0 0 0 (sk B t 0) with
  | error c =>
    rw [e] at R1
    obtain ⟨ex, S1, o1⟩ := R1
    refine STEP.of (A2 := A) (LQ2 := LQ) (nl2 := nl) (B2 := B) (t2 := 0) (X2 := X) (H2 := H) (P2 := P) (IM2 := IM) (G2 := G) M (-2 - nI c) ⟨g1, by rw [ex] at m1; exact m1, ⟨S1, t0, by rw [o1 61 (by decide)]; exact C.2.2.1, by rw [o1 61 (by decide), o1 62 (by decide)]; exact C.2.2.2.1, viewPC_c C.2.2.2.2.1 (o1 61 (by decide)) (o1 63 (by decide)) (o1 64 (by decide)), imC_e (fun c h1 h2 => n1 c (by omega)) C.2.2.2.2.2⟩, fun c hc => n1 c (by omega)⟩ (fun g I => ?_) ⟨D.1, ⟨Nat.zero_le 400, hby⟩, D.2.2⟩ (by omega)
    obtain ⟨x2, g2, m2, f2, z2, R2⟩ := mX11_mint (d + 23) g A LQ nl I.1 B t h400 I.2.2.1.1 I.2.2.1.2 hby
    rw [e] at R2
    obtain ⟨ey, S2, o2⟩ := R2
    rw [ey] at m2
    have n2 : ∀ c, c ≠ 165 → (c < 166 ∨ 181 < c) → g2.1 c = g.1 c := fun c h1 h2 => f2.1.i (by simp only [pMM, Bool.or_eq_false_iff, beq_eq_false_iff_ne, rg, decide_eq_false_iff_not]; omega)
    refine ⟨g2, m2, ⟨S2, by rw [f2.2 29 (by unfold mm_fj; decide)]; exact I.2.1, ⟨z2, fun i hi => absurd hi (Nat.not_lt_zero i)⟩, by rw [o2]; exact I.2.2.2.1, by rw [o2, n2 182 (by decide) (by decide)]; exact I.2.2.2.2.1, viewPM_c I.2.2.2.2.2.1 o2 (n2 183 (by decide) (by decide)) (n2 184 (by decide) (by decide)), imM_e (n2 214 (by decide) (by decide)) (n2 215 (by decide) (by decide)) I.2.2.2.2.2.2⟩, f2.1.mono (fun c hc => ?_)⟩
    simp only [pHi, pMM, Bool.or_eq_false_iff, beq_eq_false_iff_ne, rg, decide_eq_false_iff_not] at hc ⊢
    omega
  | ok A2 =>
    rw [e] at R1
    obtain ⟨ex, S1, o1, o2, o3⟩ := R1
    obtain ⟨hA2, hz2, hk2⟩ := mrun_ok 30 A0 0 0 (sk B t 0) A2 A0_ok.1 A0_ok.2 e
    refine STEP.of (A2 := A2) (LQ2 := LQ) (nl2 := nl) (B2 := B) (t2 := 0) (X2 := X) (H2 := []) (P2 := (0, pdk P, pds P)) (IM2 := IM) (G2 := G) M (nI (mn A2)) ⟨g1, by rw [ex] at m1; exact m1, ⟨S1, t0, by rw [o3]; exact C.2.2.1, ⟨o1, fun j hj => absurd hj (Nat.not_lt_zero j)⟩, ⟨o2, fun j hj => absurd hj (Nat.not_lt_zero j)⟩, imC_e (fun c h1 h2 => n1 c (by omega)) C.2.2.2.2.2⟩, fun c hc => n1 c (by omega)⟩ (fun g I => ?_) ⟨fun c hc => ?_, ⟨Nat.zero_le 400, hby⟩, D.2.2.1, ⟨Nat.zero_le 12, fun i j _ hj => absurd hj (Nat.not_lt_zero j)⟩, ⟨Nat.zero_le 10, fun i hi => absurd hi (Nat.not_lt_zero i)⟩, D.2.2.2.2.2⟩ (by omega)
    · obtain ⟨x2, g2, m2, f2, z2, R2⟩ := mX11_mint (d + 23) g A LQ nl I.1 B t h400 I.2.2.1.1 I.2.2.1.2 hby
      rw [e] at R2
      obtain ⟨ey, S2, w1, w2, w3⟩ := R2
      rw [ey] at m2
      have n2 : ∀ c, c ≠ 165 → (c < 166 ∨ 181 < c) → g2.1 c = g.1 c := fun c h1 h2 => f2.1.i (by simp only [pMM, Bool.or_eq_false_iff, beq_eq_false_iff_ne, rg, decide_eq_false_iff_not]; omega)
      refine ⟨g2, m2, ⟨S2, by rw [f2.2 29 (by unfold mm_fj; decide)]; exact I.2.1, ⟨z2, fun i hi => absurd hi (Nat.not_lt_zero i)⟩, by rw [w3]; exact I.2.2.2.1, ⟨w1, fun j hj => absurd hj (Nat.not_lt_zero j)⟩, ⟨w2, fun j hj => absurd hj (Nat.not_lt_zero j)⟩, imM_e (n2 214 (by decide) (by decide)) (n2 215 (by decide) (by decide)) I.2.2.2.2.2.2⟩, f2.1.mono (fun c hc => ?_)⟩
      simp only [pHi, pMM, Bool.or_eq_false_iff, beq_eq_false_iff_ne, rg, decide_eq_false_iff_not] at hc ⊢
      omega
    · rw [(hz2 c hc).2]; decide
set_option maxRecDepth 100000 in
theorem st_law (d N : Nat) (h : mm_H) (I : IV N h) (hN : N ≤ 512) : STEP d N YX10_law YX11_law [] h := by
  obtain ⟨A, LQ, nl, B, t, X, H, P, IM, G, C, M, D, hG⟩ := I
  have hA : mdOK A := C.1.1
  have h12 := hA.1
  have h4 := hA.2.1
  have hV := C.1.2.1
  have wV := M.1.2.1
  have hV0 := hV.1
  have hV7 := hV.2.1
  have wV0 := wV.1
  have wV1 := wV.2.1
  have h400 := D.2.1.1
  have hby := D.2.1.2
  have hn6 := C.1.2.2.2.1
  by_cases h6 : nl = 6
  · subst h6
    exact STEP.no C M D hG (-1) (mX10_law_6 (d + 30) h C.1.2.2.1) (mX11_law_6 (d + 30) h M.1.2.2.1)
  · have hnl : nl < 6 := by omega
    obtain ⟨x1, g1, m1, f1, z1, R1⟩ := mX10_law (d + 3) h A LQ nl G C.1 hnl B t h400 C.2.1.1 C.2.1.2
    have n1 : ∀ c, c = 1 ∨ 61 ≤ c → g1.1 c = h.1 c := fun c hc => (f1.1 c (by simp only [pCL, Bool.or_eq_false_iff, beq_eq_false_iff_ne, rg, decide_eq_false_iff_not]; omega)).1
    have t0 : g1.1 0 1 = nI 0 ∧ ∀ i, i < 0 → g1.1 1 i = B i := ⟨z1, fun i hi => absurd hi (Nat.not_lt_zero i)⟩
    have rest : ∀ LQ2 nl2, stC A LQ2 nl2 g1 G → CI A LQ2 nl2 B 0 X H P IM G g1 := fun LQ2 nl2 S1 => ⟨S1, t0, by rw [n1 61 (by decide)]; exact C.2.2.1, by rw [n1 61 (by decide), n1 62 (by decide)]; exact C.2.2.2.1, viewPC_c C.2.2.2.2.1 (n1 61 (by decide)) (n1 63 (by decide)) (n1 64 (by decide)), imC_e (fun c h1 h2 => n1 c (by omega)) C.2.2.2.2.2⟩
    have restM : ∀ (g g2 : mm_H), MI A LQ nl B t X H P IM g → mL_fr g g2 → g2.1 165 20 = 0 → ∀ LQ2 nl2, stM A LQ2 nl2 g2 → MI A LQ2 nl2 B 0 X H P IM g2 ∧ loS g g2 := by
      intro g g2 I f2 z2 LQ2 nl2 S2
      have n2 : ∀ c, c ≠ 165 → (c < 186 ∨ 193 < c) → g2.1 c = g.1 c := fun c h1 h2 => f2.1.i (by simp only [pMl, Bool.or_eq_false_iff, beq_eq_false_iff_ne, rg, decide_eq_false_iff_not]; omega)
      refine ⟨⟨S2, by rw [f2.2 29 (by decide)]; exact I.2.1, ⟨z2, fun i hi => absurd hi (Nat.not_lt_zero i)⟩, by rw [n2 166 (by decide) (by decide)]; exact I.2.2.2.1, by rw [n2 166 (by decide) (by decide), n2 182 (by decide) (by decide)]; exact I.2.2.2.2.1, viewPM_c I.2.2.2.2.2.1 (n2 166 (by decide) (by decide)) (n2 183 (by decide) (by decide)) (n2 184 (by decide) (by decide)), imM_e (n2 214 (by decide) (by decide)) (n2 215 (by decide) (by decide)) I.2.2.2.2.2.2⟩, f2.1.mono (fun c hc => ?_)⟩
      simp only [pHi, pMl, Bool.or_eq_false_iff, beq_eq_false_iff_ne, rg, decide_eq_false_iff_not] at hc ⊢
      omega
    have dd : DI A B 0 X H P IM := ⟨D.1, ⟨Nat.zero_le 400, hby⟩, D.2.2⟩
    cases e : zl_q B t 14 (sk B t 0, 0, []) [] with
    | error c =>
      rw [e] at R1
      obtain ⟨ex, S1⟩ := R1
      rw [ex] at m1
      refine STEP.of (A2 := A) (LQ2 := LQ) (nl2 := nl) (B2 := B) (t2 := 0) (X2 := X) (H2 := H) (P2 := P) (IM2 := IM) (G2 := G) M (-2 - nI c) ⟨g1, m1, rest LQ nl S1, fun c hc => n1 c (by omega)⟩ (fun g I => ?_) dd (by omega)
      obtain ⟨x2, g2, m2, f2, z2, R2⟩ := mX11_law (d + 18) g A LQ nl I.1 hnl I.2.1 B t h400 I.2.2.1.1 I.2.2.1.2 hby
      rw [e] at R2
      obtain ⟨ey, S2⟩ := R2
      rw [ey] at m2
      exact ⟨g2, m2, restM g g2 I f2 z2 LQ nl S2⟩
    | ok q =>
      rw [e] at R1
      obtain ⟨ex, S1⟩ := R1
      rw [ex] at m1
      refine STEP.of (A2 := A) (LQ2 := upQ LQ nl (zl_LD q)) (nl2 := nl + 1) (B2 := B) (t2 := 0) (X2 := X) (H2 := H) (P2 := P) (IM2 := IM) (G2 := G) M (nI nl) ⟨g1, m1, rest _ _ S1, fun c hc => n1 c (by omega)⟩ (fun g I => ?_) dd (by omega)
      obtain ⟨x2, g2, m2, f2, z2, R2⟩ := mX11_law (d + 18) g A LQ nl I.1 hnl I.2.1 B t h400 I.2.2.1.1 I.2.2.1.2 hby
      rw [e] at R2
      obtain ⟨ey, S2⟩ := R2
      rw [ey] at m2
      exact ⟨g2, m2, restM g g2 I f2 z2 _ _ S2⟩
