/-! A call on both sides: feed, hear. -/
/-- bytes behind the tape -/
def sp_bl (ct tc tk : Nat) : List Int32 → mm_H → Nat → mm_H
  | [], h, _ => h
  | z :: l, h, t => sp_bl ct tc tk l (sp_b1 ct tc tk h t z) (t + 1)
def l20 (by_ : Int32 → Nat → Int32) (a b c e g : Int32) : List Int32 := [by_ a 0, by_ a 1, by_ a 2, by_ a 3, by_ b 0, by_ b 1, by_ b 2, by_ b 3, by_ c 0, by_ c 1, by_ c 2, by_ c 3, by_ e 0, by_ e 1, by_ e 2, by_ e 3, by_ g 0, by_ g 1, by_ g 2, by_ g 3]
theorem sp_b20_l {ct tc tk : Nat} {by_ : Int32 → Nat → Int32} {h : mm_H} {t : Nat} {a b c e g : Int32} : sp_b20 ct tc tk by_ h t a b c e g = sp_bl ct tc tk (l20 by_ a b c e g) h t := rfl
theorem sp_bl_s {ct tc tk : Nat} (hne : ct ≠ tc) : ∀ (l : List Int32) (h : mm_H) (t : Nat), (∀ i, i < l.length → (sp_bl ct tc tk l h t).1 ct (t + i) = (l.getD i 0).toInt8.toInt32) ∧ (∀ i, i < t → (sp_bl ct tc tk l h t).1 ct i = h.1 ct i) ∧ (0 < l.length → (sp_bl ct tc tk l h t).1 tc tk = nI (t + l.length)) ∧ (∀ j, j ≠ tk → (sp_bl ct tc tk l h t).1 tc j = h.1 tc j) ∧ (∀ c, c ≠ ct → c ≠ tc → (sp_bl ct tc tk l h t).1 c = h.1 c) ∧ (sp_bl ct tc tk l h t).2 = h.2 := by
  intro l
  induction l with
  | nil => intro h t; exact ⟨fun i hi => absurd hi (Nat.not_lt_zero i), fun _ _ => rfl, fun z => absurd z (Nat.lt_irrefl 0), fun _ _ => rfl, fun _ _ _ => rfl, rfl⟩
  | cons z l ih =>
    intro h t
    obtain ⟨a1, a2, a3, a4, a5, a6⟩ := ih (sp_b1 ct tc tk h t z) (t + 1)
    have b1 : (sp_b1 ct tc tk h t z).1 ct t = z.toInt8.toInt32 := by
      show mm_up (mm_up h.1 ct t z.toInt8.toInt32) tc tk (nI t + 1) ct t = _
      rw [mm_up_n hne, mm_up_e]
    have b2 : ∀ i, i ≠ t → (sp_b1 ct tc tk h t z).1 ct i = h.1 ct i := fun i hi => by
      show mm_up (mm_up h.1 ct t z.toInt8.toInt32) tc tk (nI t + 1) ct i = _
      rw [mm_up_n hne, mm_up_k hi]
    refine ⟨fun i hi => ?_, fun i hi => ?_, fun _ => ?_, fun j hj => ?_, fun c h1 h2 => ?_, ?_⟩
    · cases i with
      | zero =>
        show (sp_bl ct tc tk l (sp_b1 ct tc tk h t z) (t + 1)).1 ct t = z.toInt8.toInt32
        rw [a2 t (by omega), b1]
      | succ i =>
        rw [List.length_cons] at hi
        have := a1 i (by omega)
        rw [show t + (i + 1) = t + 1 + i by omega]
        exact this
    · show (sp_bl ct tc tk l (sp_b1 ct tc tk h t z) (t + 1)).1 ct i = h.1 ct i
      rw [a2 i (by omega), b2 i (by omega)]
    · by_cases w : 0 < l.length
      · rw [List.length_cons, show t + (l.length + 1) = t + 1 + l.length by omega]; exact a3 w
      · have : l = [] := List.length_eq_zero_iff.mp (by omega)
        subst this
        exact sp_b1_len
    · show (sp_bl ct tc tk l (sp_b1 ct tc tk h t z) (t + 1)).1 tc j = h.1 tc j
      rw [a4 j hj]
      show mm_up (mm_up h.1 ct t z.toInt8.toInt32) tc tk (nI t + 1) tc j = _
      rw [mm_up_k hj, mm_up_n (fun y => hne y.symm)]
    · show (sp_bl ct tc tk l (sp_b1 ct tc tk h t z) (t + 1)).1 c = h.1 c
      rw [a5 c h1 h2]
      show mm_up (mm_up h.1 ct t z.toInt8.toInt32) tc tk (nI t + 1) c = _
      rw [mm_up_n h2, mm_up_n h1]
    · show (sp_bl ct tc tk l (sp_b1 ct tc tk h t z) (t + 1)).2 = h.2
      rw [a6]; rfl
theorem byt_8 (x : Int8) : byt x.toInt32 := by
  have h1 := Int8.le_toInt x
  have h2 := Int8.toInt_lt x
  unfold byt
  rw [Int8.toInt_toInt32]
  omega
theorem bv_sr8 (x : BitVec 32) (s : Nat) (hs : s ≤ 24) : (x >>> s).signExtend 8 = (x.sshiftRight s).signExtend 8 := by
  apply BitVec.eq_of_getLsbD_eq
  intro i hi
  rw [BitVec.getLsbD_signExtend, BitVec.getLsbD_signExtend]
  rw [if_pos (by omega : i < 32), if_pos (by omega : i < 32)]
  rw [BitVec.getLsbD_ushiftRight, BitVec.getLsbD_sshiftRight]
  have h1 : ¬ 32 ≤ i := by omega
  have h2 : s + i < 32 := by omega
  simp [h1, h2]
  done
theorem sp_by_8 (x : Int32) : ∀ k, (sp_by x k).toInt8 = (sp_byM x k).toInt8 := by
  have key : ∀ (s : Int32) (n : Nat), n ≤ 24 → (s.toUInt32 &&& Int32.toUInt32 31).toBitVec % 32 = BitVec.ofNat 32 n → (s &&& 31).toBitVec.smod 32 = BitVec.ofNat 32 n → (sp_us x s).toInt8 = (x >>> (s &&& 31)).toInt8 := by
    intro s n hn e1 e2
    apply Int8.toBitVec_inj.mp
    have n32 : (BitVec.ofNat 32 n).toNat = n := by rw [BitVec.toNat_ofNat]; omega
    unfold sp_us
    rw [Int32.toBitVec_toInt8, Int32.toBitVec_toInt8, Int32.toBitVec_shiftRight, e2]
    show ((x.toUInt32 >>> (s.toUInt32 &&& Int32.toUInt32 31)).toBitVec).signExtend 8 = _
    rw [UInt32.toBitVec_shiftRight, e1]
    show ((x.toBitVec) >>> (BitVec.ofNat 32 n)).signExtend 8 = (x.toBitVec.sshiftRight (BitVec.ofNat 32 n).toNat).signExtend 8
    rw [BitVec.ushiftRight_eq', n32]
    exact bv_sr8 _ _ hn
  intro k
  match k with
  | 0 => exact key 24 24 (by decide) (by decide) (by decide)
  | 1 => exact key 16 16 (by decide) (by decide) (by decide)
  | 2 => exact key 8 8 (by decide) (by decide) (by decide)
  | (n + 3) => exact key 0 0 (by decide) (by decide) (by decide)
theorem l20_8 (a b c e g : Int32) (i : Nat) (hi : i < 20) : ((l20 sp_by a b c e g).getD i 0).toInt8.toInt32 = ((l20 sp_byM a b c e g).getD i 0).toInt8.toInt32 := by
  have s : ∀ x k, (sp_by x k).toInt8 = (sp_byM x k).toInt8 := sp_by_8
  rcases (show i = 0 ∨ i = 1 ∨ i = 2 ∨ i = 3 ∨ i = 4 ∨ i = 5 ∨ i = 6 ∨ i = 7 ∨ i = 8 ∨ i = 9 ∨ i = 10 ∨ i = 11 ∨ i = 12 ∨ i = 13 ∨ i = 14 ∨ i = 15 ∨ i = 16 ∨ i = 17 ∨ i = 18 ∨ i = 19 by omega) with rfl | rfl | rfl | rfl | rfl | rfl | rfl | rfl | rfl | rfl | rfl | rfl | rfl | rfl | rfl | rfl | rfl | rfl | rfl | rfl
  · exact congrArg Int8.toInt32 (s a 0)
  · exact congrArg Int8.toInt32 (s a 1)
  · exact congrArg Int8.toInt32 (s a 2)
  · exact congrArg Int8.toInt32 (s a 3)
  · exact congrArg Int8.toInt32 (s b 0)
  · exact congrArg Int8.toInt32 (s b 1)
  · exact congrArg Int8.toInt32 (s b 2)
  · exact congrArg Int8.toInt32 (s b 3)
  · exact congrArg Int8.toInt32 (s c 0)
  · exact congrArg Int8.toInt32 (s c 1)
  · exact congrArg Int8.toInt32 (s c 2)
  · exact congrArg Int8.toInt32 (s c 3)
  · exact congrArg Int8.toInt32 (s e 0)
  · exact congrArg Int8.toInt32 (s e 1)
  · exact congrArg Int8.toInt32 (s e 2)
  · exact congrArg Int8.toInt32 (s e 3)
  · exact congrArg Int8.toInt32 (s g 0)
  · exact congrArg Int8.toInt32 (s g 1)
  · exact congrArg Int8.toInt32 (s g 2)
  · exact congrArg Int8.toInt32 (s g 3)
set_option maxRecDepth 100000 in
theorem st_feed (d N : Nat) (h : mm_H) (I : IV N h) (hN : N ≤ 512) (a b c e g : Int32) : STEP d N YX10_feed YX11_feed [.int a, .int b, .int c, .int e, .int g] h := by
  obtain ⟨A, LQ, nl, B, t, X, H, P, IM, G, C, M, D, hG⟩ := I
  have hA : mdOK A := C.1.1
  have h12 := hA.1
  have h4 := hA.2.1
  have hV := C.1.2.1
  have wV := M.1.2.1
  have hV0 := hV.1
  have hV7 := hV.2.1
  have wV0 := wV.1
  have wV1 := wV.2.1
  have h400 := D.2.1.1
  by_cases hc : t + 20 ≤ 400
  · have m1 := mX10_feed_t (d + 29) h t C.2.1.1 h400 hc a b c e g
    rw [sp_b20_l] at m1
    obtain ⟨a1, a2, a3, a4, a5, a6⟩ := sp_bl_s (ct := 1) (tc := 0) (tk := 1) (by decide) (l20 sp_by a b c e g) h t
    obtain ⟨g1, eg1⟩ : ∃ g1, g1 = sp_bl 1 0 1 (l20 sp_by a b c e g) h t := ⟨_, rfl⟩
    rw [← eg1] at m1 a1 a2 a3 a4 a5 a6
    have ln : (l20 sp_by a b c e g).length = 20 := rfl
    have lm : (l20 sp_byM a b c e g).length = 20 := rfl
    rw [ln] at a1 a3
    obtain ⟨B2, eB⟩ : ∃ B2 : Nat → Int32, B2 = fun i => if t ≤ i ∧ i < t + 20 then ((l20 sp_by a b c e g).getD (i - t) 0).toInt8.toInt32 else B i := ⟨_, rfl⟩
    have t1 : g1.1 0 1 = nI (t + 20) ∧ ∀ i, i < t + 20 → g1.1 1 i = B2 i := by
      refine ⟨a3 (by decide), fun i hi => ?_⟩
      rw [eB]; dsimp only
      by_cases z : t ≤ i
      · rw [if_pos ⟨z, hi⟩]
        have := a1 (i - t) (by omega)
        rw [show t + (i - t) = i by omega] at this
        exact this
      · rw [if_neg (fun y => z y.1), a2 i (by omega)]
        exact C.2.1.2 i (by omega)
    refine STEP.of (A2 := A) (LQ2 := LQ) (nl2 := nl) (B2 := B2) (t2 := t + 20) (X2 := X) (H2 := H) (P2 := P) (IM2 := IM) (G2 := G) M (nI (t + 20)) ⟨g1, m1, ⟨C.st (fun c hc => a5 c (by omega) (by omega)) (a4 6 (by decide)) (by rw [a6]), t1, ?_, ?_, ?_, ?_⟩, fun c hc => a5 c (by omega) (by omega)⟩ (fun k I => ?_) ⟨D.1, ⟨hc, fun i => ?_⟩, D.2.2⟩ (by omega)
    · rw [a5 61 (by decide) (by decide)]; exact C.2.2.1
    · rw [a5 61 (by decide) (by decide), a5 62 (by decide) (by decide)]; exact C.2.2.2.1
    · exact viewPC_c C.2.2.2.2.1 (a5 61 (by decide) (by decide)) (a5 63 (by decide) (by decide)) (a5 64 (by decide) (by decide))
    · exact imC_e (fun c h1 h2 => a5 c (by omega) (by omega)) C.2.2.2.2.2
    · have m2 := mX11_feed_t (d + 29) k t I.2.2.1.1 h400 hc a b c e g
      rw [sp_b20_l] at m2
      obtain ⟨b1, b2, b3, b4, b5, b6⟩ := sp_bl_s (ct := 185) (tc := 165) (tk := 20) (by decide) (l20 sp_byM a b c e g) k t
      obtain ⟨g2, eg2⟩ : ∃ g2, g2 = sp_bl 185 165 20 (l20 sp_byM a b c e g) k t := ⟨_, rfl⟩
      rw [← eg2] at m2 b1 b2 b3 b4 b5 b6
      rw [lm] at b1 b3
      refine ⟨g2, m2, ⟨stM_hi I.1 (fun c hc => b5 c (by omega) (by omega)) (b4 24 (by decide)), by rw [b4 29 (by decide)]; exact I.2.1, ⟨b3 (by decide), fun i hi => ?_⟩, by rw [b5 166 (by decide) (by decide)]; exact I.2.2.2.1, by rw [b5 166 (by decide) (by decide), b5 182 (by decide) (by decide)]; exact I.2.2.2.2.1, viewPM_c I.2.2.2.2.2.1 (b5 166 (by decide) (by decide)) (b5 183 (by decide) (by decide)) (b5 184 (by decide) (by decide)), imM_e (b5 214 (by decide) (by decide)) (b5 215 (by decide) (by decide)) I.2.2.2.2.2.2⟩, ⟨fun c hc => ?_, by rw [b6]⟩⟩
      · rw [eB]; dsimp only
        by_cases z : t ≤ i
        · rw [if_pos ⟨z, hi⟩, l20_8 a b c e g (i - t) (by omega)]
          have := b1 (i - t) (by omega)
          rw [show t + (i - t) = i by omega] at this
          exact this
        · rw [if_neg (fun y => z y.1), b2 i (by omega)]
          exact I.2.2.1.2 i (by omega)
      · simp only [pHi, decide_eq_false_iff_not] at hc
        exact ⟨b5 c (by omega) (by omega), by rw [b6]⟩
    · rw [eB]; dsimp only
      split
      · exact byt_8 _
      · exact D.2.1.2 i
  · exact STEP.no C M D hG (-1) (mX10_feed_f (d + 29) h t C.2.1.1 h400 hc a b c e g) (mX11_feed_f (d + 29) h t M.2.2.1.1 h400 hc a b c e g)
/-- where a note goes -/
theorem hr_at {H : List Int32} (hH : hrdOK H) (x : Int32) : ∃ p, p ≤ H.length ∧ (∀ j, j < p → H.getD j 0 < x) ∧ ∀ j, p ≤ j → j < H.length → x ≤ H.getD j 0 := by
  have key : ∀ q, q ≤ H.length → (∀ j, j < q → H.getD j 0 < x) ∨ ∃ p, p < q ∧ (∀ j, j < p → H.getD j 0 < x) ∧ x ≤ H.getD p 0 := by
    intro q
    induction q with
    | zero => intro _; exact Or.inl (fun j hj => absurd hj (Nat.not_lt_zero j))
    | succ q ih =>
      intro hq
      rcases ih (by omega) with z | ⟨p, z1, z2⟩
      · by_cases w : H.getD q 0 < x
        · refine Or.inl (fun j hj => ?_)
          rcases (show j < q ∨ j = q by omega) with y | y
          · exact z j y
          · rw [y]; exact w
        · exact Or.inr ⟨q, by omega, z, Int32.not_lt.mp w⟩
      · exact Or.inr ⟨p, by omega, z2⟩
  rcases key H.length (Nat.le_refl _) with z | ⟨p, z1, z2, z3⟩
  · exact ⟨H.length, Nat.le_refl _, z, fun j h1 h2 => by omega⟩
  · refine ⟨p, by omega, z2, fun j h1 h2 => ?_⟩
    rcases (show j = p ∨ p < j by omega) with y | y
    · rw [y]; exact z3
    · exact Int32.le_trans z3 (Int32.le_of_lt (hH.2 p j y h2))
def hrI (H : List Int32) (p : Nat) (x : Int32) : List Int32 := H.take p ++ x :: H.drop p
theorem hrI_len {H : List Int32} {p : Nat} {x : Int32} (hp : p ≤ H.length) : (hrI H p x).length = H.length + 1 := by
  unfold hrI; rw [List.length_append, List.length_cons, List.length_take, List.length_drop]; omega
theorem hrI_at {H : List Int32} {p : Nat} {x : Int32} (hp : p ≤ H.length) (j : Nat) : (hrI H p x).getD j 0 = if j < p then H.getD j 0 else if j = p then x else H.getD (j - 1) 0 := by
  have lt : (H.take p).length = p := by rw [List.length_take]; omega
  unfold hrI
  rw [List.getD_eq_getElem?_getD, List.getD_eq_getElem?_getD, List.getD_eq_getElem?_getD]
  by_cases z : j < p
  · rw [if_pos z, List.getElem?_append_left (by omega), List.getElem?_take_of_lt z]
  · rw [if_neg z, List.getElem?_append_right (by omega), lt]
    by_cases w : j = p
    · rw [if_pos w, w, Nat.sub_self]; rfl
    · rw [if_neg w]
      obtain ⟨i, hi⟩ : ∃ i, j - p = i + 1 := ⟨j - p - 1, by omega⟩
      rw [hi, List.getElem?_cons_succ, List.getElem?_drop, show p + i = j - 1 by omega]
theorem hrI_ok {H : List Int32} {p : Nat} {x : Int32} (hH : hrdOK H) (h12 : H.length < 12) (hp : p ≤ H.length) (h1 : ∀ j, j < p → H.getD j 0 < x) (h2 : ∀ j, p ≤ j → j < H.length → x < H.getD j 0) : hrdOK (hrI H p x) := by
  refine ⟨by rw [hrI_len hp]; omega, fun i j hij hj => ?_⟩
  rw [hrI_len hp] at hj
  rw [hrI_at hp, hrI_at hp]
  by_cases a : j < p
  · rw [if_pos (by omega), if_pos a]; exact hH.2 i j hij (by omega)
  · rw [if_neg a]
    by_cases b : j = p
    · rw [if_pos b, if_pos (by omega)]; exact h1 i (by omega)
    · rw [if_neg b]
      by_cases c : i < p
      · rw [if_pos c]; exact hH.2 i (j - 1) (by omega) (by omega)
      · rw [if_neg c]
        by_cases e : i = p
        · rw [if_pos e]; exact h2 (j - 1) (by omega) (by omega)
        · rw [if_neg e]; exact hH.2 (i - 1) (j - 1) (by omega) (by omega)
theorem hrI_row {H : List Int32} {p : Nat} {x : Int32} {f : Nat → Int32} (hp : p ≤ H.length) (hf : ∀ j, j < H.length → f j = H.getD j 0) (j : Nat) (hj : j < H.length + 1) : sp_ins f p x H.length j = (hrI H p x).getD j 0 := by
  rw [hrI_at hp]
  unfold sp_ins upd sp_shf
  by_cases a : j = p
  · rw [if_pos a, if_neg (by omega), if_pos a]
  · rw [if_neg a]
    by_cases b : j < p
    · rw [if_pos b, if_neg (by omega)]; exact hf j (by omega)
    · rw [if_neg b, if_pos (by omega), if_neg a]; exact hf (j - 1) (by omega)
set_option maxRecDepth 100000 in
theorem st_hear (d N : Nat) (h : mm_H) (I : IV N h) (hN : N ≤ 512) (x : Int32) : STEP d N YX10_hear YX11_hear [.int x] h := by
  obtain ⟨A, LQ, nl, B, t, X, H, P, IM, G, C, M, D, hG⟩ := I
  have hA : mdOK A := C.1.1
  have h12 := hA.1
  have h4 := hA.2.1
  have hV := C.1.2.1
  have wV := M.1.2.1
  have hV0 := hV.1
  have hV7 := hV.2.1
  have wV0 := wV.1
  have wV1 := wV.2.1
  have hH := D.2.2.2.1
  have hq12 := hH.1
  by_cases h0 : x = -20000
  · subst h0
    refine STEP.of (A2 := A) (LQ2 := LQ) (nl2 := nl) (B2 := B) (t2 := t) (X2 := X) (H2 := []) (P2 := P) (IM2 := IM) (G2 := G) M 0 ⟨_, mX10_hear_0 (d + 29) h, ⟨C.st (fun c hc => ?_) ?_ rfl, ?_, ?_, ⟨?_, fun j hj => absurd hj (Nat.not_lt_zero j)⟩, ?_, ?_⟩, hi_up (by decide)⟩ (fun g I => ⟨_, mX11_hear_0 (d + 29) g, ⟨⟨hA, ?_, ?_, I.1.2.2.2.1, fun r hr => ⟨(I.1.2.2.2.2 r hr).1, lawM_c (I.1.2.2.2.2 r hr).2 (fun c q1 q2 => ?_)⟩⟩, ?_, ?_, ?_, ⟨?_, fun j hj => absurd hj (Nat.not_lt_zero j)⟩, ?_, ?_⟩, lo_up (by decide)⟩) ⟨D.1, D.2.1, D.2.2.1, ⟨Nat.zero_le 12, fun i j _ hj => absurd hj (Nat.not_lt_zero j)⟩, D.2.2.2.2⟩ (by omega)
    · dsimp only; rw [mm_up_n (by omega)]
    · dsimp only; rw [mm_up_n (by decide)]
    · dsimp only; rw [mm_up_n (by decide), mm_up_n (by decide)]; exact C.2.1
    · dsimp only; rw [mm_up_k (by decide)]; exact C.2.2.1
    · dsimp only; rw [mm_up_e]; rfl
    · refine ⟨?_, fun i hi => ?_⟩
      · dsimp only; rw [mm_up_k (by decide)]; exact C.2.2.2.2.1.1
      · dsimp only; rw [mm_up_n (by decide), mm_up_n (by decide)]; exact C.2.2.2.2.1.2 i hi
    · exact imC_e (fun c h1 h2 => by dsimp only; rw [mm_up_n (by omega)]) C.2.2.2.2.2
    · have wV := I.1.2.1
      unfold viewM at *
      dsimp only
      rw [mm_up_k (by decide), mm_up_k (by decide), mm_up_k (by decide), mm_up_k (by decide), mm_up_n (by decide), mm_up_n (by decide), mm_up_n (by decide), mm_up_n (by decide), mm_up_n (by decide), mm_up_n (by decide), mm_up_n (by decide), mm_up_n (by decide)]
      exact wV
    · dsimp only; rw [mm_up_n (by decide)]; exact I.1.2.2.1
    · dsimp only; rw [mm_up_n (by omega)]
    · dsimp only; rw [mm_up_n (by decide)]; exact I.2.1
    · dsimp only; rw [mm_up_n (by decide), mm_up_n (by decide)]; exact I.2.2.1
    · dsimp only; rw [mm_up_k (by decide)]; exact I.2.2.2.1
    · dsimp only; rw [mm_up_e]; rfl
    · refine ⟨?_, fun i hi => ?_⟩
      · dsimp only; rw [mm_up_k (by decide)]; exact I.2.2.2.2.2.1.1
      · dsimp only; rw [mm_up_n (by decide), mm_up_n (by decide)]; exact I.2.2.2.2.2.1.2 i hi
    · exact imM_e (by dsimp only; rw [mm_up_n (by decide)]) (by dsimp only; rw [mm_up_n (by decide)]) I.2.2.2.2.2.2
  · have e2 := C.2.2.2.1.1
    have e62 := C.2.2.2.1.2
    have eM2 := M.2.2.2.2.1.1
    have eM62 := M.2.2.2.2.1.2
    by_cases hr : -9999 ≤ x.toInt ∧ x.toInt ≤ 9999
    · by_cases h12' : H.length < 12
      · obtain ⟨p, hp, hlt, hge⟩ := hr_at hH x
        by_cases htw : p < H.length ∧ H.getD p 0 = x
        · refine STEP.no C M D hG (-2) (mX10_hear_f (d + 29) h x h0 (mX7_addHeard_twice (d + 29) h H.length e2 hq12 x h12' p hp (fun j hj => by rw [e62 j (by omega)]; exact hlt j hj) htw.1 (by rw [e62 p htw.1]; exact htw.2))) (mX11_hear_f (d + 29) h H.length eM2 hq12 x h0 ?_)
          rw [bI_1 ⟨hr.1, hr.2, h12'⟩]
          exact sp_mh_x _ _ _ p htw.1 (by rw [eM62 p htw.1]; exact htw.2)
        · have hgt : ∀ j, p ≤ j → j < H.length → x < H.getD j 0 := fun j h1 h2 => by
            have hpl : p < H.length := by omega
            have ne : ¬ H.getD p 0 = x := fun z => htw ⟨hpl, z⟩
            have lt : x < H.getD p 0 := Int32.lt_of_le_of_ne (hge p (Nat.le_refl _) hpl) (fun z => ne z.symm)
            rcases (show j = p ∨ p < j by omega) with y | y
            · rw [y]; exact lt
            · exact Int32.lt_trans lt (hH.2 p j y h2)
          have m1 := mX10_hear_t (d + 29) h x _ hr (mX7_addHeard_t (d + 29) h H.length e2 hq12 x h12' p hp (fun j hj => by rw [e62 j (by omega)]; exact hlt j hj) (fun j h1 h2 => by rw [e62 j h2]; exact hgt j h1 h2))
          obtain ⟨g1, eg1⟩ : ∃ g : mm_H, g = (mm_up (mm_row h.1 62 (sp_ins (h.1 62) p x H.length)) 61 2 (nI (H.length + 1)), h.2.1, h.2.2) := ⟨_, rfl⟩
          rw [← eg1] at m1
          have k1 : g1.1 61 2 = nI (H.length + 1) := by rw [eg1]; dsimp only; rw [mm_up_e]
          rw [k1] at m1
          have n1 : ∀ c, c ≠ 61 → c ≠ 62 → g1.1 c = h.1 c := fun c a1 a2 => by rw [eg1]; dsimp only; rw [mm_up_n a1, mm_row_n a2]
          have j1 : ∀ j, j ≠ 2 → g1.1 61 j = h.1 61 j := fun j hj => by rw [eg1]; dsimp only; rw [mm_up_k hj, mm_row_n (by decide)]
          have q1 : ∀ j, g1.1 62 j = sp_ins (h.1 62) p x H.length j := fun j => by rw [eg1]; dsimp only; rw [mm_up_n (by decide), mm_row_s]
          refine STEP.of (A2 := A) (LQ2 := LQ) (nl2 := nl) (B2 := B) (t2 := t) (X2 := X) (H2 := hrI H p x) (P2 := P) (IM2 := IM) (G2 := G) M (nI (H.length + 1)) ⟨g1, m1, ⟨C.st (fun c hc => n1 c (by omega) (by omega)) (by rw [n1 0 (by decide) (by decide)]) (by rw [eg1]), ?_, ?_, ⟨?_, fun j hj => ?_⟩, ?_, ?_⟩, fun c hc => n1 c (by omega) (by omega)⟩ (fun g I => ?_) ⟨D.1, D.2.1, D.2.2.1, hrI_ok hH h12' hp hlt hgt, D.2.2.2.2⟩ (by omega)
          · rw [n1 0 (by decide) (by decide), n1 1 (by decide) (by decide)]; exact C.2.1
          · rw [j1 6 (by decide)]; exact C.2.2.1
          · rw [k1, hrI_len hp]
          · rw [hrI_len hp] at hj; rw [q1]; exact hrI_row hp e62 j hj
          · refine ⟨?_, fun i hi => ?_⟩
            · rw [j1 5 (by decide)]; exact C.2.2.2.2.1.1
            · rw [n1 63 (by decide) (by decide), n1 64 (by decide) (by decide)]; exact C.2.2.2.2.1.2 i hi
          · exact imC_e (fun c _ _ => n1 c (by omega) (by omega)) C.2.2.2.2.2
          · have f2 := I.2.2.2.2.1.1
            have f62 := I.2.2.2.2.1.2
            have m2 := mX11_hear_t (d + 29) g H.length f2 hq12 x h0 (by
              rw [bI_1 ⟨hr.1, hr.2, h12'⟩, sp_mh_1 _ _ _ (fun j hj z => ?_)]
              · decide
              · rw [f62 j hj] at z
                by_cases y : j < p
                · have w := hlt j y; rw [z] at w; exact Int32.lt_irrefl w
                · have w := hgt j (by omega) hj; rw [z] at w; exact Int32.lt_irrefl w) h12' p hp (fun j hj => by rw [f62 j (by omega)]; exact hlt j hj) (fun j h1 h2 => by rw [f62 j h2]; exact hgt j h1 h2)
            obtain ⟨g2, eg2⟩ : ∃ k : mm_H, k = (mm_up (mm_row g.1 182 (sp_ins (g.1 182) p x H.length)) 166 4 (nI (H.length + 1)), g.2.1, g.2.2) := ⟨_, rfl⟩
            rw [← eg2] at m2
            have n2 : ∀ c, c ≠ 166 → c ≠ 182 → g2.1 c = g.1 c := fun c a1 a2 => by rw [eg2]; dsimp only; rw [mm_up_n a1, mm_row_n a2]
            have j2 : ∀ j, j ≠ 4 → g2.1 166 j = g.1 166 j := fun j hj => by rw [eg2]; dsimp only; rw [mm_up_k hj, mm_row_n (by decide)]
            refine ⟨g2, m2, ⟨⟨hA, ?_, by rw [n2 165 (by decide) (by decide)]; exact I.1.2.2.1, I.1.2.2.2.1, fun r hr => ⟨(I.1.2.2.2.2 r hr).1, lawM_c (I.1.2.2.2.2 r hr).2 (fun c q1 q2 => n2 c (by omega) (by omega))⟩⟩, by rw [n2 165 (by decide) (by decide)]; exact I.2.1, by rw [n2 165 (by decide) (by decide), n2 185 (by decide) (by decide)]; exact I.2.2.1, by rw [j2 6 (by decide)]; exact I.2.2.2.1, ⟨by rw [eg2]; dsimp only; rw [mm_up_e, hrI_len hp], fun j hj => ?_⟩, ⟨by rw [j2 5 (by decide)]; exact I.2.2.2.2.2.1.1, fun i hi => by rw [n2 183 (by decide) (by decide), n2 184 (by decide) (by decide)]; exact I.2.2.2.2.2.1.2 i hi⟩, imM_e (n2 214 (by decide) (by decide)) (n2 215 (by decide) (by decide)) I.2.2.2.2.2.2⟩, by rw [eg2]; exact ((frm.refl _ g).row (c := 182) (by decide)).up (c := 166) (by decide)⟩
            · have wV := I.1.2.1
              unfold viewM at *
              rw [j2 0 (by decide), j2 1 (by decide), j2 2 (by decide), j2 3 (by decide), n2 167 (by decide) (by decide), n2 168 (by decide) (by decide), n2 169 (by decide) (by decide), n2 170 (by decide) (by decide), n2 171 (by decide) (by decide), n2 172 (by decide) (by decide), n2 180 (by decide) (by decide), n2 181 (by decide) (by decide)]
              exact wV
            · rw [hrI_len hp] at hj
              rw [eg2]; dsimp only
              rw [mm_up_n (by decide), mm_row_s]
              exact hrI_row hp f62 j hj
      · refine STEP.no C M D hG (-2) (mX10_hear_f (d + 29) h x h0 (mX7_addHeard_full (d + 29) h H.length e2 hq12 x h12')) (mX11_hear_f (d + 29) h H.length eM2 hq12 x h0 ?_)
        rw [bI_0 (fun z => h12' z.2.2)]; exact sp_mh_0 _ _ _
    · refine STEP.no C M D hG (-2) (mX10_hear_out (d + 29) h x h0 hr) (mX11_hear_f (d + 29) h H.length eM2 hq12 x h0 ?_)
      rw [bI_0 (fun z => hr ⟨z.1, z.2.1⟩)]; exact sp_mh_0 _ _ _
