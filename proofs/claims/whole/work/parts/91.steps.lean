/-! A call on both sides: questions, and the plain ones. -/
set_option maxRecDepth 100000 in
theorem st_count (d N : Nat) (h : mm_H) (I : IV N h) (hN : N ≤ 512) (w : Int32) : STEP d N YX10_count YX11_count [.int w] h := by
  obtain ⟨A, LQ, nl, B, t, X, H, P, IM, G, C, M, D, hG⟩ := I
  have hA : mdOK A := C.1.1
  have h12 := hA.1
  have h4 := hA.2.1
  have hV := C.1.2.1
  have wV := M.1.2.1
  have hV0 := hV.1
  have hV7 := hV.2.1
  have wV0 := wV.1
  have wV1 := wV.2.1
  by_cases c : 0 ≤ w.toInt ∧ w.toInt < 10
  · obtain ⟨k, hk, rfl⟩ := zi_in (n := 10) c
    rcases (show k = 0 ∨ k = 1 ∨ k = 2 ∨ k = 3 ∨ k = 4 ∨ k = 5 ∨ k = 6 ∨ k = 7 ∨ k = 8 ∨ k = 9 by omega) with rfl | rfl | rfl | rfl | rfl | rfl | rfl | rfl | rfl | rfl
    · refine STEP.no C M D hG (nI (mn A)) ?_ ?_
      · have := mX10_count_0 (d + 30) h; rw [hV0] at this; exact this
      · have := mX11_count_0 (d + 29) h; rw [wV0] at this; exact this
    · refine STEP.no C M D hG (nI (mk A)) ?_ ?_
      · have := mX10_count_1 (d + 30) h; rw [hV7] at this; exact this
      · have := mX11_count_1 (d + 29) h; rw [wV1] at this; exact this
    · refine STEP.no C M D hG (mb A) ?_ ?_
      · have := mX10_count_2 (d + 30) h; rw [hV.2.2.1] at this; exact this
      · have := mX11_count_2 (d + 29) h; rw [wV.2.2.1] at this; exact this
    · refine STEP.no C M D hG (mf A) ?_ ?_
      · have := mX10_count_3 (d + 30) h; rw [hV.2.2.2.1] at this; exact this
      · have := mX11_count_3 (d + 29) h; rw [wV.2.2.2.1] at this; exact this
    · refine STEP.no C M D hG (nI nl) ?_ ?_
      · have := mX10_count_4 (d + 30) h; rw [C.1.2.2.1] at this; exact this
      · have := mX11_count_4 (d + 29) h; rw [M.1.2.2.1] at this; exact this
    · refine STEP.no C M D hG (nI (pdn P)) ?_ ?_
      · have := mX10_count_5 (d + 30) h; rw [C.2.2.2.2.1.1] at this; exact this
      · have := mX11_count_5 (d + 29) h; rw [M.2.2.2.2.2.1.1] at this; exact this
    · refine STEP.no C M D hG (nI H.length) ?_ ?_
      · have := mX10_count_6 (d + 30) h; rw [C.2.2.2.1.1] at this; exact this
      · have := mX11_count_6 (d + 29) h; rw [M.2.2.2.2.1.1] at this; exact this
    · refine STEP.no C M D hG (nI X) ?_ ?_
      · have := mX10_count_7 (d + 30) h; rw [C.2.2.1] at this; exact this
      · have := mX11_count_7 (d + 29) h; rw [M.2.2.2.1] at this; exact this
    · refine STEP.no C M D hG (nI t) ?_ ?_
      · have := mX10_count_8 (d + 30) h; rw [C.2.1.1] at this; exact this
      · have := mX11_count_8 (d + 29) h; rw [M.2.2.1.1] at this; exact this
    · refine STEP.no C M D hG (sp_worth (mr A 2) (nI (2 ^ mn A) - 1) (mn A)) ?_ ?_
      · have := mX10_count_9 (d + 29) h (mn A) hV0 h12
        rw [sp_worth_c (fun j hj => (hV.2.2.2.2.1 j hj).2.2.1)] at this; exact this
      · have := mX11_count_9 (d + 28) h (mn A) wV0 h12
        rw [sp_worth_c (fun j hj => (wV.2.2.2.2.1 j hj).2.2.1)] at this; exact this
  · by_cases c2 : 10 ≤ w.toInt ∧ w.toInt < 16
    · refine STEP.no C M D hG (sp_wheld (mr A 2) (mr A 4) (mn A) (w - 10)) ?_ ?_
      · have := mX10_count_p (d + 28) h (mn A) hV0 h12 w c2
        rw [sp_wheld_c (fun j hj => (hV.2.2.2.2.1 j hj).2.2.1) (fun j hj => (hV.2.2.2.2.1 j hj).2.2.2.2.1)] at this; exact this
      · have := mX11_count_p (d + 28) h (mn A) wV0 h12 w c2
        rw [sp_wheld_c (fun j hj => (wV.2.2.2.2.1 j hj).2.2.1) (fun j hj => (wV.2.2.2.2.1 j hj).2.2.2.2.1)] at this; exact this
    · exact STEP.no C M D hG (-1) (mX10_count_o (d + 28) h w (by omega) c2) (mX11_count_o (d + 28) h w (by omega) c2)
set_option maxRecDepth 100000 in
theorem st_coin (d N : Nat) (h : mm_H) (I : IV N h) (hN : N ≤ 512) (c w : Int32) : STEP d N YX10_coin YX11_coin [.int c, .int w] h := by
  obtain ⟨A, LQ, nl, B, t, X, H, P, IM, G, C, M, D, hG⟩ := I
  have hA : mdOK A := C.1.1
  have h12 := hA.1
  have h4 := hA.2.1
  have hV := C.1.2.1
  have wV := M.1.2.1
  have hV0 := hV.1
  have hV7 := hV.2.1
  have wV0 := wV.1
  have wV1 := wV.2.1
  by_cases hc : 0 ≤ c.toInt ∧ c.toInt < mn A
  · obtain ⟨j, hj, rfl⟩ := zi_in hc
    obtain ⟨a0, a1, a2, a3, a4, a5⟩ := hV.2.2.2.2.1 j hj
    obtain ⟨b0, b1, b2, b3, b4, b5⟩ := wV.2.2.2.2.1 j hj
    by_cases hw : 0 ≤ w.toInt ∧ w.toInt < 7
    · obtain ⟨k, hk, rfl⟩ := zi_in (n := 7) hw
      rcases (show k = 0 ∨ k = 1 ∨ k = 2 ∨ k = 3 ∨ k = 4 ∨ k = 5 ∨ k = 6 by omega) with rfl | rfl | rfl | rfl | rfl | rfl | rfl
      · refine STEP.no C M D hG (mr A 0 j) ?_ ?_
        · have := mX10_coin_0 (d + 29) h (mn A) hV0 h12 j hj; rw [a0] at this; exact this
        · have := mX11_coin_0 (d + 28) h (mn A) wV0 h12 j hj; rw [b0] at this; exact this
      · refine STEP.no C M D hG (mr A 1 j) ?_ ?_
        · have := mX10_coin_1 (d + 29) h (mn A) hV0 h12 j hj; rw [a1] at this; exact this
        · have := mX11_coin_1 (d + 28) h (mn A) wV0 h12 j hj; rw [b1] at this; exact this
      · refine STEP.no C M D hG (mr A 2 j) ?_ ?_
        · have := mX10_coin_2 (d + 29) h (mn A) hV0 h12 j hj; rw [a2] at this; exact this
        · have := mX11_coin_2 (d + 28) h (mn A) wV0 h12 j hj; rw [b2] at this; exact this
      · refine STEP.no C M D hG (mr A 3 j) ?_ ?_
        · have := mX10_coin_3 (d + 29) h (mn A) hV0 h12 j hj; rw [a3] at this; exact this
        · have := mX11_coin_3 (d + 28) h (mn A) wV0 h12 j hj; rw [b3] at this; exact this
      · refine STEP.no C M D hG (mr A 4 j) ?_ ?_
        · have := mX10_coin_4 (d + 29) h (mn A) hV0 h12 j hj; rw [a4] at this; exact this
        · have := mX11_coin_4 (d + 28) h (mn A) wV0 h12 j hj; rw [b4] at this; exact this
      · refine STEP.no C M D hG (mr A 5 j) ?_ ?_
        · have := mX10_coin_5 (d + 29) h (mn A) hV0 h12 j hj; rw [a5] at this; exact this
        · have := mX11_coin_5 (d + 28) h (mn A) wV0 h12 j hj; rw [b5] at this; exact this
      · obtain ⟨-, q3, -⟩ := hA.2.2 j hj
        have q0 : ¬ mr A 3 j ≤ 0 := Int32.not_le.mpr q3
        refine STEP.no C M D hG (mr A 5 j / mr A 3 j) ?_ ?_
        · have := mX10_coin_6 (d + 29) h (mn A) hV0 h12 j hj
          unfold sp_crack at this
          rw [a3, a5, if_neg q0] at this; exact this
        · have := mX11_coin_6 (d + 28) h (mn A) wV0 h12 j hj (by rw [b3]; intro z; rw [z] at q0; exact q0 (by decide))
          rw [b3, b5] at this; exact this
    · exact STEP.no C M D hG (-1) (mX10_coin_o (d + 29) h (mn A) hV0 h12 j hj w (by omega)) (mX11_coin_o (d + 28) h (mn A) wV0 h12 j hj w (by omega))
  · exact STEP.no C M D hG (-1) (mX10_coin_f (d + 29) h (mn A) hV0 h12 c w hc) (mX11_coin_f (d + 28) h (mn A) wV0 h12 c w hc)
set_option maxRecDepth 100000 in
theorem st_counter (d N : Nat) (h : mm_H) (I : IV N h) (hN : N ≤ 512) (c w : Int32) : STEP d N YX10_counter YX11_counter [.int c, .int w] h := by
  obtain ⟨A, LQ, nl, B, t, X, H, P, IM, G, C, M, D, hG⟩ := I
  have hA : mdOK A := C.1.1
  have h12 := hA.1
  have h4 := hA.2.1
  have hV := C.1.2.1
  have wV := M.1.2.1
  have hV0 := hV.1
  have hV7 := hV.2.1
  have wV0 := wV.1
  have wV1 := wV.2.1
  by_cases hc : 0 ≤ c.toInt ∧ c.toInt < mk A
  · obtain ⟨j, hj, rfl⟩ := zi_in hc
    obtain ⟨a0, a1⟩ := hV.2.2.2.2.2 j hj
    obtain ⟨b0, b1⟩ := wV.2.2.2.2.2 j hj
    by_cases hw : 0 ≤ w.toInt ∧ w.toInt < 2
    · obtain ⟨k, hk, rfl⟩ := zi_in (n := 2) hw
      rcases (show k = 0 ∨ k = 1 by omega) with rfl | rfl
      · refine STEP.no C M D hG (mr A 6 j) ?_ ?_
        · have := mX10_counter_0 (d + 29) h (mk A) hV7 h4 j hj; rw [a0] at this; exact this
        · have := mX11_counter_0 (d + 28) h (mk A) wV1 h4 j hj; rw [b0] at this; exact this
      · refine STEP.no C M D hG (mr A 7 j) ?_ ?_
        · have := mX10_counter_1 (d + 29) h (mk A) hV7 h4 j hj; rw [a1] at this; exact this
        · have := mX11_counter_1 (d + 28) h (mk A) wV1 h4 j hj; rw [b1] at this; exact this
    · exact STEP.no C M D hG (-1) (mX10_counter_o (d + 29) h (mk A) hV7 h4 j hj w (by omega) (by omega)) (mX11_counter_f (d + 28) h (mk A) wV1 h4 (nI j) w (fun z => hw (by omega)))
  · exact STEP.no C M D hG (-1) (mX10_counter_f (d + 29) h (mk A) hV7 h4 c w hc) (mX11_counter_f (d + 28) h (mk A) wV1 h4 c w (fun z => hc z.1))
set_option maxRecDepth 100000 in
theorem st_sounds (d N : Nat) (h : mm_H) (I : IV N h) (hN : N ≤ 512) (r k s c w : Int32) : STEP d N YX10_sounds YX11_sounds [.int r, .int k, .int s, .int c, .int w] h := by
  obtain ⟨A, LQ, nl, B, t, X, H, P, IM, G, C, M, D, hG⟩ := I
  have hA : mdOK A := C.1.1
  have h12 := hA.1
  have h4 := hA.2.1
  have hV := C.1.2.1
  have wV := M.1.2.1
  have hV0 := hV.1
  have hV7 := hV.2.1
  have wV0 := wV.1
  have wV1 := wV.2.1
  by_cases hb : askP A nl r k s ∧ (0 ≤ c.toInt ∧ c.toInt < mn A) ∧ ¬ (s >>> (c &&& 31)) &&& 1 = 0
  · obtain ⟨⟨q1, q2, q3⟩, q4, q5⟩ := hb
    obtain ⟨r, hr, rfl⟩ := zi_in q1
    obtain ⟨k, hk, rfl⟩ := zi_in q2
    obtain ⟨a, ha, rfl⟩ := zi_in (n := 2 ^ mn A) q3.2
    obtain ⟨c, hc, rfl⟩ := zi_in q4
    have hbit : sp_bit (nI a) c = 1 := (sp_bit_01 (nI a) c).resolve_left q5
    obtain ⟨g1, m1, f1, S1⟩ := mX10_sounds_y (d + 26) h A LQ nl G C.1 r k a hr hk ha c hc hbit w
    exact STEP.ask C M D (by omega) _ ⟨g1, m1, f1, S1⟩ (fun g I => mX11_sounds_y (d + 25) g A LQ nl I.1 r k a hr hk ha c hc hbit w)
  · exact STEP.no C M D hG (-20000) (mX10_sounds_n (d + 28) h A LQ nl G C.1 r k s c w hb) (mX11_sounds_n (d + 27) h A LQ nl M.1 r k s c w hb)
set_option maxRecDepth 100000 in
theorem st_tone (d N : Nat) (h : mm_H) (I : IV N h) (hN : N ≤ 512) (r k s c w : Int32) : STEP d N YX10_tone YX11_tone [.int r, .int k, .int s, .int c, .int w] h := by
  obtain ⟨A, LQ, nl, B, t, X, H, P, IM, G, C, M, D, hG⟩ := I
  have hA : mdOK A := C.1.1
  have h12 := hA.1
  have h4 := hA.2.1
  have hV := C.1.2.1
  have wV := M.1.2.1
  have hV0 := hV.1
  have hV7 := hV.2.1
  have wV0 := wV.1
  have wV1 := wV.2.1
  by_cases hb : askP A nl r k s
  · obtain ⟨q1, q2, q3⟩ := hb
    obtain ⟨r, hr, rfl⟩ := zi_in q1
    obtain ⟨k, hk, rfl⟩ := zi_in q2
    obtain ⟨a, ha, rfl⟩ := zi_in (n := 2 ^ mn A) q3.2
    obtain ⟨g1, m1, f1, S1⟩ := mX10_tone_y (d + 26) h A LQ nl G C.1 r k a hr hk ha c w
    exact STEP.ask C M D (by omega) _ ⟨g1, m1, f1, S1⟩ (fun g I => mX11_tone_y (d + 23) g A LQ nl I.1 r k a hr hk ha c w)
  · exact STEP.no C M D hG (-20000) (mX10_tone_n (d + 28) h A LQ nl G C.1 r k s c w hb) (mX11_tone_n (d + 27) h A LQ nl M.1 r k s c w hb)
set_option maxRecDepth 100000 in
theorem st_tones (d N : Nat) (h : mm_H) (I : IV N h) (hN : N ≤ 512) (r k s : Int32) : STEP d N YX10_tones YX11_tones [.int r, .int k, .int s] h := by
  obtain ⟨A, LQ, nl, B, t, X, H, P, IM, G, C, M, D, hG⟩ := I
  have hA : mdOK A := C.1.1
  have h12 := hA.1
  have h4 := hA.2.1
  have hV := C.1.2.1
  have wV := M.1.2.1
  have hV0 := hV.1
  have hV7 := hV.2.1
  have wV0 := wV.1
  have wV1 := wV.2.1
  by_cases hb : askP A nl r k s
  · obtain ⟨q1, q2, q3⟩ := hb
    obtain ⟨r, hr, rfl⟩ := zi_in q1
    obtain ⟨k, hk, rfl⟩ := zi_in q2
    obtain ⟨a, ha, rfl⟩ := zi_in (n := 2 ^ mn A) q3.2
    obtain ⟨g1, m1, f1, S1⟩ := mX10_tones_y (d + 26) h A LQ nl G C.1 r k a hr hk ha
    exact STEP.ask C M D (by omega) _ ⟨g1, m1, f1, S1⟩ (fun g I => mX11_tones_y (d + 23) g A LQ nl I.1 r k a hr hk ha)
  · exact STEP.no C M D hG (-1) (mX10_tones_n (d + 28) h A LQ nl G C.1 r k s hb) (mX11_tones_n (d + 27) h A LQ nl M.1 r k s hb)
set_option maxRecDepth 100000 in
theorem st_alike (d N : Nat) (h : mm_H) (I : IV N h) (hN : N ≤ 512) (r k s u : Int32) : STEP d N YX10_alike YX11_alike [.int r, .int k, .int s, .int u] h := by
  obtain ⟨A, LQ, nl, B, t, X, H, P, IM, G, C, M, D, hG⟩ := I
  have hA : mdOK A := C.1.1
  have h12 := hA.1
  have h4 := hA.2.1
  have hV := C.1.2.1
  have wV := M.1.2.1
  have hV0 := hV.1
  have hV7 := hV.2.1
  have wV0 := wV.1
  have wV1 := wV.2.1
  by_cases hb : askP A nl r k s ∧ (0 < mk A ∧ 0 ≤ u.toInt ∧ u.toInt < (2 ^ mn A : Nat))
  · obtain ⟨⟨q1, q2, q3⟩, q4⟩ := hb
    obtain ⟨r, hr, rfl⟩ := zi_in q1
    obtain ⟨k, hk, rfl⟩ := zi_in q2
    obtain ⟨a, ha, rfl⟩ := zi_in (n := 2 ^ mn A) q3.2
    obtain ⟨b, hb, rfl⟩ := zi_in (n := 2 ^ mn A) q4.2
    obtain ⟨g1, m1, f1, S1⟩ := mX10_alike_y (d + 25) h A LQ nl G C.1 r k a hr hk ha b hb
    exact STEP.ask C M D (by omega) _ ⟨g1, m1, f1, S1⟩ (fun g I => mX11_alike_y (d + 22) g A LQ nl I.1 r k a hr hk ha b hb)
  · exact STEP.no C M D hG (-1) (mX10_alike_n (d + 28) h A LQ nl G C.1 r k s u hb) (mX11_alike_n (d + 27) h A LQ nl M.1 r k s u hb)
set_option maxRecDepth 100000 in
theorem st_fits (d N : Nat) (h : mm_H) (I : IV N h) (hN : N ≤ 512) (r k s w : Int32) : STEP d N YX10_fits YX11_fits [.int r, .int k, .int s, .int w] h := by
  obtain ⟨A, LQ, nl, B, t, X, H, P, IM, G, C, M, D, hG⟩ := I
  have hA : mdOK A := C.1.1
  have h12 := hA.1
  have h4 := hA.2.1
  have hV := C.1.2.1
  have wV := M.1.2.1
  have hV0 := hV.1
  have hV7 := hV.2.1
  have wV0 := wV.1
  have wV1 := wV.2.1
  by_cases hb : askP A nl r k s ∧ (0 ≤ w.toInt ∧ w.toInt ≤ 4)
  · obtain ⟨⟨q1, q2, q3⟩, q4⟩ := hb
    obtain ⟨r, hr, rfl⟩ := zi_in q1
    obtain ⟨k, hk, rfl⟩ := zi_in q2
    obtain ⟨a, ha, rfl⟩ := zi_in (n := 2 ^ mn A) q3.2
    obtain ⟨g1, m1, f1, S1⟩ := mX10_fits_y (d + 23) h A LQ nl G C.1 r k a hr hk ha H D.2.2.2.1.1 C.2.2.2.1.1 C.2.2.2.1.2 w q4
    exact STEP.ask C M D (by omega) _ ⟨g1, m1, f1, S1⟩ (fun g I => mX11_fits_y (d + 23) g A LQ nl I.1 r k a hr hk ha H D.2.2.2.1.1 I.2.2.2.2.1.1 I.2.2.2.2.1.2 w q4)
  · exact STEP.no C M D hG (-1) (mX10_fits_n (d + 28) h A LQ nl G C.1 r k s w hb) (mX11_fits_n (d + 27) h A LQ nl M.1 r k s w hb)
set_option maxRecDepth 100000 in
theorem st_mistaken (d N : Nat) (h : mm_H) (I : IV N h) (hN : N ≤ 512) (r k s q w : Int32) : STEP d N YX10_mistaken YX11_mistaken [.int r, .int k, .int s, .int q, .int w] h := by
  obtain ⟨A, LQ, nl, B, t, X, H, P, IM, G, C, M, D, hG⟩ := I
  have hA : mdOK A := C.1.1
  have h12 := hA.1
  have h4 := hA.2.1
  have hV := C.1.2.1
  have wV := M.1.2.1
  have hV0 := hV.1
  have hV7 := hV.2.1
  have wV0 := wV.1
  have wV1 := wV.2.1
  by_cases hb : askP A nl r k s ∧ (0 ≤ q.toInt ∧ q.toInt ≤ 12) ∧ (0 ≤ w.toInt ∧ w.toInt ≤ 2)
  · obtain ⟨⟨q1, q2, q3⟩, q4, q5⟩ := hb
    obtain ⟨r, hr, rfl⟩ := zi_in q1
    obtain ⟨k, hk, rfl⟩ := zi_in q2
    obtain ⟨a, ha, rfl⟩ := zi_in (n := 2 ^ mn A) q3.2
    obtain ⟨q, hq, rfl⟩ := zi_in1 (n := 12) q4
    obtain ⟨o1, g1, m1, O1, f1, S1⟩ := mX10_mistaken_y (d + 23) h A LQ nl G C.1 (by omega) r k a hr hk ha q hq w q5
    refine STEP.ask C M D (G2 := G + 1) (by omega) _ ⟨g1, m1, f1, S1⟩ (fun g I => ?_)
    obtain ⟨o2, g2, m2, O2, f2⟩ := mX11_mistaken_y (d + 21) g A LQ nl I.1 r k a hr hk ha q hq w q5
    rw [MS_uq O2 O1] at m2
    exact ⟨g2, m2, f2⟩
  · exact STEP.no C M D hG (-1) (mX10_mistaken_n (d + 28) h A LQ nl G C.1 r k s q w hb) (mX11_mistaken_n (d + 27) h A LQ nl M.1 r k s q w hb)
set_option maxRecDepth 100000 in
theorem st_pay (d N : Nat) (h : mm_H) (I : IV N h) (hN : N ≤ 512) (r k a b p w : Int32) : STEP d N YX10_pay YX11_pay [.int r, .int k, .int a, .int b, .int p, .int w] h := by
  obtain ⟨A, LQ, nl, B, t, X, H, P, IM, G, C, M, D, hG⟩ := I
  have hA : mdOK A := C.1.1
  have h12 := hA.1
  have h4 := hA.2.1
  have hV := C.1.2.1
  have wV := M.1.2.1
  have hV0 := hV.1
  have hV7 := hV.2.1
  have wV0 := wV.1
  have wV1 := wV.2.1
  by_cases hb : dealP A nl r k a b ∧ (0 ≤ p.toInt ∧ p.toInt ≤ 9999) ∧ (0 ≤ w.toInt ∧ w.toInt ≤ 2)
  · obtain ⟨⟨q1, q2, q3⟩, q4, q5⟩ := hb
    obtain ⟨r, hr, rfl⟩ := zi_in q1
    obtain ⟨k, hk, rfl⟩ := zi_in q2
    obtain ⟨g1, m1, f1, S1⟩ := mX10_pay_y (d + 23) h A LQ nl G C.1 (by omega) r k hr hk a b p w q3 q4 q5
    exact STEP.ask C M D (G2 := G + 2) (by omega) _ ⟨g1, m1, f1, S1⟩ (fun g I => mX11_pay_y (d + 20) g A LQ nl I.1 r k hr hk a b p w q3 q4 q5)
  · exact STEP.no C M D hG (-1) (mX10_pay_n (d + 28) h A LQ nl G C.1 r k a b p w hb) (mX11_pay_n (d + 27) h A LQ nl M.1 r k a b p w hb)
set_option maxRecDepth 100000 in
theorem st_prices (d N : Nat) (h : mm_H) (I : IV N h) (hN : N ≤ 512) (r k a b p : Int32) : STEP d N YX10_prices YX11_prices [.int r, .int k, .int a, .int b, .int p] h := by
  obtain ⟨A, LQ, nl, B, t, X, H, P, IM, G, C, M, D, hG⟩ := I
  have hA : mdOK A := C.1.1
  have h12 := hA.1
  have h4 := hA.2.1
  have hV := C.1.2.1
  have wV := M.1.2.1
  have hV0 := hV.1
  have hV7 := hV.2.1
  have wV0 := wV.1
  have wV1 := wV.2.1
  by_cases hb : dealP A nl r k a b ∧ (0 ≤ p.toInt ∧ p.toInt ≤ 999)
  · obtain ⟨⟨q1, q2, q3⟩, q4⟩ := hb
    obtain ⟨r, hr, rfl⟩ := zi_in q1
    obtain ⟨k, hk, rfl⟩ := zi_in q2
    obtain ⟨p, hp, rfl⟩ := zi_in1 (n := 999) q4
    obtain ⟨g1, m1, f1, S1⟩ := mX10_prices_y (d + 23) h A LQ nl G C.1 (by omega) r k hr hk a b q3 p hp
    exact STEP.ask C M D (G2 := G + 2) (by omega) _ ⟨g1, m1, f1, S1⟩ (fun g I => mX11_prices_y (d + 19) g A LQ nl I.1 r k hr hk a b q3 p hp)
  · exact STEP.no C M D hG (-1) (mX10_prices_n (d + 28) h A LQ nl G C.1 r k a b p hb) (mX11_prices_n (d + 27) h A LQ nl M.1 r k a b p hb)
set_option maxRecDepth 100000 in
theorem st_bestCounter (d N : Nat) (h : mm_H) (I : IV N h) (hN : N ≤ 512) (r a b p : Int32) : STEP d N YX10_bestCounter YX11_bestCounter [.int r, .int a, .int b, .int p] h := by
  obtain ⟨A, LQ, nl, B, t, X, H, P, IM, G, C, M, D, hG⟩ := I
  have hA : mdOK A := C.1.1
  have h12 := hA.1
  have h4 := hA.2.1
  have hV := C.1.2.1
  have wV := M.1.2.1
  have hV0 := hV.1
  have hV7 := hV.2.1
  have wV0 := wV.1
  have wV1 := wV.2.1
  by_cases hb : ((0 ≤ r.toInt ∧ r.toInt < nl) ∧ dealN a b) ∧ (0 ≤ p.toInt ∧ p.toInt ≤ 999)
  · have hb0 := hb
    obtain ⟨⟨q1, q3⟩, q4⟩ := hb
    obtain ⟨r, hr, rfl⟩ := zi_in q1
    obtain ⟨p, hp, rfl⟩ := zi_in1 (n := 999) q4
    obtain ⟨g1, m1, f1, S1⟩ := mX10_bestCounter_y (d + 23) h A LQ nl G C.1 (by omega) r hr a b q3 p hp
    by_cases h0 : 0 < mk A
    · refine STEP.ask C M D (G2 := G + 2 * mk A) (by omega) _ ⟨g1, m1, f1, S1⟩ (fun g I => ?_)
      obtain ⟨g2, m2, f2⟩ := mX11_bestCounter_y (d + 19) g A LQ nl I.1 h0 r hr a b q3 p hp
      obtain ⟨m, em⟩ : ∃ m, mk A = m + 1 := ⟨mk A - 1, by omega⟩
      have e : bcV (-1) (fun c => prc_n A (LQ r) c a b p) (mk A) = bcV 0 (fun c => prc_n A (LQ r) c a b p) (mk A) := by
        rw [em]
        exact bcV_z (by
          have := cnP_le (P := prA A (LQ r) 0 a b) p
          show prc_n A (LQ r) 0 a b p < 2 ^ 31
          unfold prc_n
          omega) m
      rw [e]
      exact ⟨g2, m2, f2⟩
    · have z : mk A = 0 := by omega
      rw [z] at m1 S1
      refine STEP.ask C M D (G2 := G + 2 * 0) (by omega) (-1) ⟨g1, m1, f1, S1⟩ (fun g I => ⟨g, mX11_bestCounter_n (d + 27) g A LQ nl I.1 _ a b _ (fun y => h0 y.1.1.2), mfr.refl g⟩)
  · exact STEP.no C M D hG (-1) (mX10_bestCounter_n (d + 28) h A LQ nl G C.1 r a b p hb) (mX11_bestCounter_n (d + 27) h A LQ nl M.1 r a b p (fun y => hb ⟨⟨y.1.1.1, y.1.2⟩, y.2⟩))
set_option maxRecDepth 100000 in
theorem st_rounds (d N : Nat) (h : mm_H) (I : IV N h) (hN : N ≤ 512) (r w : Int32) : STEP d N YX10_rounds YX11_rounds [.int r, .int w] h := by
  obtain ⟨A, LQ, nl, B, t, X, H, P, IM, G, C, M, D, hG⟩ := I
  have hA : mdOK A := C.1.1
  have h12 := hA.1
  have h4 := hA.2.1
  have hV := C.1.2.1
  have wV := M.1.2.1
  have hV0 := hV.1
  have hV7 := hV.2.1
  have wV0 := wV.1
  have wV1 := wV.2.1
  by_cases hb : (0 ≤ r.toInt ∧ r.toInt < nl) ∧ (0 ≤ w.toInt ∧ w.toInt ≤ 1)
  · obtain ⟨q1, q2⟩ := hb
    obtain ⟨r, hr, rfl⟩ := zi_in q1
    obtain ⟨k, hk, rfl⟩ := zi_in1 (n := 1) q2
    have hw : nI k = 0 ∨ nI k = 1 := by
      rcases (show k = 0 ∨ k = 1 by omega) with rfl | rfl
      · exact Or.inl rfl
      · exact Or.inr rfl
    obtain ⟨x1, g1, m1, O1, f1, S1⟩ := mX10_rounds_y (d + 23) h A LQ nl G C.1 P D.2.2.2.2.1 C.2.2.2.2.1 r hr (nI k) hw
    refine STEP.ask C M D (by omega) _ ⟨g1, m1, f1, S1⟩ (fun g I => ?_)
    obtain ⟨x2, g2, m2, O2, f2⟩ := mX11_rounds_y (d + 20) g A LQ nl I.1 P D.2.2.2.2.1 I.2.2.2.2.2.1 r hr (nI k) hw
    refine ⟨g2, ?_, f2⟩
    rcases O1 with z | z
    · rw [if_pos z] at m2 ⊢; exact m2
    · rw [lst_uq O2 z] at m2; exact m2
  · exact STEP.no C M D hG (-1) (mX10_rounds_n (d + 28) h A LQ nl G C.1 r w hb) (mX11_rounds_n (d + 28) h A LQ nl M.1 r w hb)
set_option maxRecDepth 100000 in
theorem st_land (d N : Nat) (h : mm_H) (I : IV N h) (hN : N ≤ 512) (r c p k : Int32) : STEP d N YX10_land YX11_land [.int r, .int c, .int p, .int k] h := by
  obtain ⟨A, LQ, nl, B, t, X, H, P, IM, G, C, M, D, hG⟩ := I
  have hA : mdOK A := C.1.1
  have h12 := hA.1
  have h4 := hA.2.1
  have hV := C.1.2.1
  have wV := M.1.2.1
  have hV0 := hV.1
  have hV7 := hV.2.1
  have wV0 := wV.1
  have wV1 := wV.2.1
  by_cases hb : lndP A nl r c p k
  · obtain ⟨⟨q1, q2⟩, q3, q4⟩ := hb
    obtain ⟨r, hr, rfl⟩ := zi_in q1
    obtain ⟨c, hc, rfl⟩ := zi_in q2
    obtain ⟨p, hp, rfl⟩ := zi_in1 (n := 200) q3
    obtain ⟨k, hk, rfl⟩ := zi_in1 (a := k) (n := 4) ⟨by omega, q4.2⟩
    have hk1 : 1 ≤ k := by
      have := q4.1
      rw [nI_toInt (show k < 2 ^ 31 by omega)] at this
      omega
    obtain ⟨x1, g1, m1, O1, f1, G2, hG2, S1⟩ := mX10_land_y (d + 23) h A LQ nl G C.1 (by omega) r c hr hc p k hp ⟨hk1, hk⟩
    refine STEP.ask C M D (G2 := G2) (by omega) _ ⟨g1, m1, f1, S1⟩ (fun g I => ?_)
    obtain ⟨x2, g2, m2, O2, f2⟩ := mX11_land_y (d + 21) g A LQ nl I.1 r c hr hc p k hp ⟨hk1, hk⟩
    rw [ldR_uq O2 O1] at m2
    exact ⟨g2, m2, f2⟩
  · exact STEP.no C M D hG (-1) (mX10_land_n (d + 28) h A LQ nl G C.1 r c p k hb) (mX11_land_n (d + 28) h A LQ nl M.1 r c p k hb)
