/-! Rounds: the reference. -/
theorem andn {S t : Nat} (hS : S < 4096) (h : sub t S) : nI S &&& (nI t ^^^ -1) = nI (S ^^^ t) := by
  have htS := sub_le h
  apply Int32.toBitVec_inj.mp
  rw [Int32.toBitVec_and, Int32.toBitVec_xor]
  have b1 : (nI S).toBitVec = BitVec.ofNat 32 S := rfl
  have b2 : (nI t).toBitVec = BitVec.ofNat 32 t := rfl
  have b3 : (-1 : Int32).toBitVec = BitVec.allOnes 32 := by decide
  have b4 : (nI (S ^^^ t)).toBitVec = BitVec.ofNat 32 (S ^^^ t) := rfl
  rw [b1, b2, b3, b4, BitVec.xor_allOnes]
  apply BitVec.eq_of_getLsbD_eq
  intro i hi
  simp only [BitVec.getLsbD_and, BitVec.getLsbD_not, BitVec.getLsbD_ofNat, hi, decide_true, Bool.true_and, Nat.testBit_xor]
  cases h1 : t.testBit i
  · simp
  · rw [sub_bit h h1]; rfl
/-- the subset before this one -/
theorem sb_prev : ∀ b W j, W < 2 ^ b → j + 1 < 2 ^ pb b W → (sb b W (j + 1) - 1) &&& W = sb b W j := by
  intro b
  induction b with
  | zero => intro W j h hj; simp only [pb] at hj; omega
  | succ b ih =>
    intro W j h hj
    rw [Nat.pow_succ] at h
    simp only [pb] at hj
    simp only [sb]
    by_cases hw : W % 2 = 1
    · rw [if_pos hw, if_pos hw]
      rw [hw, Nat.pow_succ] at hj
      have e4 : 2 * (W / 2) + 1 = W := by omega
      by_cases hj2 : j % 2 = 1
      · have e5 : (j + 1) / 2 = j / 2 + 1 := by omega
        have e6 : (j + 1) % 2 = 0 := by omega
        have q := ih (W / 2) (j / 2) (by omega) (by omega)
        have pos := sb_mono b (W / 2) (j / 2) (j / 2 + 1) (by omega) (by omega)
        have e3 := and_2 (sb b (W / 2) (j / 2 + 1) - 1) (W / 2) 1 1 (by decide) (by decide)
        rw [e4, q] at e3
        rw [e5, e6, hj2, show 2 * sb b (W / 2) (j / 2 + 1) + 0 - 1 = 2 * (sb b (W / 2) (j / 2 + 1) - 1) + 1 by omega]
        exact e3
      · have e5 : (j + 1) / 2 = j / 2 := by omega
        have e6 : (j + 1) % 2 = 1 := by omega
        have e7 : j % 2 = 0 := by omega
        have e3 := and_2 (sb b (W / 2) (j / 2)) (W / 2) 0 1 (by decide) (by decide)
        rw [e4, show sb b (W / 2) (j / 2) &&& W / 2 = sb b (W / 2) (j / 2) from sb_sub _ _ _] at e3
        rw [e5, e6, e7, show 2 * sb b (W / 2) (j / 2) + 1 - 1 = 2 * sb b (W / 2) (j / 2) + 0 by omega]
        exact e3
    · rw [if_neg hw, if_neg hw]
      have hw0 : W % 2 = 0 := by omega
      rw [hw0, Nat.add_zero] at hj
      have e4 : 2 * (W / 2) + 0 = W := by omega
      have q := ih (W / 2) j (by omega) hj
      have pos := sb_mono b (W / 2) j (j + 1) (by omega) hj
      have e3 := and_2 (sb b (W / 2) (j + 1) - 1) (W / 2) 1 0 (by decide) (by decide)
      rw [e4, q] at e3
      rw [show 2 * sb b (W / 2) (j + 1) - 1 = 2 * (sb b (W / 2) (j + 1) - 1) + 1 by omega]
      exact e3
theorem prv_sbs {W i : Nat} (h : W < 4096) (hi : i + 1 < 2 ^ pc W) : (nI (sbs W (i + 1)) - 1) &&& nI W = nI (sbs W i) := by
  have hl := sbs_lt h (show i < i + 1 by omega) hi
  have hb := sbs_le (i := i + 1) h
  have e1 : nI (sbs W (i + 1)) - 1 = nI (sbs W (i + 1) - 1) := by
    rw [show sbs W (i + 1) = (sbs W (i + 1) - 1) + 1 by omega, nI_succ, Int32.add_sub_cancel, Nat.add_sub_cancel]
  rw [e1, nI_land]
  congr 1
  have q := sb_prev 12 W i h (by rw [pb_pc h]; exact hi)
  unfold sbs
  rw [if_pos hi, if_pos (by omega)]
  exact q
theorem sbs_top {W : Nat} (h : W < 4096) : sbs W (2 ^ pc W - 1) = W := by
  obtain ⟨j, j1, j2⟩ := sbs_onto h (show sub W W from Nat.and_self W)
  by_cases e : j = 2 ^ pc W - 1
  · rw [← e]; exact j2
  · have := sbs_lt h (show j < 2 ^ pc W - 1 by omega) (by omega)
    have := sbs_le (i := 2 ^ pc W - 1) h
    omega
set_option maxRecDepth 100000 in
theorem tb_iff {a c : Nat} (ha : a < 4096) (hc : c < 12) : sp_bit (nI a) c = 1 ↔ a.testBit c = true := by
  have H : ∀ a, a < 4096 → ∀ c, c < 12 → a.testBit c = true → sp_bit (nI a) c = 1 := fun a ha => co_dec (N := 4096) (P := fun a => ∀ c, c < 12 → a.testBit c = true → sp_bit (nI a) c = 1) (by decide +kernel) ha
  exact ⟨bit_tb ha hc, H a ha c hc⟩
theorem CL_comm {A : MD} {Q : LD} {P : PD} {i j : Nat} : CL A Q P i j ↔ CL A Q P j i := by
  unfold CL
  constructor
  · rintro ⟨a, b⟩; exact ⟨a.symm, by rw [← a]; exact clh_comm.mp b⟩
  · rintro ⟨a, b⟩; exact ⟨a.symm, by rw [← a]; exact clh_comm.mp b⟩
theorem viewPM_f {p : Nat → Bool} {h g : mm_H} {P : PD} (v : viewPM h P) (fr : frm p h g) (hp : p 166 = false ∧ p 183 = false ∧ p 184 = false) : viewPM g P := viewPM_c v (fr.i hp.1) (fr.i hp.2.1) (fr.i hp.2.2)
set_option maxRecDepth 100000 in
set_option maxHeartbeats 4000000 in
theorem mX11_isClash (d : Nat) (h : mm_H) (A : MD) (hA : mdOK A) (hV : viewM h A) (Q : LD) (r : Nat) (hr : r < 6) (hQ : lawOK Q) (hM : lawM h.1 r Q) (P : PD) (hP : pdOK A P) (hv : viewPM h P) (i j : Nat) (hi : i < pdn P) (hj : j < pdn P) : ∃ g, mm_M (d + 9) YX11_isClash [.ref 165, .int (nI r), .int (nI i), .int (nI j)] h (some (.int (pI (CL A Q P i j)))) g ∧ kp_fr h g := by
  have h12 := hA.1
  have h4 := hA.2.1
  have hp := p2_lt h12
  have hn10 := hP.1
  obtain ⟨ki, si⟩ := hP.2 i hi
  obtain ⟨kj, sj⟩ := hP.2 j hj
  obtain ⟨vi1, vi2⟩ := hv.2 i hi
  obtain ⟨vj1, vj2⟩ := hv.2 j hj
  obtain ⟨R, eR⟩ : ∃ R, R = CL A Q P i j := ⟨_, rfl⟩
  obtain ⟨a, ea⟩ : ∃ a, a = pds P i := ⟨_, rfl⟩
  obtain ⟨b, eb⟩ : ∃ b, b = pds P j := ⟨_, rfl⟩
  obtain ⟨k, ek⟩ : ∃ k, k = pdk P i := ⟨_, rfl⟩
  rw [← ea] at si vi2
  rw [← eb] at sj vj2
  rw [← ek] at ki vi1
  have hab := Nat.or_lt_two_pow si sj
  obtain ⟨W, eW⟩ : ∃ W, W = a ||| b := ⟨_, rfl⟩
  rw [← eW] at hab
  have hcl : R ↔ (k = pdk P j ∧ (¬ a &&& b = 0 ∨ ∃ t, sub t W ∧ chd A Q k t = chd A Q k W ∧ ¬ wtA A t = wtA A W)) := by rw [eR, eW, ek, ea, eb]; exact Iff.rfl
  rw [← eR]
  have hand : a &&& b < 4096 := Nat.lt_of_le_of_lt Nat.and_le_left (by omega)
  have hWW : sub W W := Nat.and_self W
  by_cases hk : k = pdk P j
  · rw [← hk] at vj1
    by_cases h0 : a &&& b = 0
    · obtain ⟨g, MK, f1, k1, -⟩ := mX11_keepsAll d h A hA hV Q r hr hQ hM k ki W (by omega) 12 (by decide)
      have hVg := viewM_f hV f1.1 (fun c hc => pKp_f (by omega) (by omega))
      have hch : ∀ t, t < 4096 → (chd A Q k t).length ≤ 12 := fun t ht => Nat.le_trans (chd_pc h12 Q k ht) (pc_le ht)
      have wth : ∀ t, mm_M (d + 8) YX11_worthOf [.ref 165, .int (nI t)] g (some (.int (wtA A t))) g := fun t => by
        have M3 := mX11_worthOf (d + 7) g (mn A) hVg.1 h12 (nI t)
        rw [sp_wth_c (mn A) (fun c hc => (hVg.2.2.2.2.1 c hc).2.2.1)] at M3
        exact M3
      refine ⟨g, ?_, f1⟩
      refine mm_M.of [some (.ref 165), some (.int (nI r)), some (.int (nI i)), some (.int (nI j)), none, none, none] rfl rfl (Nat.le_of_ble_eq_true rfl) ?_
      have K1 : R → ∀ (s : Int32), mm_R (d + 9) YX11_isClash 78 [some (.ref 165), some (.int (nI r)), some (.int (nI i)), some (.int (nI j)), some (.int (nI W)), some (.int 1), some (.int s)] [] g (some (.int (pI R))) g := by
        intro hR s
        refine mm_iload dX11_isClash_78 rfl ?_
        refine mm_iload dX11_isClash_80 rfl ?_
        refine mm_icmp_ge 139 dX11_isClash_82 (by decide) (fun c_82 => ?_) (fun c_82 => ?_)
        · refine mm_iload dX11_isClash_139 rfl ?_
          exact mm_zretE dX11_isClash_141 rfl (pI_nar _) (pI_1 hR).symm rfl
        · refine mm_iload dX11_isClash_85 rfl ?_
          refine mm_if_ne 139 dX11_isClash_87 (by decide) (fun c_87 => ?_) (fun c_87 => ?_)
          · refine mm_iload dX11_isClash_139 rfl ?_
            exact mm_zretE dX11_isClash_141 rfl (pI_nar _) (pI_1 hR).symm rfl
          · exact absurd c_87 (by decide)
      have K78 : ∀ m s, s + m = W → (∀ t, t < s → sub t W → ¬ (chd A Q k t = chd A Q k W ∧ ¬ wtA A t = wtA A W)) → mm_R (d + 9) YX11_isClash 78 [some (.ref 165), some (.int (nI r)), some (.int (nI i)), some (.int (nI j)), some (.int (nI W)), some (.int 0), some (.int (nI s))] [] g (some (.int (pI R))) g := by
        intro m
        induction m with
        | zero =>
          intro s hs hno
          have hs : s = W := by omega
          subst hs
          have hR : ¬ R := by
            rw [hcl]
            rintro ⟨-, q | ⟨t, q1, q2⟩⟩
            · exact q h0
            · have := sub_le q1
              by_cases z : t = s
              · rw [z] at q2; exact q2.2 rfl
              · exact hno t (by omega) q1 q2
          refine mm_iload dX11_isClash_78 rfl ?_
          refine mm_iload dX11_isClash_80 rfl ?_
          refine mm_icmp_ge 139 dX11_isClash_82 (by decide) (fun c_82 => ?_) (fun c_82 => ?_)
          · refine mm_iload dX11_isClash_139 rfl ?_
            exact mm_zretE dX11_isClash_141 rfl (pI_nar _) (pI_0 hR).symm rfl
          · exact absurd (Int32.le_refl _) c_82
        | succ m ih =>
          intro s hs hno
          have hsW : s < W := by omega
          by_cases hsb : sub s W
          · by_cases hbad : chd A Q k s = chd A Q k W ∧ ¬ wtA A s = wtA A W
            · have hR : R := hcl.mpr ⟨hk, Or.inr ⟨s, hsb, hbad⟩⟩
              refine mm_iload dX11_isClash_78 rfl ?_
              refine mm_iload dX11_isClash_80 rfl ?_
              refine mm_icmp_ge 139 dX11_isClash_82 (by decide) (fun c_82 => ?_) (fun c_82 => ?_)
              · exact absurd c_82 (nI_ge hsW (by omega))
              · refine mm_iload dX11_isClash_85 rfl ?_
                refine mm_if_ne 139 dX11_isClash_87 (by decide) (fun c_87 => ?_) (fun c_87 => ?_)
                · exact absurd c_87 (by decide)
                · refine mm_iload dX11_isClash_90 rfl ?_
                  refine mm_iload dX11_isClash_92 rfl ?_
                  refine mm_iconst (x := (-1)) dX11_isClash_94 (by decide) ?_
                  refine mm_ixor dX11_isClash_95 ?_
                  refine mm_iand dX11_isClash_96 ?_
                  refine mm_if_ne 130 dX11_isClash_97 (by decide) (fun c_97 => ?_) (fun c_97 => ?_)
                  · exact absurd ((sub_I (by omega) (by omega)).mpr hsb) c_97
                  · refine mm_aload_n dX11_isClash_100 rfl rfl ?_
                    refine mm_iload dX11_isClash_101 rfl ?_
                    refine mm_iload dX11_isClash_103 rfl ?_
                    refine mm_cV (Y1 := YX11_areAlike) dX11_isClash_105 lX11_438 vX11_areAlike (mX11_areAlike (d + 8) g (chd A Q k s) (chd A Q k W) s W (by omega) (by omega) (k1 s hsb (pc_le (by omega))) (k1 W hWW (pc_le (by omega))) (hch s (by omega)) (hch W (by omega))) sh_165 rfl rfl (by simp [Value.category]) ?_
                    refine mm_if_eq 130 dX11_isClash_108 (by decide) (fun c_108 => ?_) (fun c_108 => ?_)
                    · exact absurd hbad.1 (bI_e0.mp c_108)
                    · refine mm_aload_n dX11_isClash_111 rfl rfl ?_
                      refine mm_iload dX11_isClash_112 rfl ?_
                      refine mm_cV (Y1 := YX11_worthOf) dX11_isClash_114 lX11_446 vX11_worthOf (wth s) sh_165 rfl rfl (by simp [Value.category]) ?_
                      refine mm_aload_n dX11_isClash_117 rfl rfl ?_
                      refine mm_iload dX11_isClash_118 rfl ?_
                      refine mm_cV (Y1 := YX11_worthOf) dX11_isClash_120 lX11_446 vX11_worthOf (wth W) sh_165 rfl rfl (by simp [Value.category]) ?_
                      refine mm_icmp_eq 130 dX11_isClash_123 (by decide) (fun c_123 => ?_) (fun c_123 => ?_)
                      · exact absurd c_123 hbad.2
                      · refine mm_iconst (x := 1) dX11_isClash_126 (by decide) ?_
                        refine mm_goto 131 dX11_isClash_127 (by decide) ?_
                        refine mm_istore dX11_isClash_131 (by decide) rfl ?_
                        refine mm_iinc dX11_isClash_133 rfl (nI_inc s) rfl ?_
                        refine mm_goto 78 dX11_isClash_136 (by decide) ?_
                        exact K1 hR _
            · have K := ih (s + 1) (by omega) (fun t ht hst => by
                by_cases z : t = s
                · rw [z]; exact hbad
                · exact hno t (by omega) hst)
              refine mm_iload dX11_isClash_78 rfl ?_
              refine mm_iload dX11_isClash_80 rfl ?_
              refine mm_icmp_ge 139 dX11_isClash_82 (by decide) (fun c_82 => ?_) (fun c_82 => ?_)
              · exact absurd c_82 (nI_ge hsW (by omega))
              · refine mm_iload dX11_isClash_85 rfl ?_
                refine mm_if_ne 139 dX11_isClash_87 (by decide) (fun c_87 => ?_) (fun c_87 => ?_)
                · exact absurd c_87 (by decide)
                · refine mm_iload dX11_isClash_90 rfl ?_
                  refine mm_iload dX11_isClash_92 rfl ?_
                  refine mm_iconst (x := (-1)) dX11_isClash_94 (by decide) ?_
                  refine mm_ixor dX11_isClash_95 ?_
                  refine mm_iand dX11_isClash_96 ?_
                  refine mm_if_ne 130 dX11_isClash_97 (by decide) (fun c_97 => ?_) (fun c_97 => ?_)
                  · exact absurd ((sub_I (by omega) (by omega)).mpr hsb) c_97
                  · refine mm_aload_n dX11_isClash_100 rfl rfl ?_
                    refine mm_iload dX11_isClash_101 rfl ?_
                    refine mm_iload dX11_isClash_103 rfl ?_
                    refine mm_cV (Y1 := YX11_areAlike) dX11_isClash_105 lX11_438 vX11_areAlike (mX11_areAlike (d + 8) g (chd A Q k s) (chd A Q k W) s W (by omega) (by omega) (k1 s hsb (pc_le (by omega))) (k1 W hWW (pc_le (by omega))) (hch s (by omega)) (hch W (by omega))) sh_165 rfl rfl (by simp [Value.category]) ?_
                    refine mm_if_eq 130 dX11_isClash_108 (by decide) (fun c_108 => ?_) (fun c_108 => ?_)
                    · refine mm_iconst (x := 0) dX11_isClash_130 (by decide) ?_
                      refine mm_istore dX11_isClash_131 (by decide) rfl ?_
                      refine mm_iinc dX11_isClash_133 rfl (nI_inc s) rfl ?_
                      refine mm_goto 78 dX11_isClash_136 (by decide) ?_
                      exact K
                    · refine mm_aload_n dX11_isClash_111 rfl rfl ?_
                      refine mm_iload dX11_isClash_112 rfl ?_
                      refine mm_cV (Y1 := YX11_worthOf) dX11_isClash_114 lX11_446 vX11_worthOf (wth s) sh_165 rfl rfl (by simp [Value.category]) ?_
                      refine mm_aload_n dX11_isClash_117 rfl rfl ?_
                      refine mm_iload dX11_isClash_118 rfl ?_
                      refine mm_cV (Y1 := YX11_worthOf) dX11_isClash_120 lX11_446 vX11_worthOf (wth W) sh_165 rfl rfl (by simp [Value.category]) ?_
                      refine mm_icmp_eq 130 dX11_isClash_123 (by decide) (fun c_123 => ?_) (fun c_123 => ?_)
                      · refine mm_iconst (x := 0) dX11_isClash_130 (by decide) ?_
                        refine mm_istore dX11_isClash_131 (by decide) rfl ?_
                        refine mm_iinc dX11_isClash_133 rfl (nI_inc s) rfl ?_
                        refine mm_goto 78 dX11_isClash_136 (by decide) ?_
                        exact K
                      · exact absurd ⟨bI_n0.mp c_108, c_123⟩ hbad
          · have K := ih (s + 1) (by omega) (fun t ht hst => by
              by_cases z : t = s
              · rw [z] at hst; exact absurd hst hsb
              · exact hno t (by omega) hst)
            refine mm_iload dX11_isClash_78 rfl ?_
            refine mm_iload dX11_isClash_80 rfl ?_
            refine mm_icmp_ge 139 dX11_isClash_82 (by decide) (fun c_82 => ?_) (fun c_82 => ?_)
            · exact absurd c_82 (nI_ge hsW (by omega))
            · refine mm_iload dX11_isClash_85 rfl ?_
              refine mm_if_ne 139 dX11_isClash_87 (by decide) (fun c_87 => ?_) (fun c_87 => ?_)
              · exact absurd c_87 (by decide)
              · refine mm_iload dX11_isClash_90 rfl ?_
                refine mm_iload dX11_isClash_92 rfl ?_
                refine mm_iconst (x := (-1)) dX11_isClash_94 (by decide) ?_
                refine mm_ixor dX11_isClash_95 ?_
                refine mm_iand dX11_isClash_96 ?_
                refine mm_if_ne 130 dX11_isClash_97 (by decide) (fun c_97 => ?_) (fun c_97 => ?_)
                · refine mm_iconst (x := 0) dX11_isClash_130 (by decide) ?_
                  refine mm_istore dX11_isClash_131 (by decide) rfl ?_
                  refine mm_iinc dX11_isClash_133 rfl (nI_inc s) rfl ?_
                  refine mm_goto 78 dX11_isClash_136 (by decide) ?_
                  exact K
                · exact absurd ((sub_I (by omega) (by omega)).mp c_97) hsb
      have K := K78 W 0 (by omega) (fun t ht => by omega)
      refine mm_aload_n dX11_isClash_0 rfl rfl ?_
      refine mm_getS dX11_isClash_1 fX11_61 sh_165 rfl gr_165_18 ?_
      refine mm_iload_n dX11_isClash_4 rfl rfl ?_
      refine mm_iald (i) dX11_isClash_5 sh_183 rfl (by omega) ?_
      refine mm_aload_n dX11_isClash_6 rfl rfl ?_
      refine mm_getS dX11_isClash_7 fX11_61 sh_165 rfl gr_165_18 ?_
      refine mm_iload_n dX11_isClash_10 rfl rfl ?_
      refine mm_iald (j) dX11_isClash_11 sh_183 rfl (by omega) ?_
      refine mm_icmp_eq 17 dX11_isClash_12 (by decide) (fun c_12 => ?_) (fun c_12 => ?_)
      · refine mm_aload_n dX11_isClash_17 rfl rfl ?_
        refine mm_getS dX11_isClash_18 fX11_64 sh_165 rfl gr_165_19 ?_
        refine mm_iload_n dX11_isClash_21 rfl rfl ?_
        refine mm_iald (i) dX11_isClash_22 sh_184 rfl (by omega) ?_
        refine mm_aload_n dX11_isClash_23 rfl rfl ?_
        refine mm_getS dX11_isClash_24 fX11_64 sh_165 rfl gr_165_19 ?_
        refine mm_iload_n dX11_isClash_27 rfl rfl ?_
        refine mm_iald (j) dX11_isClash_28 sh_184 rfl (by omega) ?_
        refine mm_ior dX11_isClash_29 ?_
        refine mm_cast (st' := [.int (nI W)]) rfl (by rw [vi2, vj2, nI_lor, ← eW]) rfl ?_
        refine mm_istore dX11_isClash_30 (by decide) rfl ?_
        refine mm_aload_n dX11_isClash_32 rfl rfl ?_
        refine mm_getS dX11_isClash_33 fX11_64 sh_165 rfl gr_165_19 ?_
        refine mm_iload_n dX11_isClash_36 rfl rfl ?_
        refine mm_iald (i) dX11_isClash_37 sh_184 rfl (by omega) ?_
        refine mm_aload_n dX11_isClash_38 rfl rfl ?_
        refine mm_getS dX11_isClash_39 fX11_64 sh_165 rfl gr_165_19 ?_
        refine mm_iload_n dX11_isClash_42 rfl rfl ?_
        refine mm_iald (j) dX11_isClash_43 sh_184 rfl (by omega) ?_
        refine mm_iand dX11_isClash_44 ?_
        refine mm_cast (st' := [.int (nI (a &&& b))]) rfl (by rw [vi2, vj2, nI_land]) rfl ?_
        refine mm_if_eq 52 dX11_isClash_45 (by decide) (fun c_45 => ?_) (fun c_45 => ?_)
        · refine mm_iconst (x := 0) dX11_isClash_52 (by decide) ?_
          refine mm_istore dX11_isClash_53 (by decide) rfl ?_
          refine mm_iload dX11_isClash_55 rfl ?_
          refine mm_if_ne 139 dX11_isClash_57 (by decide) (fun c_57 => ?_) (fun c_57 => ?_)
          · exact absurd c_57 (by decide)
          · refine mm_aload_n dX11_isClash_60 rfl rfl ?_
            refine mm_iload_n dX11_isClash_61 rfl rfl ?_
            refine mm_aload_n dX11_isClash_62 rfl rfl ?_
            refine mm_getS dX11_isClash_63 fX11_61 sh_165 rfl gr_165_18 ?_
            refine mm_iload_n dX11_isClash_66 rfl rfl ?_
            refine mm_iald (i) dX11_isClash_67 sh_183 rfl (by omega) ?_
            refine mm_cast (st' := [.int (nI k), .int (nI r), .ref 165]) rfl (by rw [vi1]) rfl ?_
            refine mm_iload dX11_isClash_68 rfl ?_
            refine mm_bipush (x := 12) dX11_isClash_70 (by decide) ?_
            refine mm_cV (Y1 := YX11_keepsAll) dX11_isClash_72 lX11_451 vX11_keepsAll (MK) sh_165 rfl rfl (by simp [Value.category]) ?_
            refine mm_iconst (x := 0) dX11_isClash_75 (by decide) ?_
            refine mm_istore dX11_isClash_76 (by decide) rfl ?_
            exact K
        · exact absurd (by rw [h0]; rfl) c_45
      · exact absurd (by rw [vi1, vj1]) c_12
    · have hR : R := hcl.mpr ⟨hk, Or.inl h0⟩
      refine ⟨h, ?_, kp_fr.refl h⟩
      refine mm_M.of [some (.ref 165), some (.int (nI r)), some (.int (nI i)), some (.int (nI j)), none, none, none] rfl rfl (Nat.le_of_ble_eq_true rfl) ?_
      refine mm_aload_n dX11_isClash_0 rfl rfl ?_
      refine mm_getS dX11_isClash_1 fX11_61 sh_165 rfl gr_165_18 ?_
      refine mm_iload_n dX11_isClash_4 rfl rfl ?_
      refine mm_iald (i) dX11_isClash_5 sh_183 rfl (by omega) ?_
      refine mm_aload_n dX11_isClash_6 rfl rfl ?_
      refine mm_getS dX11_isClash_7 fX11_61 sh_165 rfl gr_165_18 ?_
      refine mm_iload_n dX11_isClash_10 rfl rfl ?_
      refine mm_iald (j) dX11_isClash_11 sh_183 rfl (by omega) ?_
      refine mm_icmp_eq 17 dX11_isClash_12 (by decide) (fun c_12 => ?_) (fun c_12 => ?_)
      · refine mm_aload_n dX11_isClash_17 rfl rfl ?_
        refine mm_getS dX11_isClash_18 fX11_64 sh_165 rfl gr_165_19 ?_
        refine mm_iload_n dX11_isClash_21 rfl rfl ?_
        refine mm_iald (i) dX11_isClash_22 sh_184 rfl (by omega) ?_
        refine mm_aload_n dX11_isClash_23 rfl rfl ?_
        refine mm_getS dX11_isClash_24 fX11_64 sh_165 rfl gr_165_19 ?_
        refine mm_iload_n dX11_isClash_27 rfl rfl ?_
        refine mm_iald (j) dX11_isClash_28 sh_184 rfl (by omega) ?_
        refine mm_ior dX11_isClash_29 ?_
        refine mm_cast (st' := [.int (nI W)]) rfl (by rw [vi2, vj2, nI_lor, ← eW]) rfl ?_
        refine mm_istore dX11_isClash_30 (by decide) rfl ?_
        refine mm_aload_n dX11_isClash_32 rfl rfl ?_
        refine mm_getS dX11_isClash_33 fX11_64 sh_165 rfl gr_165_19 ?_
        refine mm_iload_n dX11_isClash_36 rfl rfl ?_
        refine mm_iald (i) dX11_isClash_37 sh_184 rfl (by omega) ?_
        refine mm_aload_n dX11_isClash_38 rfl rfl ?_
        refine mm_getS dX11_isClash_39 fX11_64 sh_165 rfl gr_165_19 ?_
        refine mm_iload_n dX11_isClash_42 rfl rfl ?_
        refine mm_iald (j) dX11_isClash_43 sh_184 rfl (by omega) ?_
        refine mm_iand dX11_isClash_44 ?_
        refine mm_cast (st' := [.int (nI (a &&& b))]) rfl (by rw [vi2, vj2, nI_land]) rfl ?_
        refine mm_if_eq 52 dX11_isClash_45 (by decide) (fun c_45 => ?_) (fun c_45 => ?_)
        · exact absurd ((nI_eq (b := 0) (by omega) (by omega)).mp c_45) h0
        · refine mm_iconst (x := 1) dX11_isClash_48 (by decide) ?_
          refine mm_goto 53 dX11_isClash_49 (by decide) ?_
          refine mm_istore dX11_isClash_53 (by decide) rfl ?_
          refine mm_iload dX11_isClash_55 rfl ?_
          refine mm_if_ne 139 dX11_isClash_57 (by decide) (fun c_57 => ?_) (fun c_57 => ?_)
          · refine mm_iload dX11_isClash_139 rfl ?_
            exact mm_zretE dX11_isClash_141 rfl (pI_nar _) (pI_1 hR).symm rfl
          · exact absurd c_57 (by decide)
      · exact absurd (by rw [vi1, vj1]) c_12
  · have hR : ¬ R := fun z => hk (hcl.mp z).1
    refine ⟨h, ?_, kp_fr.refl h⟩
    refine mm_M.of [some (.ref 165), some (.int (nI r)), some (.int (nI i)), some (.int (nI j)), none, none, none] rfl rfl (Nat.le_of_ble_eq_true rfl) ?_
    refine mm_aload_n dX11_isClash_0 rfl rfl ?_
    refine mm_getS dX11_isClash_1 fX11_61 sh_165 rfl gr_165_18 ?_
    refine mm_iload_n dX11_isClash_4 rfl rfl ?_
    refine mm_iald (i) dX11_isClash_5 sh_183 rfl (by omega) ?_
    refine mm_aload_n dX11_isClash_6 rfl rfl ?_
    refine mm_getS dX11_isClash_7 fX11_61 sh_165 rfl gr_165_18 ?_
    refine mm_iload_n dX11_isClash_10 rfl rfl ?_
    refine mm_iald (j) dX11_isClash_11 sh_183 rfl (by omega) ?_
    refine mm_icmp_eq 17 dX11_isClash_12 (by decide) (fun c_12 => ?_) (fun c_12 => ?_)
    · exact absurd ((nI_eq (by omega) (by omega)).mp (vi1.symm.trans (c_12.trans vj1))) hk
    · refine mm_iconst (x := 0) dX11_isClash_15 (by decide) ?_
      exact mm_zretE dX11_isClash_16 rfl (pI_nar _) (pI_0 hR).symm rfl
def mskN (cell N : Nat) (R : Nat → Nat → Prop) (g : mm_H) : Prop := ∃ M : Nat → Nat, ∀ i, i < N → g.1 cell i = nI (M i) ∧ M i < 1024 ∧ ∀ j, ((M i).testBit j = true ↔ R i j)
theorem mskN_c {cell N N2 : Nat} {R R2 : Nat → Nat → Prop} {g g2 : mm_H} (h : mskN cell N R g) (hN : N2 ≤ N) (e : ∀ i j, i < N2 → (R2 i j ↔ R i j)) (eg : g2.1 cell = g.1 cell) : mskN cell N2 R2 g2 := by
  obtain ⟨M, hM⟩ := h
  refine ⟨M, fun i hi => ?_⟩
  obtain ⟨a, b, c⟩ := hM i (by omega)
  exact ⟨by rw [eg]; exact a, b, fun j => (c j).trans (e i j hi).symm⟩
theorem mskN_add {cell N : Nat} {R R2 : Nat → Nat → Prop} {g : mm_H} (h : mskN cell N R g) {i j : Nat} (hj : j < 10) (e : ∀ i2 j2, i2 < N → (R2 i2 j2 ↔ R i2 j2 ∨ (i2 = i ∧ j2 = j))) : mskN cell N R2 (mm_up g.1 cell i (g.1 cell i ||| ((1 : Int32) <<< (nI j &&& 31))), g.2.1, g.2.2) := by
  obtain ⟨M, hM⟩ := h
  refine ⟨fun x => if x = i then M i ||| 2 ^ j else M x, fun x hx => ?_⟩
  obtain ⟨a, b, c⟩ := hM x hx
  have hp : 2 ^ j < 2 ^ 10 := Nat.pow_lt_pow_right (by decide) hj
  dsimp only
  by_cases z : x = i
  · subst z
    rw [mm_up_e, if_pos rfl, a, sh1 (by omega), nI_lor]
    refine ⟨rfl, Nat.or_lt_two_pow (n := 10) b hp, fun y => ?_⟩
    rw [Nat.testBit_or, Bool.or_eq_true, c y, e x y hx, Nat.testBit_two_pow]
    constructor
    · rintro (q | q)
      · exact Or.inl q
      · exact Or.inr ⟨rfl, (of_decide_eq_true q).symm⟩
    · rintro (q | q)
      · exact Or.inl q
      · exact Or.inr (decide_eq_true q.2.symm)
  · rw [mm_up_k z, if_neg z]
    refine ⟨a, b, fun y => (c y).trans ?_⟩
    rw [e x y hx]
    exact ⟨Or.inl, fun q => q.elim id (fun w => absurd w.1 z)⟩
def sy (R : Nat → Nat → Prop) : Nat → Nat → Prop := fun i j => R i j ∨ R j i
set_option maxRecDepth 100000 in
set_option maxHeartbeats 4000000 in
theorem mX11_isQuiet (d : Nat) (h : mm_H) (R : Nat → Nat → Prop) (hR : ∀ i j, R i j → i < 10 ∧ j < 10) (hm : mskN 207 10 (sy R) h) (S : Nat) (hS : S < 1024) : mm_M (d + 1) YX11_isQuiet [.ref 165, .int (nI S)] h (some (.int (pI (qt R S)))) h := by
  refine mm_M.of [some (.ref 165), some (.int (nI S)), none, none] rfl rfl (Nat.le_of_ble_eq_true rfl) ?_
  obtain ⟨M, hM⟩ := hm
  have fin : (∀ k, k < 10 → ¬ (S.testBit k = true ∧ ¬ M k &&& S = 0)) ↔ qt R S := by
    constructor
    · intro hq i j hij ⟨z1, z2⟩
      obtain ⟨l1, l2⟩ := hR i j hij
      refine hq i l1 ⟨z1, fun z => ?_⟩
      have q1 := ((hM i l1).2.2 j).mpr (Or.inl hij)
      have := congrArg (fun x => x.testBit j) z
      simp only [Nat.testBit_and, Nat.zero_testBit] at this
      rw [q1, z2] at this
      cases this
    · intro hq k hk ⟨z1, z2⟩
      obtain ⟨j, hj⟩ := Nat.exists_testBit_of_ne_zero z2
      rw [Nat.testBit_and, Bool.and_eq_true] at hj
      rcases ((hM k hk).2.2 j).mp hj.1 with q | q
      · exact hq k j q ⟨z1, hj.2⟩
      · exact hq j k q ⟨hj.2, z1⟩
  have K4 : ∀ m i, i + m = 10 → mm_R (d + 1) YX11_isQuiet 4 [some (.ref 165), some (.int (nI S)), some (.int (pI (∀ k, k < i → ¬ (S.testBit k = true ∧ ¬ M k &&& S = 0)))), some (.int (nI i))] [] h (some (.int (pI (qt R S)))) h := by
    intro m
    induction m with
    | zero =>
      intro i hi
      have hi : i = 10 := by omega
      subst hi
      refine mm_iload_n dX11_isQuiet_4 rfl rfl ?_
      refine mm_bipush (x := 10) dX11_isQuiet_5 (by decide) ?_
      refine mm_icmp_ge 45 dX11_isQuiet_7 (by decide) (fun c_7 => ?_) (fun c_7 => ?_)
      · refine mm_iload_n dX11_isQuiet_45 rfl rfl ?_
        exact mm_zretE dX11_isQuiet_46 rfl (pI_nar _) (pI_iff fin) rfl
      · exact absurd (by decide) c_7
    | succ m ih =>
      intro i hi
      have hi10 : i < 10 := by omega
      obtain ⟨m1, m2, m3⟩ := hM i hi10
      have hMS : M i &&& S < 1024 := Nat.lt_of_le_of_lt Nat.and_le_left m2
      have K := ih (i + 1) (by omega)
      have hs : (∀ k, k < i + 1 → ¬ (S.testBit k = true ∧ ¬ M k &&& S = 0)) ↔ (∀ k, k < i → ¬ (S.testBit k = true ∧ ¬ M k &&& S = 0)) ∧ ¬ (S.testBit i = true ∧ ¬ M i &&& S = 0) := by
        constructor
        · intro z; exact ⟨fun k hk => z k (by omega), z i (by omega)⟩
        · rintro ⟨z1, z2⟩ k hk
          by_cases e : k = i
          · rw [e]; exact z2
          · exact z1 k (by omega)
      have tb := tb_iff (a := S) (c := i) (by omega) (by omega)
      by_cases hb : ∀ k, k < i → ¬ (S.testBit k = true ∧ ¬ M k &&& S = 0)
      · by_cases hc : S.testBit i = true ∧ ¬ M i &&& S = 0
        · rw [pI_0 (fun z => (hs.mp z).2 hc)] at K
          refine mm_iload_n dX11_isQuiet_4 rfl rfl ?_
          refine mm_bipush (x := 10) dX11_isQuiet_5 (by decide) ?_
          refine mm_icmp_ge 45 dX11_isQuiet_7 (by decide) (fun c_7 => ?_) (fun c_7 => ?_)
          · exact absurd c_7 (nI_ge (b := 10) (by omega) (by omega))
          · refine mm_iload_n dX11_isQuiet_10 rfl rfl ?_
            refine mm_if_eq 37 dX11_isQuiet_11 (by decide) (fun c_11 => ?_) (fun c_11 => ?_)
            · exact absurd hb (pI_e0.mp c_11)
            · refine mm_iload_n dX11_isQuiet_14 rfl rfl ?_
              refine mm_iload_n dX11_isQuiet_15 rfl rfl ?_
              refine mm_cS (Y1 := YX11_has) dX11_isQuiet_16 lX11_177 sX11_has (mX11_has d h (nI S) i) rfl rfl (by simp [Value.category]) ?_
              refine mm_if_eq 33 dX11_isQuiet_19 (by decide) (fun c_19 => ?_) (fun c_19 => ?_)
              · exact absurd (tb.mpr hc.1) (bI_e0.mp c_19)
              · refine mm_aload_n dX11_isQuiet_22 rfl rfl ?_
                refine mm_getS dX11_isQuiet_23 fX11_141 sh_165 rfl gr_165_57 ?_
                refine mm_iload_n dX11_isQuiet_26 rfl rfl ?_
                refine mm_iald (i) dX11_isQuiet_27 sh_207 rfl (by omega) ?_
                refine mm_iload_n dX11_isQuiet_28 rfl rfl ?_
                refine mm_iand dX11_isQuiet_29 ?_
                refine mm_cast (st' := [.int (nI (M i &&& S))]) rfl (by rw [m1, nI_land] <;> rfl) rfl ?_
                refine mm_if_ne 37 dX11_isQuiet_30 (by decide) (fun c_30 => ?_) (fun c_30 => ?_)
                · refine mm_iconst (x := 0) dX11_isQuiet_37 (by decide) ?_
                  refine mm_istore_n dX11_isQuiet_38 rfl (by decide) rfl ?_
                  refine mm_iinc dX11_isQuiet_39 rfl (nI_inc i) rfl ?_
                  refine mm_goto 4 dX11_isQuiet_42 (by decide) ?_
                  exact K
                · exact absurd ((nI_eq (b := 0) (by omega) (by omega)).mp c_30) hc.2
        · rw [pI_1 (hs.mpr ⟨hb, hc⟩)] at K
          refine mm_iload_n dX11_isQuiet_4 rfl rfl ?_
          refine mm_bipush (x := 10) dX11_isQuiet_5 (by decide) ?_
          refine mm_icmp_ge 45 dX11_isQuiet_7 (by decide) (fun c_7 => ?_) (fun c_7 => ?_)
          · exact absurd c_7 (nI_ge (b := 10) (by omega) (by omega))
          · refine mm_iload_n dX11_isQuiet_10 rfl rfl ?_
            refine mm_if_eq 37 dX11_isQuiet_11 (by decide) (fun c_11 => ?_) (fun c_11 => ?_)
            · exact absurd hb (pI_e0.mp c_11)
            · refine mm_iload_n dX11_isQuiet_14 rfl rfl ?_
              refine mm_iload_n dX11_isQuiet_15 rfl rfl ?_
              refine mm_cS (Y1 := YX11_has) dX11_isQuiet_16 lX11_177 sX11_has (mX11_has d h (nI S) i) rfl rfl (by simp [Value.category]) ?_
              refine mm_if_eq 33 dX11_isQuiet_19 (by decide) (fun c_19 => ?_) (fun c_19 => ?_)
              · refine mm_iconst (x := 1) dX11_isQuiet_33 (by decide) ?_
                refine mm_goto 38 dX11_isQuiet_34 (by decide) ?_
                refine mm_istore_n dX11_isQuiet_38 rfl (by decide) rfl ?_
                refine mm_iinc dX11_isQuiet_39 rfl (nI_inc i) rfl ?_
                refine mm_goto 4 dX11_isQuiet_42 (by decide) ?_
                exact K
              · refine mm_aload_n dX11_isQuiet_22 rfl rfl ?_
                refine mm_getS dX11_isQuiet_23 fX11_141 sh_165 rfl gr_165_57 ?_
                refine mm_iload_n dX11_isQuiet_26 rfl rfl ?_
                refine mm_iald (i) dX11_isQuiet_27 sh_207 rfl (by omega) ?_
                refine mm_iload_n dX11_isQuiet_28 rfl rfl ?_
                refine mm_iand dX11_isQuiet_29 ?_
                refine mm_cast (st' := [.int (nI (M i &&& S))]) rfl (by rw [m1, nI_land] <;> rfl) rfl ?_
                refine mm_if_ne 37 dX11_isQuiet_30 (by decide) (fun c_30 => ?_) (fun c_30 => ?_)
                · exact absurd ⟨tb.mp (bI_n0.mp c_19), fun z => c_30 (by rw [z]; rfl)⟩ hc
                · refine mm_iconst (x := 1) dX11_isQuiet_33 (by decide) ?_
                  refine mm_goto 38 dX11_isQuiet_34 (by decide) ?_
                  refine mm_istore_n dX11_isQuiet_38 rfl (by decide) rfl ?_
                  refine mm_iinc dX11_isQuiet_39 rfl (nI_inc i) rfl ?_
                  refine mm_goto 4 dX11_isQuiet_42 (by decide) ?_
                  exact K
      · rw [pI_0 (fun z => hb (hs.mp z).1)] at K
        refine mm_iload_n dX11_isQuiet_4 rfl rfl ?_
        refine mm_bipush (x := 10) dX11_isQuiet_5 (by decide) ?_
        refine mm_icmp_ge 45 dX11_isQuiet_7 (by decide) (fun c_7 => ?_) (fun c_7 => ?_)
        · exact absurd c_7 (nI_ge (b := 10) (by omega) (by omega))
        · refine mm_iload_n dX11_isQuiet_10 rfl rfl ?_
          refine mm_if_eq 37 dX11_isQuiet_11 (by decide) (fun c_11 => ?_) (fun c_11 => ?_)
          · refine mm_iconst (x := 0) dX11_isQuiet_37 (by decide) ?_
            refine mm_istore_n dX11_isQuiet_38 rfl (by decide) rfl ?_
            refine mm_iinc dX11_isQuiet_39 rfl (nI_inc i) rfl ?_
            refine mm_goto 4 dX11_isQuiet_42 (by decide) ?_
            exact K
          · exact absurd (pI_n0.mp c_11) hb
  have K := K4 10 0 rfl
  rw [pI_1 (fun k hk => by omega)] at K
  refine mm_iconst (x := 1) dX11_isQuiet_0 (by decide) ?_
  refine mm_istore_n dX11_isQuiet_1 rfl (by decide) rfl ?_
  refine mm_iconst (x := 0) dX11_isQuiet_2 (by decide) ?_
  refine mm_istore_n dX11_isQuiet_3 rfl (by decide) rfl ?_
  exact K
