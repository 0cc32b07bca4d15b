/-! fits: of both. -/
theorem sp_worth_bd {fw : Nat → Int32} {set : Int32} : ∀ n, n ≤ 12 → (∀ c, c < n → 0 ≤ (fw c).toInt ∧ (fw c).toInt ≤ 999) → 0 ≤ (sp_worth fw set n).toInt ∧ (sp_worth fw set n).toInt ≤ 999 * n := by
  intro n
  induction n with
  | zero => intro _ _; simp [sp_worth]
  | succ i ih =>
    intro hn hf
    obtain ⟨i1, i2⟩ := ih (by omega) (fun c hc => hf c (by omega))
    have hi := hf i (by omega)
    simp only [sp_worth]
    rcases sp_bit_01 set i with z | z
    · rw [z]
      have : (0 : Int32) * fw i = 0 := Int32.zero_mul
      rw [this, Int32.add_zero]
      omega
    · rw [z, Int32.one_mul]
      have : (sp_worth fw set i + fw i).toInt = (sp_worth fw set i).toInt + (fw i).toInt := by
        rw [Int32.toInt_add, Int.bmod_eq_of_le (by simp; omega) (by simp; omega)]
      rw [this]
      omega
theorem wtA_bd {A : MD} (hA : mdOK A) (a : Nat) : 0 ≤ (wtA A a).toInt ∧ (wtA A a).toInt ≤ 11988 := by
  have h12 := hA.1
  have := sp_worth_bd (fw := mr A 2) (set := nI a) (mn A) h12 (fun c hc => (hA.2.2 c hc).2.2)
  unfold wtA
  omega
/-- how many sets fit, the first, the least and the greatest worth, the first of the fewest coins -/
abbrev FS : Type := Nat × Nat × Int32 × Int32 × Nat
def ftS (ch : Nat → List Int32) (wt : Nat → Int32) (H : List Int32) (s : FS) (t : Nat) : FS := if ch t = H then (if s.1 = 0 then (1, t, wt t, wt t, t) else (s.1 + 1, s.2.1, (if wt t < s.2.2.1 then wt t else s.2.2.1), (if s.2.2.2.1 < wt t then wt t else s.2.2.2.1), (if pc t < pc s.2.2.2.2 then t else s.2.2.2.2))) else s
def ft0 : FS := (0, 0, 0, 0, 0)
def ftA (wt : Nat → Int32) (s : FS) (w : Int32) : Int32 := if w = 0 then nI s.1 else if s.1 = 0 then -2 else if w = 1 then nI s.2.1 else if w = 2 then s.2.2.1 else if w = 3 then s.2.2.2.1 else wt s.2.2.2.2
def o2 (c : Nat) (x : Int32) : Int32 := if c = 0 then -2 else x
theorem ftA_0 (wt : Nat → Int32) (s : FS) : ftA wt s 0 = nI s.1 := by unfold ftA; rw [if_pos rfl]
theorem ftA_1 (wt : Nat → Int32) (s : FS) : ftA wt s 1 = o2 s.1 (nI s.2.1) := by unfold ftA o2; rw [if_neg (show ¬ (1 : Int32) = 0 by decide), if_pos rfl]
theorem ftA_2 (wt : Nat → Int32) (s : FS) : ftA wt s 2 = o2 s.1 s.2.2.1 := by unfold ftA o2; rw [if_neg (show ¬ (2 : Int32) = 0 by decide), if_neg (show ¬ (2 : Int32) = 1 by decide), if_pos rfl]
theorem ftA_3 (wt : Nat → Int32) (s : FS) : ftA wt s 3 = o2 s.1 s.2.2.2.1 := by unfold ftA o2; rw [if_neg (show ¬ (3 : Int32) = 0 by decide), if_neg (show ¬ (3 : Int32) = 1 by decide), if_neg (show ¬ (3 : Int32) = 2 by decide), if_pos rfl]
theorem ftA_4 (wt : Nat → Int32) (s : FS) : ftA wt s 4 = o2 s.1 (wt s.2.2.2.2) := by unfold ftA o2; rw [if_neg (show ¬ (4 : Int32) = 0 by decide), if_neg (show ¬ (4 : Int32) = 1 by decide), if_neg (show ¬ (4 : Int32) = 2 by decide), if_neg (show ¬ (4 : Int32) = 3 by decide)]
theorem ftS_n {ch : Nat → List Int32} {wt : Nat → Int32} {H : List Int32} {s : FS} {t : Nat} (h : ¬ ch t = H) : ftS ch wt H s t = s := by unfold ftS; rw [if_neg h]
theorem ftS_0 {ch : Nat → List Int32} {wt : Nat → Int32} {H : List Int32} {s : FS} {t : Nat} (h : ch t = H) (h0 : s.1 = 0) : ftS ch wt H s t = (1, t, wt t, wt t, t) := by unfold ftS; rw [if_pos h, if_pos h0]
theorem ftS_s {ch : Nat → List Int32} {wt : Nat → Int32} {H : List Int32} {s : FS} {t : Nat} (h : ch t = H) (h0 : ¬ s.1 = 0) : ftS ch wt H s t = (s.1 + 1, s.2.1, (if wt t < s.2.2.1 then wt t else s.2.2.1), (if s.2.2.2.1 < wt t then wt t else s.2.2.2.1), (if pc t < pc s.2.2.2.2 then t else s.2.2.2.2)) := by unfold ftS; rw [if_pos h, if_neg h0]
/-- the count is small, the first and the one of the fewest coins lie within -/
theorem ftS_inv {ch : Nat → List Int32} {wt : Nat → Int32} {H : List Int32} {W t : Nat} {s : FS} (hs : sub t W) (h : sub s.2.2.2.2 W) (h2 : sub s.2.1 W) : (ftS ch wt H s t).1 ≤ s.1 + 1 ∧ sub (ftS ch wt H s t).2.2.2.2 W ∧ sub (ftS ch wt H s t).2.1 W := by
  unfold ftS
  split
  · split
    · exact ⟨by simp, hs, hs⟩
    · refine ⟨Nat.le_refl _, ?_, h2⟩
      dsimp only
      split
      · exact hs
      · exact h
  · exact ⟨by omega, h, h2⟩
theorem fs_inv {ch : Nat → List Int32} {wt : Nat → Int32} {H : List Int32} {W : Nat} : ∀ i, (foldS W (ftS ch wt H) ft0 i).1 ≤ i ∧ sub (foldS W (ftS ch wt H) ft0 i).2.2.2.2 W ∧ sub (foldS W (ftS ch wt H) ft0 i).2.1 W := by
  intro i
  induction i with
  | zero => exact ⟨Nat.le_refl _, by simp [foldS, ft0, sub], by simp [foldS, ft0, sub]⟩
  | succ i ih =>
    simp only [foldS]
    obtain ⟨a, b, c⟩ := ftS_inv (ch := ch) (wt := wt) (H := H) (sbs_sub W i) ih.2.1 ih.2.2
    exact ⟨by omega, b, c⟩
theorem fw_inv {ch : Nat → List Int32} {wt : Nat → Int32} {H : List Int32} {W : Nat} : ∀ i, (foldW W (ftS ch wt H) ft0 i).1 ≤ i ∧ sub (foldW W (ftS ch wt H) ft0 i).2.2.2.2 W ∧ sub (foldW W (ftS ch wt H) ft0 i).2.1 W := by
  intro i
  induction i with
  | zero => exact ⟨Nat.le_refl _, by simp [foldW, ft0, sub], by simp [foldW, ft0, sub]⟩
  | succ i ih =>
    simp only [foldW]
    split
    · rename_i hs
      obtain ⟨a, b, c⟩ := ftS_inv (ch := ch) (wt := wt) (H := H) hs ih.2.1 ih.2.2
      exact ⟨by omega, b, c⟩
    · exact ⟨by omega, ih.2.1, ih.2.2⟩
set_option maxRecDepth 100000 in
set_option maxHeartbeats 4000000 in
theorem mX2_fitting (d : Nat) (h : mm_H) (A : MD) (hA : mdOK A) (Q : LD) (r : Nat) (hr : r < 6) (hQ : lawOK Q) (k : Nat) (hk : k < mk A) (hW : aimed A Q r k h) (W : Nat) (hWn : W < 2 ^ mn A) (H : List Int32) (hH : H.length ≤ 12) (hh1 : h.1 61 2 = nI H.length) (hh2 : ∀ j, j < H.length → h.1 62 j = H.getD j 0) (w : Int32) (hw : w = 0 ∨ w = 1 ∨ w = 2 ∨ w = 3 ∨ w = 4) : ∃ g, mm_M (d + 6) YX2_fitting [.ref 159, .int (nI W), .int w] h (some (.int (ftA (wtA A) (foldS W (ftS (chd A Q k) (wtA A) H) ft0 (2 ^ pc W)) w))) g ∧ aimed A Q r k g ∧ lrn_fr h g := by
  have h12 := hA.1
  have hp := p2_lt h12
  have hW4 : W < 4096 := by omega
  have hpW := pc_le hW4
  have hp2 := p2_lt hpW
  obtain ⟨g, M1, a1, a2, a3, a4⟩ := mX0_learnWithin d h A hA Q r hr hQ k hk hW W hWn 12 (by decide)
  have lrn : ∀ t, sub t W → ¬ g.1 136 t = 0 := fun t ht => a4 t ht (pc_le (by have := sub_le ht; omega))
  have e61 : g.1 61 2 = nI H.length := by rw [a2.1.i rfl]; exact hh1
  have e62 : ∀ j, j < H.length → g.1 62 j = H.getD j 0 := fun j hj => by rw [a2.1.i rfl]; exact hh2 j hj
  have a1' := a1
  obtain ⟨-, -, -, -, -, m, Wf, hcv⟩ := a1'
  refine ⟨g, ?_, a1, a2⟩
  refine mm_M.of [some (.ref 159), some (.int (nI W)), some (.int w), none, none, none, none, none, none, none, none, none, none] rfl rfl (Nat.le_of_ble_eq_true rfl) ?_
  have K42 : ∀ q i, i + q = 2 ^ pc W → ∀ s, s = foldS W (ftS (chd A Q k) (wtA A) H) ft0 i → mm_R (d + 6) YX2_fitting 42 [some (.ref 159), some (.int (nI W)), some (.int w), some (.int (nI s.1)), some (.int (o2 s.1 (nI s.2.1))), some (.int (o2 s.1 s.2.2.1)), some (.int (o2 s.1 s.2.2.2.1)), some (.int (o2 s.1 (nI s.2.2.2.2))), some (.int (nI (2 ^ pc W))), some (.int (nI (sbs W i))), some (.int (nI i)), none, none] [] g (some (.int (ftA (wtA A) (foldS W (ftS (chd A Q k) (wtA A) H) ft0 (2 ^ pc W)) w))) g := by
    intro q
    induction q with
    | zero =>
      intro i hi s hs
      have hi : i = 2 ^ pc W := by omega
      subst hi
      rw [← hs]
      have hinv := fs_inv (ch := chd A Q k) (wt := wtA A) (H := H) (W := W) (2 ^ pc W)
      rw [← hs] at hinv
      have hfe := sub_le hinv.2.1
      have hwf := a1.wt (show s.2.2.2.2 < 2 ^ mn A by omega) (lrn _ hinv.2.1)
      rcases hw with rfl | rfl | rfl | rfl | rfl
      · skip
        refine mm_iload dX2_fitting_42 rfl ?_
        refine mm_iload dX2_fitting_44 rfl ?_
        refine mm_icmp_ge 188 dX2_fitting_46 (by decide) (fun c_46 => ?_) (fun c_46 => ?_)
        · refine mm_iload_n dX2_fitting_188 rfl rfl ?_
          refine mm_tableIn (off := 31) 220 dX2_fitting_189 (by decide) (by decide) (by decide) (by decide) ?_
          refine mm_iload_n dX2_fitting_220 rfl rfl ?_
          exact mm_iretE dX2_fitting_221 rfl (ftA_0 _ _).symm rfl
        · exact absurd (Int32.le_refl _) c_46
      · skip
        refine mm_iload dX2_fitting_42 rfl ?_
        refine mm_iload dX2_fitting_44 rfl ?_
        refine mm_icmp_ge 188 dX2_fitting_46 (by decide) (fun c_46 => ?_) (fun c_46 => ?_)
        · refine mm_iload_n dX2_fitting_188 rfl rfl ?_
          refine mm_tableIn (off := 33) 222 dX2_fitting_189 (by decide) (by decide) (by decide) (by decide) ?_
          refine mm_iload dX2_fitting_222 rfl ?_
          exact mm_iretE dX2_fitting_224 rfl (ftA_1 _ _).symm rfl
        · exact absurd (Int32.le_refl _) c_46
      · skip
        refine mm_iload dX2_fitting_42 rfl ?_
        refine mm_iload dX2_fitting_44 rfl ?_
        refine mm_icmp_ge 188 dX2_fitting_46 (by decide) (fun c_46 => ?_) (fun c_46 => ?_)
        · refine mm_iload_n dX2_fitting_188 rfl rfl ?_
          refine mm_tableIn (off := 36) 225 dX2_fitting_189 (by decide) (by decide) (by decide) (by decide) ?_
          refine mm_iload dX2_fitting_225 rfl ?_
          exact mm_iretE dX2_fitting_227 rfl (ftA_2 _ _).symm rfl
        · exact absurd (Int32.le_refl _) c_46
      · skip
        refine mm_iload dX2_fitting_42 rfl ?_
        refine mm_iload dX2_fitting_44 rfl ?_
        refine mm_icmp_ge 188 dX2_fitting_46 (by decide) (fun c_46 => ?_) (fun c_46 => ?_)
        · refine mm_iload_n dX2_fitting_188 rfl rfl ?_
          refine mm_tableIn (off := 39) 228 dX2_fitting_189 (by decide) (by decide) (by decide) (by decide) ?_
          refine mm_iload dX2_fitting_228 rfl ?_
          exact mm_iretE dX2_fitting_230 rfl (ftA_3 _ _).symm rfl
        · exact absurd (Int32.le_refl _) c_46
      · skip
        refine mm_iload dX2_fitting_42 rfl ?_
        refine mm_iload dX2_fitting_44 rfl ?_
        refine mm_icmp_ge 188 dX2_fitting_46 (by decide) (fun c_46 => ?_) (fun c_46 => ?_)
        · refine mm_iload_n dX2_fitting_188 rfl rfl ?_
          refine mm_tableOut 231 dX2_fitting_189 (by decide) (by decide) ?_
          refine mm_iload_n dX2_fitting_231 rfl rfl ?_
          refine mm_if_ne 240 dX2_fitting_232 (by decide) (fun c_232 => ?_) (fun c_232 => ?_)
          · have hc0 : ¬ s.1 = 0 := fun z => c_232 (by rw [z]; rfl)
            refine mm_cast (ls' := [some (.ref 159), some (.int (nI W)), some (.int 4), some (.int (nI s.1)), some (.int (o2 s.1 (nI s.2.1))), some (.int (o2 s.1 s.2.2.1)), some (.int (o2 s.1 s.2.2.2.1)), some (.int (nI s.2.2.2.2)), some (.int (nI (2 ^ pc W))), some (.int (nI (sbs W (2 ^ pc W)))), some (.int (nI (2 ^ pc W))), none, none]) (by rw [show o2 s.1 (nI s.2.2.2.2) = nI s.2.2.2.2 by unfold o2; rw [if_neg hc0]]) rfl rfl ?_
            refine mm_aload_n dX2_fitting_240 rfl rfl ?_
            refine mm_getS dX2_fitting_241 fX2_32 sh_159 rfl gr_159_1 ?_
            refine mm_iload dX2_fitting_244 rfl ?_
            refine mm_cV (Y1 := YX0_worthOf) dX2_fitting_246 lX2_64 vX0_worthOf (mX0_worthOf (d + 5) g s.2.2.2.2 (by omega)) sh_135 rfl rfl (by simp [Value.category]) ?_
            exact mm_iretE dX2_fitting_249 rfl (by rw [ftA_4]; unfold o2; first | (rw [if_neg hc0]; exact hwf) | (rw [if_pos hc0])) rfl
          · have hc0 : s.1 = 0 := nI_inj (by omega) (by decide) c_232
            refine mm_bipush (x := (-2)) dX2_fitting_235 (by decide) ?_
            refine mm_goto 249 dX2_fitting_237 (by decide) ?_
            exact mm_iretE dX2_fitting_249 rfl (by rw [ftA_4]; unfold o2; first | (rw [if_neg hc0]; exact hwf) | (rw [if_pos hc0])) rfl
        · exact absurd (Int32.le_refl _) c_46
    | succ q ih =>
      intro i hi s hs
      have hin : i < 2 ^ pc W := by omega
      have hsW := sbs_le (i := i) hW4
      have nx := nxt_sbs hW4 hin
      have hinv := fs_inv (ch := chd A Q k) (wt := wtA A) (H := H) (W := W) i
      rw [← hs] at hinv
      have hfe := sub_le hinv.2.1
      obtain ⟨t, et⟩ : ∃ t, t = sbs W i := ⟨_, rfl⟩
      have hst : sub t W := by rw [et]; exact sbs_sub W i
      have htl := lrn t hst
      obtain ⟨ix, x1, x2, x3, x4, x5⟩ := hcv.ix (show t < 2 ^ mn A by omega) htl
      have M2 := mX0_isSame (d + 5) g (mn A) (chd A Q k) (wtA A) m Wf hcv ix x1 62 sh_62 H hH e62
      rw [x4] at M2
      have hS : foldS W (ftS (chd A Q k) (wtA A) H) ft0 (i + 1) = (ftS (chd A Q k) (wtA A) H) s t := by simp only [foldS]; rw [← hs, et]
      have K := ih (i + 1) (by omega) _ hS.symm
      have wb := wtA_bd hA t
      rw [← et]
      rw [← et] at nx hsW
      by_cases hf : chd A Q k t = H
      · by_cases hc0 : s.1 = 0
        · rw [ftS_0 hf hc0] at K
          have en : nI s.1 = 0 := by rw [hc0]; rfl
          have em : (if (-2 : Int32) < wtA A t then wtA A t else -2) = wtA A t := by
            have : (-2 : Int32) < wtA A t := by rw [Int32.lt_iff_toInt_lt]; have : (-2 : Int32).toInt = -2 := by decide
                                                omega
            rw [if_pos this]
          have o0 : ∀ x, o2 s.1 x = -2 := fun x => by unfold o2; rw [if_pos hc0]
          refine mm_iload dX2_fitting_42 rfl ?_
          refine mm_iload dX2_fitting_44 rfl ?_
          refine mm_icmp_ge 188 dX2_fitting_46 (by decide) (fun c_46 => ?_) (fun c_46 => ?_)
          · exact absurd c_46 (nI_ge hin (by omega))
          · refine mm_aload_n dX2_fitting_49 rfl rfl ?_
            refine mm_getS dX2_fitting_50 fX2_32 sh_159 rfl gr_159_1 ?_
            refine mm_aload_n dX2_fitting_53 rfl rfl ?_
            refine mm_getS dX2_fitting_54 fX2_32 sh_159 rfl gr_159_1 ?_
            refine mm_iload dX2_fitting_57 rfl ?_
            refine mm_cV (Y1 := YX0_numberOf) dX2_fitting_59 lX2_48 vX0_numberOf (mX0_numberOf (d + 5) g t (by omega)) sh_135 rfl rfl (by simp [Value.category]) ?_
            refine mm_aload_n dX2_fitting_62 rfl rfl ?_
            refine mm_getS dX2_fitting_63 fX2_28 sh_159 rfl gr_159_0 ?_
            refine mm_getS dX2_fitting_66 fX2_51 sh_61 rfl gr_61_1 ?_
            refine mm_aload_n dX2_fitting_69 rfl rfl ?_
            refine mm_getS dX2_fitting_70 fX2_28 sh_159 rfl gr_159_0 ?_
            refine mm_getI dX2_fitting_73 fX2_56 sh_61 rfl ?_
            refine mm_cast (st' := [.int (nI H.length), .ref 62, .int (nI (ix + 1)), .ref 135]) rfl (by rw [e61, x3]; rfl) rfl ?_
            refine mm_cV (Y1 := YX0_isSame) dX2_fitting_76 lX2_60 vX0_isSame (M2) sh_135 rfl rfl (by simp [Value.category]) ?_
            refine mm_if_eq 174 dX2_fitting_79 (by decide) (fun c_79 => ?_) (fun c_79 => ?_)
            · exact absurd hf (bI_e0.mp c_79)
            · refine mm_aload_n dX2_fitting_82 rfl rfl ?_
              refine mm_getS dX2_fitting_83 fX2_32 sh_159 rfl gr_159_1 ?_
              refine mm_iload dX2_fitting_86 rfl ?_
              refine mm_cV (Y1 := YX0_worthOf) dX2_fitting_88 lX2_64 vX0_worthOf (mX0_worthOf (d + 5) g t (by omega)) sh_135 rfl rfl (by simp [Value.category]) ?_
              refine mm_istore dX2_fitting_91 (by decide) rfl ?_
              refine mm_iload_n dX2_fitting_93 rfl rfl ?_
              refine mm_if_ne 102 dX2_fitting_94 (by decide) (fun c_94 => ?_) (fun c_94 => ?_)
              · exact absurd en c_94
              · refine mm_iload dX2_fitting_97 rfl ?_
                refine mm_goto 104 dX2_fitting_99 (by decide) ?_
                refine mm_istore dX2_fitting_104 (by decide) rfl ?_
                refine mm_iload_n dX2_fitting_106 rfl rfl ?_
                refine mm_if_ne 115 dX2_fitting_107 (by decide) (fun c_107 => ?_) (fun c_107 => ?_)
                · exact absurd en c_107
                · refine mm_iload dX2_fitting_110 rfl ?_
                  refine mm_goto 122 dX2_fitting_112 (by decide) ?_
                  refine mm_istore dX2_fitting_122 (by decide) rfl ?_
                  refine mm_iload dX2_fitting_124 rfl ?_
                  refine mm_iload dX2_fitting_126 rfl ?_
                  refine mm_maxI dX2_fitting_128 lX2_73 (by simp [Value.category]) ?_
                  refine mm_istore dX2_fitting_131 (by decide) rfl ?_
                  refine mm_iload_n dX2_fitting_133 rfl rfl ?_
                  refine mm_if_eq 150 dX2_fitting_134 (by decide) (fun c_134 => ?_) (fun c_134 => ?_)
                  · refine mm_iconst (x := 1) dX2_fitting_150 (by decide) ?_
                    refine mm_goto 155 dX2_fitting_151 (by decide) ?_
                    refine mm_istore dX2_fitting_155 (by decide) rfl ?_
                    refine mm_iload dX2_fitting_157 rfl ?_
                    refine mm_if_eq 167 dX2_fitting_159 (by decide) (fun c_159 => ?_) (fun c_159 => ?_)
                    · exact absurd c_159 (by decide)
                    · refine mm_iload dX2_fitting_162 rfl ?_
                      refine mm_goto 169 dX2_fitting_164 (by decide) ?_
                      refine mm_istore dX2_fitting_169 (by decide) rfl ?_
                      refine mm_iinc dX2_fitting_171 rfl rfl rfl ?_
                      refine mm_iload dX2_fitting_174 rfl ?_
                      refine mm_iload_n dX2_fitting_176 rfl rfl ?_
                      refine mm_cSN (Y1 := YX10_nextWithin) dX2_fitting_177 (List.Mem.tail _ (List.Mem.head _)) sX10_nextWithin (mX10_nextWithin (d + 5) g (nI t) (nI W)) rfl rfl (by simp [Value.category]) ?_
                      refine mm_istore dX2_fitting_180 (by decide) rfl ?_
                      refine mm_iinc dX2_fitting_182 rfl (nI_inc i) rfl ?_
                      refine mm_goto 42 dX2_fitting_185 (by decide) ?_
                      refine mm_lessE ?_ K
                      refine ⟨rfl, rfl, rfl, ?_, ?_, ?_, ?_, ?_, rfl, ?_, rfl, trivial⟩
                      · rw [en]; rfl
                      · rfl
                      · rw [x5]; rfl
                      · rw [o0, x5, em]; rfl
                      · rfl
                      · rw [nx]
                  · exact absurd en c_134
        · rw [ftS_s hf hc0] at K
          have en : ¬ nI s.1 = 0 := nI_ne0 (by omega) (by omega)
          have o1 : ∀ x, o2 s.1 x = x := fun x => by unfold o2; rw [if_neg hc0]
          have o3 : ∀ x, o2 (s.1 + 1) x = x := fun x => by unfold o2; rw [if_neg (by omega)]
          have hpt := pc_le (show t < 4096 by omega)
          have hpf := pc_le (show s.2.2.2.2 < 4096 by omega)
          simp only [o3] at K
          simp only [o1]
          refine mm_iload dX2_fitting_42 rfl ?_
          refine mm_iload dX2_fitting_44 rfl ?_
          refine mm_icmp_ge 188 dX2_fitting_46 (by decide) (fun c_46 => ?_) (fun c_46 => ?_)
          · exact absurd c_46 (nI_ge hin (by omega))
          · refine mm_aload_n dX2_fitting_49 rfl rfl ?_
            refine mm_getS dX2_fitting_50 fX2_32 sh_159 rfl gr_159_1 ?_
            refine mm_aload_n dX2_fitting_53 rfl rfl ?_
            refine mm_getS dX2_fitting_54 fX2_32 sh_159 rfl gr_159_1 ?_
            refine mm_iload dX2_fitting_57 rfl ?_
            refine mm_cV (Y1 := YX0_numberOf) dX2_fitting_59 lX2_48 vX0_numberOf (mX0_numberOf (d + 5) g t (by omega)) sh_135 rfl rfl (by simp [Value.category]) ?_
            refine mm_aload_n dX2_fitting_62 rfl rfl ?_
            refine mm_getS dX2_fitting_63 fX2_28 sh_159 rfl gr_159_0 ?_
            refine mm_getS dX2_fitting_66 fX2_51 sh_61 rfl gr_61_1 ?_
            refine mm_aload_n dX2_fitting_69 rfl rfl ?_
            refine mm_getS dX2_fitting_70 fX2_28 sh_159 rfl gr_159_0 ?_
            refine mm_getI dX2_fitting_73 fX2_56 sh_61 rfl ?_
            refine mm_cast (st' := [.int (nI H.length), .ref 62, .int (nI (ix + 1)), .ref 135]) rfl (by rw [e61, x3]; rfl) rfl ?_
            refine mm_cV (Y1 := YX0_isSame) dX2_fitting_76 lX2_60 vX0_isSame (M2) sh_135 rfl rfl (by simp [Value.category]) ?_
            refine mm_if_eq 174 dX2_fitting_79 (by decide) (fun c_79 => ?_) (fun c_79 => ?_)
            · exact absurd hf (bI_e0.mp c_79)
            · refine mm_aload_n dX2_fitting_82 rfl rfl ?_
              refine mm_getS dX2_fitting_83 fX2_32 sh_159 rfl gr_159_1 ?_
              refine mm_iload dX2_fitting_86 rfl ?_
              refine mm_cV (Y1 := YX0_worthOf) dX2_fitting_88 lX2_64 vX0_worthOf (mX0_worthOf (d + 5) g t (by omega)) sh_135 rfl rfl (by simp [Value.category]) ?_
              refine mm_istore dX2_fitting_91 (by decide) rfl ?_
              refine mm_iload_n dX2_fitting_93 rfl rfl ?_
              refine mm_if_ne 102 dX2_fitting_94 (by decide) (fun c_94 => ?_) (fun c_94 => ?_)
              · refine mm_iload dX2_fitting_102 rfl ?_
                refine mm_istore dX2_fitting_104 (by decide) rfl ?_
                refine mm_iload_n dX2_fitting_106 rfl rfl ?_
                refine mm_if_ne 115 dX2_fitting_107 (by decide) (fun c_107 => ?_) (fun c_107 => ?_)
                · refine mm_iload dX2_fitting_115 rfl ?_
                  refine mm_iload dX2_fitting_117 rfl ?_
                  refine mm_minI dX2_fitting_119 lX2_67 (by simp [Value.category]) ?_
                  refine mm_istore dX2_fitting_122 (by decide) rfl ?_
                  refine mm_iload dX2_fitting_124 rfl ?_
                  refine mm_iload dX2_fitting_126 rfl ?_
                  refine mm_maxI dX2_fitting_128 lX2_73 (by simp [Value.category]) ?_
                  refine mm_istore dX2_fitting_131 (by decide) rfl ?_
                  refine mm_iload_n dX2_fitting_133 rfl rfl ?_
                  refine mm_if_eq 150 dX2_fitting_134 (by decide) (fun c_134 => ?_) (fun c_134 => ?_)
                  · exact absurd c_134 en
                  · refine mm_iload dX2_fitting_137 rfl ?_
                    refine mm_cS (Y1 := YJ6_bitCount_0f7a4) dX2_fitting_139 lX2_36 sJ6_bitCount_0f7a4 (mJ6_bitCount_0f7a4 (d + 5) g t (by omega)) rfl rfl (by simp [Value.category]) ?_
                    refine mm_iload dX2_fitting_142 rfl ?_
                    refine mm_cS (Y1 := YJ6_bitCount_0f7a4) dX2_fitting_144 lX2_36 sJ6_bitCount_0f7a4 (mJ6_bitCount_0f7a4 (d + 5) g s.2.2.2.2 (by omega)) rfl rfl (by simp [Value.category]) ?_
                    refine mm_icmp_ge 154 dX2_fitting_147 (by decide) (fun c_147 => ?_) (fun c_147 => ?_)
                    · have hcm : ¬ pc t < pc s.2.2.2.2 := fun z => absurd c_147 (nI_ge z (by omega))
                      rw [if_neg hcm] at K
                      refine mm_iconst (x := 0) dX2_fitting_154 (by decide) ?_
                      refine mm_istore dX2_fitting_155 (by decide) rfl ?_
                      refine mm_iload dX2_fitting_157 rfl ?_
                      refine mm_if_eq 167 dX2_fitting_159 (by decide) (fun c_159 => ?_) (fun c_159 => ?_)
                      · refine mm_iload dX2_fitting_167 rfl ?_
                        refine mm_istore dX2_fitting_169 (by decide) rfl ?_
                        refine mm_iinc dX2_fitting_171 rfl rfl rfl ?_
                        refine mm_iload dX2_fitting_174 rfl ?_
                        refine mm_iload_n dX2_fitting_176 rfl rfl ?_
                        refine mm_cSN (Y1 := YX10_nextWithin) dX2_fitting_177 (List.Mem.tail _ (List.Mem.head _)) sX10_nextWithin (mX10_nextWithin (d + 5) g (nI t) (nI W)) rfl rfl (by simp [Value.category]) ?_
                        refine mm_istore dX2_fitting_180 (by decide) rfl ?_
                        refine mm_iinc dX2_fitting_182 rfl (nI_inc i) rfl ?_
                        refine mm_goto 42 dX2_fitting_185 (by decide) ?_
                        refine mm_lessE ?_ K
                        refine ⟨rfl, rfl, rfl, ?_, rfl, ?_, ?_, rfl, rfl, ?_, rfl, trivial⟩
                        · rw [nI_inc]
                        · rw [x5]
                        · rw [x5]
                        · rw [nx]
                      · exact absurd c_159 (by decide)
                    · have hcm : pc t < pc s.2.2.2.2 := Nat.lt_of_not_le (fun z => c_147 (nI_le z (by omega)))
                      rw [if_pos hcm] at K
                      refine mm_iconst (x := 1) dX2_fitting_150 (by decide) ?_
                      refine mm_goto 155 dX2_fitting_151 (by decide) ?_
                      refine mm_istore dX2_fitting_155 (by decide) rfl ?_
                      refine mm_iload dX2_fitting_157 rfl ?_
                      refine mm_if_eq 167 dX2_fitting_159 (by decide) (fun c_159 => ?_) (fun c_159 => ?_)
                      · exact absurd c_159 (by decide)
                      · refine mm_iload dX2_fitting_162 rfl ?_
                        refine mm_goto 169 dX2_fitting_164 (by decide) ?_
                        refine mm_istore dX2_fitting_169 (by decide) rfl ?_
                        refine mm_iinc dX2_fitting_171 rfl rfl rfl ?_
                        refine mm_iload dX2_fitting_174 rfl ?_
                        refine mm_iload_n dX2_fitting_176 rfl rfl ?_
                        refine mm_cSN (Y1 := YX10_nextWithin) dX2_fitting_177 (List.Mem.tail _ (List.Mem.head _)) sX10_nextWithin (mX10_nextWithin (d + 5) g (nI t) (nI W)) rfl rfl (by simp [Value.category]) ?_
                        refine mm_istore dX2_fitting_180 (by decide) rfl ?_
                        refine mm_iinc dX2_fitting_182 rfl (nI_inc i) rfl ?_
                        refine mm_goto 42 dX2_fitting_185 (by decide) ?_
                        refine mm_lessE ?_ K
                        refine ⟨rfl, rfl, rfl, ?_, rfl, ?_, ?_, rfl, rfl, ?_, rfl, trivial⟩
                        · rw [nI_inc]
                        · rw [x5]
                        · rw [x5]
                        · rw [nx]
                · exact absurd c_107 en
              · exact absurd c_94 en
      · rw [ftS_n hf] at K
        refine mm_iload dX2_fitting_42 rfl ?_
        refine mm_iload dX2_fitting_44 rfl ?_
        refine mm_icmp_ge 188 dX2_fitting_46 (by decide) (fun c_46 => ?_) (fun c_46 => ?_)
        · exact absurd c_46 (nI_ge hin (by omega))
        · refine mm_aload_n dX2_fitting_49 rfl rfl ?_
          refine mm_getS dX2_fitting_50 fX2_32 sh_159 rfl gr_159_1 ?_
          refine mm_aload_n dX2_fitting_53 rfl rfl ?_
          refine mm_getS dX2_fitting_54 fX2_32 sh_159 rfl gr_159_1 ?_
          refine mm_iload dX2_fitting_57 rfl ?_
          refine mm_cV (Y1 := YX0_numberOf) dX2_fitting_59 lX2_48 vX0_numberOf (mX0_numberOf (d + 5) g t (by omega)) sh_135 rfl rfl (by simp [Value.category]) ?_
          refine mm_aload_n dX2_fitting_62 rfl rfl ?_
          refine mm_getS dX2_fitting_63 fX2_28 sh_159 rfl gr_159_0 ?_
          refine mm_getS dX2_fitting_66 fX2_51 sh_61 rfl gr_61_1 ?_
          refine mm_aload_n dX2_fitting_69 rfl rfl ?_
          refine mm_getS dX2_fitting_70 fX2_28 sh_159 rfl gr_159_0 ?_
          refine mm_getI dX2_fitting_73 fX2_56 sh_61 rfl ?_
          refine mm_cast (st' := [.int (nI H.length), .ref 62, .int (nI (ix + 1)), .ref 135]) rfl (by rw [e61, x3]; rfl) rfl ?_
          refine mm_cV (Y1 := YX0_isSame) dX2_fitting_76 lX2_60 vX0_isSame (M2) sh_135 rfl rfl (by simp [Value.category]) ?_
          refine mm_if_eq 174 dX2_fitting_79 (by decide) (fun c_79 => ?_) (fun c_79 => ?_)
          · refine mm_iload dX2_fitting_174 rfl ?_
            refine mm_iload_n dX2_fitting_176 rfl rfl ?_
            refine mm_cSN (Y1 := YX10_nextWithin) dX2_fitting_177 (List.Mem.tail _ (List.Mem.head _)) sX10_nextWithin (mX10_nextWithin (d + 5) g (nI t) (nI W)) rfl rfl (by simp [Value.category]) ?_
            refine mm_istore dX2_fitting_180 (by decide) rfl ?_
            refine mm_iinc dX2_fitting_182 rfl (nI_inc i) rfl ?_
            refine mm_goto 42 dX2_fitting_185 (by decide) ?_
            exact mm_cast (by rw [nx]; rfl) rfl rfl K
          · exact absurd (bI_n0.mp c_79) hf
  have K := K42 (2 ^ pc W) 0 (by omega) _ rfl
  rw [sbs_0] at K
  refine mm_iconst (x := 0) dX2_fitting_0 (by decide) ?_
  refine mm_istore_n dX2_fitting_1 rfl (by decide) rfl ?_
  refine mm_bipush (x := (-2)) dX2_fitting_2 (by decide) ?_
  refine mm_istore dX2_fitting_4 (by decide) rfl ?_
  refine mm_bipush (x := (-2)) dX2_fitting_6 (by decide) ?_
  refine mm_istore dX2_fitting_8 (by decide) rfl ?_
  refine mm_bipush (x := (-2)) dX2_fitting_10 (by decide) ?_
  refine mm_istore dX2_fitting_12 (by decide) rfl ?_
  refine mm_bipush (x := (-2)) dX2_fitting_14 (by decide) ?_
  refine mm_istore dX2_fitting_16 (by decide) rfl ?_
  refine mm_iconst (x := 1) dX2_fitting_18 (by decide) ?_
  refine mm_iload_n dX2_fitting_19 rfl rfl ?_
  refine mm_cS (Y1 := YJ6_bitCount_0f7a4) dX2_fitting_20 lX2_36 sJ6_bitCount_0f7a4 (mJ6_bitCount_0f7a4 (d + 5) h W hW4) rfl rfl (by simp [Value.category]) ?_
  refine mm_ishl dX2_fitting_23 ?_
  refine mm_istore dX2_fitting_24 (by decide) rfl ?_
  refine mm_iconst (x := 0) dX2_fitting_26 (by decide) ?_
  refine mm_istore dX2_fitting_27 (by decide) rfl ?_
  refine mm_aload_n dX2_fitting_29 rfl rfl ?_
  refine mm_getS dX2_fitting_30 fX2_32 sh_159 rfl gr_159_1 ?_
  refine mm_iload_n dX2_fitting_33 rfl rfl ?_
  refine mm_bipush (x := 12) dX2_fitting_34 (by decide) ?_
  refine mm_cV (Y1 := YX0_learnWithin) dX2_fitting_36 lX2_42 vX0_learnWithin (M1) sh_135 rfl rfl (by simp [Value.category]) ?_
  refine mm_iconst (x := 0) dX2_fitting_39 (by decide) ?_
  refine mm_istore dX2_fitting_40 (by decide) rfl ?_
  exact mm_cast (by rw [sh1 hpW]; rfl) rfl rfl K
set_option maxRecDepth 100000 in
set_option maxHeartbeats 4000000 in
theorem mX10_fits_n (d : Nat) (h : mm_H) (A : MD) (LQ : Nat → LD) (nl G : Nat) (S : stC A LQ nl h G) (r k s w : Int32) (hb : ¬ (askP A nl r k s ∧ (0 ≤ w.toInt ∧ w.toInt ≤ 4))) : mm_M (d + 2) YX10_fits [.ref 0, .int r, .int k, .int s, .int w] h (some (.int (-1))) h := by
  refine mm_M.of [some (.ref 0), some (.int r), some (.int k), some (.int s), some (.int w)] rfl rfl (Nat.le_of_ble_eq_true rfl) ?_
  refine mm_aload_n dX10_fits_0 rfl rfl ?_
  refine mm_iload_n dX10_fits_1 rfl rfl ?_
  refine mm_iload_n dX10_fits_2 rfl rfl ?_
  refine mm_iload_n dX10_fits_3 rfl rfl ?_
  refine mm_cV (Y1 := YX10_isHearable) dX10_fits_4 lX10_179 vX10_isHearable (mX10_isHearable d h nl (mn A) (mk A) S.2.2.1 S.2.2.2.1 S.2.1.1 S.1.1 S.2.1.2.1 S.1.2.1 r k s) sh_0 rfl rfl (by simp [Value.category]) ?_
  refine mm_if_eq 21 dX10_fits_7 (by decide) (fun c_7 => ?_) (fun c_7 => ?_)
  · refine mm_iconst (x := (-1)) dX10_fits_21 (by decide) ?_
    exact mm_iretE dX10_fits_22 rfl rfl rfl
  · refine mm_iload dX10_fits_10 rfl ?_
    refine mm_if_lt 21 dX10_fits_12 (by decide) (fun c_12 => ?_) (fun c_12 => ?_)
    · refine mm_iconst (x := (-1)) dX10_fits_21 (by decide) ?_
      exact mm_iretE dX10_fits_22 rfl rfl rfl
    · refine mm_iload dX10_fits_15 rfl ?_
      refine mm_iconst (x := 4) dX10_fits_17 (by decide) ?_
      refine mm_icmp_le 23 dX10_fits_18 (by decide) (fun c_18 => ?_) (fun c_18 => ?_)
      · exact absurd ⟨bI_n0.mp c_7, by rw [Int32.lt_iff_toInt_lt, ti_0] at c_12; omega, by rw [Int32.le_iff_toInt_le, ti_4] at c_18; exact c_18⟩ hb
      · refine mm_iconst (x := (-1)) dX10_fits_21 (by decide) ?_
        exact mm_iretE dX10_fits_22 rfl rfl rfl
theorem w04 {w : Int32} (h : 0 ≤ w.toInt ∧ w.toInt ≤ 4) : w = 0 ∨ w = 1 ∨ w = 2 ∨ w = 3 ∨ w = 4 := by
  obtain ⟨j, hj, rfl⟩ := nI_ex (n := 5) (show 0 ≤ w.toInt ∧ w.toInt < (5 : Nat) by omega)
  rcases (show j = 0 ∨ j = 1 ∨ j = 2 ∨ j = 3 ∨ j = 4 by omega) with rfl | rfl | rfl | rfl | rfl
  · exact Or.inl rfl
  · exact Or.inr (Or.inl rfl)
  · exact Or.inr (Or.inr (Or.inl rfl))
  · exact Or.inr (Or.inr (Or.inr (Or.inl rfl)))
  · exact Or.inr (Or.inr (Or.inr (Or.inr rfl)))
set_option maxRecDepth 100000 in
set_option maxHeartbeats 4000000 in
theorem mX10_fits_y (d : Nat) (h : mm_H) (A : MD) (LQ : Nat → LD) (nl G : Nat) (S : stC A LQ nl h G) (r k a : Nat) (hr : r < nl) (hk : k < mk A) (ha : a < 2 ^ mn A) (H : List Int32) (hH : H.length ≤ 12) (hh1 : h.1 61 2 = nI H.length) (hh2 : ∀ j, j < H.length → h.1 62 j = H.getD j 0) (w : Int32) (hw : 0 ≤ w.toInt ∧ w.toInt ≤ 4) : ∃ g, mm_M (d + 7) YX10_fits [.ref 0, .int (nI r), .int (nI k), .int (nI a), .int w] h (some (.int (ftA (wtA A) (foldW a (ftS (chd A (LQ r) k) (wtA A) H) ft0 (a + 1)) w))) g ∧ cfr h g ∧ stC A LQ nl g G := by
  have S0 := S
  obtain ⟨g1, M1, a1, a2, a3⟩ := aimC (d + 5) h A LQ nl G S r k hr hk
  have N1 := mX10_isHearable (d + 5) h nl (mn A) (mk A) S.2.2.1 S.2.2.2.1 S.2.1.1 S.1.1 S.2.1.2.1 S.1.2.1 (nI r) (nI k) (nI a)
  obtain ⟨hA, hV, h6, hn6, hL, -, -⟩ := S
  have h12 := hA.1
  have h4 := hA.2.1
  have hp := p2_lt h12
  obtain ⟨g2, M2, b1, b2⟩ := mX2_fitting d g1 A hA (LQ r) r (by omega) (hL r hr).1 k hk a1.1 a ha H hH (by rw [(a3.1 61 rfl).1]; exact hh1) (fun j hj => by rw [(a3.1 62 rfl).1]; exact hh2 j hj) w (w04 hw)
  rw [fold_all (by omega)] at M2
  refine ⟨g2, ?_, a3.trans b2.cfr, S0.next (a3.trans b2.cfr) hr hk (b2.at a1 b1) (b2.gcn a2)⟩
  refine mm_M.of [some (.ref 0), some (.int (nI r)), some (.int (nI k)), some (.int (nI a)), some (.int w)] rfl rfl (Nat.le_of_ble_eq_true rfl) ?_
  refine mm_aload_n dX10_fits_0 rfl rfl ?_
  refine mm_iload_n dX10_fits_1 rfl rfl ?_
  refine mm_iload_n dX10_fits_2 rfl rfl ?_
  refine mm_iload_n dX10_fits_3 rfl rfl ?_
  refine mm_cV (Y1 := YX10_isHearable) dX10_fits_4 lX10_179 vX10_isHearable (N1) sh_0 rfl rfl (by simp [Value.category]) ?_
  refine mm_if_eq 21 dX10_fits_7 (by decide) (fun c_7 => ?_) (fun c_7 => ?_)
  · exact absurd (ask_of hn6 hA hr hk ha) (bI_e0.mp c_7)
  · refine mm_iload dX10_fits_10 rfl ?_
    refine mm_if_lt 21 dX10_fits_12 (by decide) (fun c_12 => ?_) (fun c_12 => ?_)
    · exfalso; rw [Int32.lt_iff_toInt_lt, ti_0] at c_12; omega
    · refine mm_iload dX10_fits_15 rfl ?_
      refine mm_iconst (x := 4) dX10_fits_17 (by decide) ?_
      refine mm_icmp_le 23 dX10_fits_18 (by decide) (fun c_18 => ?_) (fun c_18 => ?_)
      · refine mm_aload_n dX10_fits_23 rfl rfl ?_
        refine mm_getS dX10_fits_24 fX10_69 sh_0 rfl gr_0_10 ?_
        refine mm_aload_n dX10_fits_27 rfl rfl ?_
        refine mm_getS dX10_fits_28 fX10_38 sh_0 rfl gr_0_5 ?_
        refine mm_iload_n dX10_fits_31 rfl rfl ?_
        refine mm_aald (r) dX10_fits_32 (Or.inl rfl) sh_2 rfl (by omega) (gr_2 (by omega)) ?_
        refine mm_iload_n dX10_fits_33 rfl rfl ?_
        refine mm_cV (Y1 := YX0_aim) dX10_fits_34 lX10_183 vX0_aim (M1) sh_135 rfl rfl (by simp [Value.category]) ?_
        refine mm_aload_n dX10_fits_37 rfl rfl ?_
        refine mm_getS dX10_fits_38 fX10_87 sh_0 rfl gr_0_12 ?_
        refine mm_iload_n dX10_fits_41 rfl rfl ?_
        refine mm_iload dX10_fits_42 rfl ?_
        refine mm_cV (Y1 := YX2_fitting) dX10_fits_44 lX10_229 vX2_fitting (M2) sh_159 rfl rfl (by simp [Value.category]) ?_
        exact mm_iretE dX10_fits_47 rfl rfl rfl
      · exfalso; rw [Int32.le_iff_toInt_le, ti_4] at c_18; omega
set_option maxRecDepth 100000 in
set_option maxHeartbeats 4000000 in
theorem mX11_fits_n (d : Nat) (h : mm_H) (A : MD) (LQ : Nat → LD) (nl : Nat) (S : stM A LQ nl h) (r k s w : Int32) (hb : ¬ (askP A nl r k s ∧ (0 ≤ w.toInt ∧ w.toInt ≤ 4))) : mm_M (d + 3) YX11_fits [.ref 165, .int r, .int k, .int s, .int w] h (some (.int (-1))) h := by
  refine mm_M.of [some (.ref 165), some (.int r), some (.int k), some (.int s), some (.int w), none, none, none, none, none, none, none] rfl rfl (Nat.le_of_ble_eq_true rfl) ?_
  refine mm_aload_n dX11_fits_0 rfl rfl ?_
  refine mm_iload_n dX11_fits_1 rfl rfl ?_
  refine mm_iload_n dX11_fits_2 rfl rfl ?_
  refine mm_iload_n dX11_fits_3 rfl rfl ?_
  refine mm_cV (Y1 := YX11_isAsked) dX11_fits_4 lX11_408 vX11_isAsked (mX11_isAsked d h nl (mn A) (mk A) S.2.2.1 S.2.2.2.1 S.2.1.1 S.1.1 S.2.1.2.1 S.1.2.1 r k s) sh_165 rfl rfl (by simp [Value.category]) ?_
  refine mm_if_eq 23 dX11_fits_7 (by decide) (fun c_7 => ?_) (fun c_7 => ?_)
  · refine mm_iconst (x := (-1)) dX11_fits_23 (by decide) ?_
    exact mm_iretE dX11_fits_24 rfl rfl rfl
  · refine mm_iload dX11_fits_10 rfl ?_
    refine mm_i2l dX11_fits_12 rfl ?_
    refine mm_lconst (x := 0) dX11_fits_13 (by decide) ?_
    refine mm_ldc2 dX11_fits_14 kX11_441 ?_
    refine mm_cS (Y1 := YX11_in) dX11_fits_17 lX11_171 sX11_in (mX11_in (d + 2) h _ _ _) rfl rfl (by simp [Value.category]) ?_
    refine mm_if_ne 25 dX11_fits_20 (by decide) (fun c_20 => ?_) (fun c_20 => ?_)
    · exact absurd ⟨bI_n0.mp c_7, by have q := bI_n0.mp c_20; rw [i64_toInt, li_0, li_4] at q; exact q⟩ hb
    · refine mm_iconst (x := (-1)) dX11_fits_23 (by decide) ?_
      exact mm_iretE dX11_fits_24 rfl rfl rfl
set_option maxRecDepth 100000 in
set_option maxHeartbeats 4000000 in
theorem mX11_fits_y (d : Nat) (h : mm_H) (A : MD) (LQ : Nat → LD) (nl : Nat) (S : stM A LQ nl h) (r k a : Nat) (hr : r < nl) (hk : k < mk A) (ha : a < 2 ^ mn A) (H : List Int32) (hH : H.length ≤ 12) (hh1 : h.1 166 4 = nI H.length) (hh2 : ∀ j, j < H.length → h.1 182 j = H.getD j 0) (w : Int32) (hw : 0 ≤ w.toInt ∧ w.toInt ≤ 4) : ∃ g, mm_M (d + 7) YX11_fits [.ref 165, .int (nI r), .int (nI k), .int (nI a), .int w] h (some (.int (ftA (wtA A) (foldW a (ftS (chd A (LQ r) k) (wtA A) H) ft0 (a + 1)) w))) g ∧ mfr h g := by
  have N1 := mX11_isAsked (d + 4) h nl (mn A) (mk A) S.2.2.1 S.2.2.2.1 S.2.1.1 S.1.1 S.2.1.2.1 S.1.2.1 (nI r) (nI k) (nI a)
  obtain ⟨hA, hV, h6, hn6, hL⟩ := S
  have h12 := hA.1
  have h4 := hA.2.1
  have hp := p2_lt h12
  suffices hE : mm_E (d + 7) YX11_fits 0 [some (.ref 165), some (.int (nI r)), some (.int (nI k)), some (.int (nI a)), some (.int w), none, none, none, none, none, none, none] [] h (fun v g => v = some (.int (ftA (wtA A) (foldW a (ftS (chd A (LQ r) k) (wtA A) H) ft0 (a + 1)) w)) ∧ mfr h g) by
    obtain ⟨v, g, hR, rfl, hf⟩ := hE
    exact ⟨g, mm_M.of _ rfl rfl (Nat.le_of_ble_eq_true rfl) hR, hf⟩
  have ha4 : a < 4096 := by omega
  have K45 : ∀ q i, i + q = a + 1 → ∀ s, s = foldW a (ftS (chd A (LQ r) k) (wtA A) H) ft0 i → ∀ g, mfr h g → mm_E (d + 7) YX11_fits 45 [some (.ref 165), some (.int (nI r)), some (.int (nI k)), some (.int (nI a)), some (.int w), some (.int (nI s.1)), some (.int (o2 s.1 (nI s.2.1))), some (.int (o2 s.1 (nI s.2.2.2.2))), some (.int (if s.1 = 0 then 0 else s.2.2.1)), some (.int (if s.1 = 0 then 0 else s.2.2.2.1)), some (.int (nI i)), none] [] g (fun v g => v = some (.int (ftA (wtA A) (foldW a (ftS (chd A (LQ r) k) (wtA A) H) ft0 (a + 1)) w)) ∧ mfr h g) := by
    intro q
    induction q with
    | zero =>
      intro i hi s hs g fg
      have hi : i = a + 1 := by omega
      subst hi
      rw [← hs]
      have hVg := viewM_f hV fg.1 (fun c hc => pMs_f (by omega) (by omega))
      have hinv := fw_inv (ch := chd A (LQ r) k) (wt := wtA A) (H := H) (W := a) (a + 1)
      rw [← hs] at hinv
      have hfe := sub_le hinv.2.1
      have M3 := mX11_worthOf (d + 5) g (mn A) hVg.1 h12 (nI s.2.2.2.2)
      rw [sp_wth_c (mn A) (fun c hc => (hVg.2.2.2.2.1 c hc).2.2.1)] at M3
      by_cases w0 : w = 0
      · subst w0
        refine mm_Es (fun _ _ => mm_iload dX11_fits_45 rfl) ?_
        refine mm_Es (fun _ _ => mm_iload_n dX11_fits_47 rfl rfl) ?_
        refine mm_Eb (fun _ _ => mm_icmp_gt 179 dX11_fits_48 (by decide)) (fun c_48 => ?_) (fun c_48 => ?_)
        · refine mm_Es (fun _ _ => mm_iload dX11_fits_179 rfl) ?_
          refine mm_Eb (fun _ _ => mm_if_eq 189 dX11_fits_181 (by decide)) (fun c_181 => ?_) (fun c_181 => ?_)
          · refine mm_Es (fun _ _ => mm_iload dX11_fits_189 rfl) ?_
            refine mm_Ebn (fun _ _ => mm_if_ne 201 dX11_fits_191 (by decide)) (fun c_191 => ?_) (fun c_191 => ?_)
            · exact absurd c_191 (by decide)
            · refine mm_Es (fun _ _ => mm_iconst (x := 0) dX11_fits_194 (by decide)) ?_
              refine mm_Es (fun _ _ => mm_iload dX11_fits_195 rfl) ?_
              refine mm_Es (fun _ _ => mm_iadd dX11_fits_197) ?_
              refine mm_Es (fun _ _ => mm_goto 203 dX11_fits_198 (by decide)) ?_
              refine mm_Er (mm_ireturn dX11_fits_203 rfl) ?_
              refine ⟨?_, fg⟩
              rw [ftA_0, Int32.zero_add]
          · exact absurd c_181 (by decide)
        · exact absurd (nI_lt (show a < a + 1 by omega) (by omega)) c_48
      · by_cases hc0 : s.1 = 0
        · have en : nI s.1 = 0 := by rw [hc0]; rfl
          have e2 : ftA (wtA A) s w = -2 := by unfold ftA; rw [if_neg w0, if_pos hc0]
          refine mm_Es (fun _ _ => mm_iload dX11_fits_45 rfl) ?_
          refine mm_Es (fun _ _ => mm_iload_n dX11_fits_47 rfl rfl) ?_
          refine mm_Eb (fun _ _ => mm_icmp_gt 179 dX11_fits_48 (by decide)) (fun c_48 => ?_) (fun c_48 => ?_)
          · refine mm_Es (fun _ _ => mm_iload dX11_fits_179 rfl) ?_
            refine mm_Eb (fun _ _ => mm_if_eq 189 dX11_fits_181 (by decide)) (fun c_181 => ?_) (fun c_181 => ?_)
            · exact absurd c_181 w0
            · refine mm_Es (fun _ _ => mm_iload dX11_fits_184 rfl) ?_
              refine mm_Ebn (fun _ _ => mm_if_ne 204 dX11_fits_186 (by decide)) (fun c_186 => ?_) (fun c_186 => ?_)
              · exact absurd en c_186
              · refine mm_Es (fun _ _ => mm_iload dX11_fits_189 rfl) ?_
                refine mm_Ebn (fun _ _ => mm_if_ne 201 dX11_fits_191 (by decide)) (fun c_191 => ?_) (fun c_191 => ?_)
                · refine mm_Es (fun _ _ => mm_bipush (x := (-2)) dX11_fits_201 (by decide)) ?_
                  refine mm_Er (mm_ireturn dX11_fits_203 rfl) ?_
                  exact ⟨by rw [e2], fg⟩
                · exact absurd c_191 w0
          · exact absurd (nI_lt (show a < a + 1 by omega) (by omega)) c_48
        · have en : ¬ nI s.1 = 0 := nI_ne0 (by omega) (by omega)
          have o1 : ∀ x, o2 s.1 x = x := fun x => by unfold o2; rw [if_neg hc0]
          simp only [o1, if_neg hc0]
          have e2 : ftA (wtA A) s w = if w = 1 then nI s.2.1 else if w = 2 then s.2.2.1 else if w = 3 then s.2.2.2.1 else wtA A s.2.2.2.2 := by unfold ftA; rw [if_neg w0, if_neg hc0]
          rw [e2]
          refine mm_Es (fun _ _ => mm_iload dX11_fits_45 rfl) ?_
          refine mm_Es (fun _ _ => mm_iload_n dX11_fits_47 rfl rfl) ?_
          refine mm_Eb (fun _ _ => mm_icmp_gt 179 dX11_fits_48 (by decide)) (fun c_48 => ?_) (fun c_48 => ?_)
          · refine mm_Es (fun _ _ => mm_iload dX11_fits_179 rfl) ?_
            refine mm_Eb (fun _ _ => mm_if_eq 189 dX11_fits_181 (by decide)) (fun c_181 => ?_) (fun c_181 => ?_)
            · exact absurd c_181 w0
            · refine mm_Es (fun _ _ => mm_iload dX11_fits_184 rfl) ?_
              refine mm_Ebn (fun _ _ => mm_if_ne 204 dX11_fits_186 (by decide)) (fun c_186 => ?_) (fun c_186 => ?_)
              · refine mm_Es (fun _ _ => mm_iload dX11_fits_204 rfl) ?_
                refine mm_Es (fun _ _ => mm_iconst (x := 1) dX11_fits_206 (by decide)) ?_
                refine mm_Ebn (fun _ _ => mm_icmp_ne 215 dX11_fits_207 (by decide)) (fun c_207 => ?_) (fun c_207 => ?_)
                · refine mm_Es (fun _ _ => mm_iload dX11_fits_215 rfl) ?_
                  refine mm_Es (fun _ _ => mm_iconst (x := 2) dX11_fits_217 (by decide)) ?_
                  refine mm_Ebn (fun _ _ => mm_icmp_ne 226 dX11_fits_218 (by decide)) (fun c_218 => ?_) (fun c_218 => ?_)
                  · refine mm_Es (fun _ _ => mm_iload dX11_fits_226 rfl) ?_
                    refine mm_Es (fun _ _ => mm_iconst (x := 3) dX11_fits_228 (by decide)) ?_
                    refine mm_Ebn (fun _ _ => mm_icmp_ne 237 dX11_fits_229 (by decide)) (fun c_229 => ?_) (fun c_229 => ?_)
                    · refine mm_Es (fun _ _ => mm_aload_n dX11_fits_237 rfl rfl) ?_
                      refine mm_Es (fun _ _ => mm_iload dX11_fits_238 rfl) ?_
                      refine mm_Es (fun _ _ => mm_cV (Y1 := YX11_worthOf) dX11_fits_240 lX11_446 vX11_worthOf (M3) sh_165 rfl rfl (by simp [Value.category])) ?_
                      refine mm_Er (mm_ireturn dX11_fits_243 rfl) ?_
                      first | exact ⟨by rw [if_pos c_207], fg⟩ | exact ⟨by rw [if_neg c_207, if_pos c_218], fg⟩ | exact ⟨by rw [if_neg c_207, if_neg c_218, if_pos c_229], fg⟩ | exact ⟨by rw [if_neg c_207, if_neg c_218, if_neg c_229]; rfl, fg⟩
                    · refine mm_Es (fun _ _ => mm_iload dX11_fits_232 rfl) ?_
                      refine mm_Es (fun _ _ => mm_goto 243 dX11_fits_234 (by decide)) ?_
                      refine mm_Er (mm_ireturn dX11_fits_243 rfl) ?_
                      first | exact ⟨by rw [if_pos c_207], fg⟩ | exact ⟨by rw [if_neg c_207, if_pos c_218], fg⟩ | exact ⟨by rw [if_neg c_207, if_neg c_218, if_pos c_229], fg⟩ | exact ⟨by rw [if_neg c_207, if_neg c_218, if_neg c_229]; rfl, fg⟩
                  · refine mm_Es (fun _ _ => mm_iload dX11_fits_221 rfl) ?_
                    refine mm_Es (fun _ _ => mm_goto 243 dX11_fits_223 (by decide)) ?_
                    refine mm_Er (mm_ireturn dX11_fits_243 rfl) ?_
                    first | exact ⟨by rw [if_pos c_207], fg⟩ | exact ⟨by rw [if_neg c_207, if_pos c_218], fg⟩ | exact ⟨by rw [if_neg c_207, if_neg c_218, if_pos c_229], fg⟩ | exact ⟨by rw [if_neg c_207, if_neg c_218, if_neg c_229]; rfl, fg⟩
                · refine mm_Es (fun _ _ => mm_iload dX11_fits_210 rfl) ?_
                  refine mm_Es (fun _ _ => mm_goto 243 dX11_fits_212 (by decide)) ?_
                  refine mm_Er (mm_ireturn dX11_fits_243 rfl) ?_
                  first | exact ⟨by rw [if_pos c_207], fg⟩ | exact ⟨by rw [if_neg c_207, if_pos c_218], fg⟩ | exact ⟨by rw [if_neg c_207, if_neg c_218, if_pos c_229], fg⟩ | exact ⟨by rw [if_neg c_207, if_neg c_218, if_neg c_229]; rfl, fg⟩
              · exact absurd c_186 en
          · exact absurd (nI_lt (show a < a + 1 by omega) (by omega)) c_48
    | succ q ih =>
      intro t hi s hs g fg
      have hta : t ≤ a := by omega
      have B48 : ¬ nI a < nI t := nI_nlt hta (by omega)
      have hVg := viewM_f hV fg.1 (fun c hc => pMs_f (by omega) (by omega))
      have hMg := lawM_f (hL r hr).2 fg.1 (fun c h1 h2 => pMs_f (by omega) (by omega))
      have hinv := fw_inv (ch := chd A (LQ r) k) (wt := wtA A) (H := H) (W := a) t
      rw [← hs] at hinv
      have hfe := sub_le hinv.2.1
      by_cases hst : sub t a
      · have hS : foldW a (ftS (chd A (LQ r) k) (wtA A) H) ft0 (t + 1) = (ftS (chd A (LQ r) k) (wtA A) H) s t := by simp only [foldW]; rw [if_pos hst, ← hs]
        obtain ⟨g2, M1, sg⟩ := mX11_sings d g A hA hVg (LQ r) r (by omega) (hL r hr).1 hMg k hk t (by omega)
        have fg2 := fg.trans sg.mfr
        have hV2 := viewM_f hV fg2.1 (fun c hc => pMs_f (by omega) (by omega))
        have K := ih (t + 1) (by omega) _ hS.symm g2 fg2
        have lt : (chd A (LQ r) k t).length ≤ 12 := Nat.le_trans (chd_pc h12 (LQ r) k (by omega)) (pc_le (by omega))
        have M2 := mX11_isHeard (d + 6) g2 (chd A (LQ r) k t) H lt hH (by rw [chd_len]; exact sg.2.2.1) (fun j hj => by rw [chd_len] at hj; exact chd_at sg.2.2.2 hj) (by rw [fg2.1.i rfl]; exact hh1) (fun j hj => by rw [fg2.1.i rfl]; exact hh2 j hj)
        have M3 := mX11_worthOf (d + 5) g2 (mn A) hV2.1 h12 (nI t)
        rw [sp_wth_c (mn A) (fun c hc => (hV2.2.2.2.2.1 c hc).2.2.1)] at M3
        have M3 : mm_M (d + 6) YX11_worthOf [.ref 165, .int (nI t)] g2 (some (.int (wtA A t))) g2 := M3
        have hpt := pc_le (show t < 4096 by omega)
        have hpf := pc_le (show s.2.2.2.2 < 4096 by omega)
        by_cases hf : chd A (LQ r) k t = H
        · by_cases hc0 : s.1 = 0
          · rw [ftS_0 hf hc0] at K
            have en : nI s.1 = 0 := by rw [hc0]; rfl
            have o0 : ∀ x, o2 s.1 x = -2 := fun x => by unfold o2; rw [if_pos hc0]
            simp only [o0, if_pos hc0]
            refine mm_Es (fun _ _ => mm_iload dX11_fits_45 rfl) ?_
            refine mm_Es (fun _ _ => mm_iload_n dX11_fits_47 rfl rfl) ?_
            refine mm_Eb (fun _ _ => mm_icmp_gt 179 dX11_fits_48 (by decide)) (fun c_48 => ?_) (fun c_48 => ?_)
            · exact absurd c_48 B48
            · refine mm_Es (fun _ _ => mm_iload dX11_fits_51 rfl) ?_
              refine mm_Es (fun _ _ => mm_iload_n dX11_fits_53 rfl rfl) ?_
              refine mm_Es (fun _ _ => mm_iconst (x := (-1)) dX11_fits_54 (by decide)) ?_
              refine mm_Es (fun _ _ => mm_ixor dX11_fits_55) ?_
              refine mm_Es (fun _ _ => mm_iand dX11_fits_56) ?_
              refine mm_Ebn (fun _ _ => mm_if_ne 173 dX11_fits_57 (by decide)) (fun c_57 => ?_) (fun c_57 => ?_)
              · exact absurd ((sub_I (show t < 4096 by omega) ha4).mpr hst) c_57
              · refine mm_Es (fun _ _ => mm_aload_n dX11_fits_60 rfl rfl) ?_
                refine mm_Es (fun _ _ => mm_iload_n dX11_fits_61 rfl rfl) ?_
                refine mm_Es (fun _ _ => mm_iload_n dX11_fits_62 rfl rfl) ?_
                refine mm_Es (fun _ _ => mm_iload dX11_fits_63 rfl) ?_
                refine mm_Es (fun _ _ => mm_cV (Y1 := YX11_sings) dX11_fits_65 lX11_430 vX11_sings (M1) sh_165 rfl rfl (by simp [Value.category])) ?_
                refine mm_Es (fun _ _ => mm_aload_n dX11_fits_68 rfl rfl) ?_
                refine mm_Es (fun _ _ => mm_cV (Y1 := YX11_isHeard) dX11_fits_69 lX11_443 vX11_isHeard (M2) sh_165 rfl rfl (by simp [Value.category])) ?_
                refine mm_Eb (fun _ _ => mm_if_eq 173 dX11_fits_72 (by decide)) (fun c_72 => ?_) (fun c_72 => ?_)
                · exact absurd hf (bI_e0.mp c_72)
                · refine mm_Es (fun _ _ => mm_aload_n dX11_fits_75 rfl rfl) ?_
                  refine mm_Es (fun _ _ => mm_iload dX11_fits_76 rfl) ?_
                  refine mm_Es (fun _ _ => mm_cV (Y1 := YX11_worthOf) dX11_fits_78 lX11_446 vX11_worthOf (M3) sh_165 rfl rfl (by simp [Value.category])) ?_
                  refine mm_Es (fun _ _ => mm_istore dX11_fits_81 (by decide) rfl) ?_
                  refine mm_Es (fun _ _ => mm_iload dX11_fits_83 rfl) ?_
                  refine mm_Eb (fun _ _ => mm_if_eq 95 dX11_fits_85 (by decide)) (fun c_85 => ?_) (fun c_85 => ?_)
                  · refine mm_Es (fun _ _ => mm_iload dX11_fits_95 rfl) ?_
                    refine mm_Es (fun _ _ => mm_goto 102 dX11_fits_97 (by decide)) ?_
                    refine mm_Es (fun _ _ => mm_istore dX11_fits_102 (by decide) rfl) ?_
                    refine mm_Es (fun _ _ => mm_iload dX11_fits_104 rfl) ?_
                    refine mm_Eb (fun _ _ => mm_if_eq 116 dX11_fits_106 (by decide)) (fun c_106 => ?_) (fun c_106 => ?_)
                    · refine mm_Es (fun _ _ => mm_iload dX11_fits_116 rfl) ?_
                      refine mm_Es (fun _ _ => mm_goto 123 dX11_fits_118 (by decide)) ?_
                      refine mm_Es (fun _ _ => mm_istore dX11_fits_123 (by decide) rfl) ?_
                      refine mm_Es (fun _ _ => mm_iload dX11_fits_125 rfl) ?_
                      refine mm_Es (fun _ _ => mm_bipush (x := (-2)) dX11_fits_127 (by decide)) ?_
                      refine mm_Ebn (fun _ _ => mm_icmp_ne 137 dX11_fits_129 (by decide)) (fun c_129 => ?_) (fun c_129 => ?_)
                      · exact absurd c_129 (by decide)
                      · refine mm_Es (fun _ _ => mm_iload dX11_fits_132 rfl) ?_
                        refine mm_Es (fun _ _ => mm_goto 139 dX11_fits_134 (by decide)) ?_
                        refine mm_Es (fun _ _ => mm_istore dX11_fits_139 (by decide) rfl) ?_
                        refine mm_Es (fun _ _ => mm_iload dX11_fits_141 rfl) ?_
                        refine mm_Es (fun _ _ => mm_bipush (x := (-2)) dX11_fits_143 (by decide)) ?_
                        refine mm_Eb (fun _ _ => mm_icmp_eq 161 dX11_fits_145 (by decide)) (fun c_145 => ?_) (fun c_145 => ?_)
                        · refine mm_Es (fun _ _ => mm_iload dX11_fits_161 rfl) ?_
                          refine mm_Es (fun _ _ => mm_goto 168 dX11_fits_163 (by decide)) ?_
                          refine mm_Es (fun _ _ => mm_istore dX11_fits_168 (by decide) rfl) ?_
                          refine mm_Es (fun _ _ => mm_iinc dX11_fits_170 rfl rfl rfl) ?_
                          refine mm_Es (fun _ _ => mm_iinc dX11_fits_173 rfl (nI_inc t) rfl) ?_
                          refine mm_Es (fun _ _ => mm_goto 45 dX11_fits_176 (by decide)) ?_
                          refine mm_El ?_ K
                          exact ⟨rfl, rfl, rfl, rfl, rfl, by rw [en]; rfl, rfl, rfl, rfl, rfl, rfl, trivial⟩
                        · exact absurd c_145 (by decide)
                    · exact absurd en c_106
                  · exact absurd en c_85
          · rw [ftS_s hf hc0] at K
            have en : ¬ nI s.1 = 0 := nI_ne0 (by omega) (by omega)
            have o1 : ∀ x, o2 s.1 x = x := fun x => by unfold o2; rw [if_neg hc0]
            have o3 : ∀ x, o2 (s.1 + 1) x = x := fun x => by unfold o2; rw [if_neg (by omega)]
            have z1 : ¬ s.1 + 1 = 0 := by omega
            simp only [o3, if_neg z1] at K
            simp only [o1, if_neg hc0]
            have n2 : ∀ q : Nat, q < 2 ^ 31 → ¬ nI q = -2 := fun q hq z => by
              have := nI_toInt hq
              rw [z] at this
              have e : (-2 : Int32).toInt = -2 := by decide
              omega
            have hfi : s.2.1 < 4096 := by have := sub_le hinv.2.2; omega
            refine mm_Es (fun _ _ => mm_iload dX11_fits_45 rfl) ?_
            refine mm_Es (fun _ _ => mm_iload_n dX11_fits_47 rfl rfl) ?_
            refine mm_Eb (fun _ _ => mm_icmp_gt 179 dX11_fits_48 (by decide)) (fun c_48 => ?_) (fun c_48 => ?_)
            · exact absurd c_48 B48
            · refine mm_Es (fun _ _ => mm_iload dX11_fits_51 rfl) ?_
              refine mm_Es (fun _ _ => mm_iload_n dX11_fits_53 rfl rfl) ?_
              refine mm_Es (fun _ _ => mm_iconst (x := (-1)) dX11_fits_54 (by decide)) ?_
              refine mm_Es (fun _ _ => mm_ixor dX11_fits_55) ?_
              refine mm_Es (fun _ _ => mm_iand dX11_fits_56) ?_
              refine mm_Ebn (fun _ _ => mm_if_ne 173 dX11_fits_57 (by decide)) (fun c_57 => ?_) (fun c_57 => ?_)
              · exact absurd ((sub_I (show t < 4096 by omega) ha4).mpr hst) c_57
              · refine mm_Es (fun _ _ => mm_aload_n dX11_fits_60 rfl rfl) ?_
                refine mm_Es (fun _ _ => mm_iload_n dX11_fits_61 rfl rfl) ?_
                refine mm_Es (fun _ _ => mm_iload_n dX11_fits_62 rfl rfl) ?_
                refine mm_Es (fun _ _ => mm_iload dX11_fits_63 rfl) ?_
                refine mm_Es (fun _ _ => mm_cV (Y1 := YX11_sings) dX11_fits_65 lX11_430 vX11_sings (M1) sh_165 rfl rfl (by simp [Value.category])) ?_
                refine mm_Es (fun _ _ => mm_aload_n dX11_fits_68 rfl rfl) ?_
                refine mm_Es (fun _ _ => mm_cV (Y1 := YX11_isHeard) dX11_fits_69 lX11_443 vX11_isHeard (M2) sh_165 rfl rfl (by simp [Value.category])) ?_
                refine mm_Eb (fun _ _ => mm_if_eq 173 dX11_fits_72 (by decide)) (fun c_72 => ?_) (fun c_72 => ?_)
                · exact absurd hf (bI_e0.mp c_72)
                · refine mm_Es (fun _ _ => mm_aload_n dX11_fits_75 rfl rfl) ?_
                  refine mm_Es (fun _ _ => mm_iload dX11_fits_76 rfl) ?_
                  refine mm_Es (fun _ _ => mm_cV (Y1 := YX11_worthOf) dX11_fits_78 lX11_446 vX11_worthOf (M3) sh_165 rfl rfl (by simp [Value.category])) ?_
                  refine mm_Es (fun _ _ => mm_istore dX11_fits_81 (by decide) rfl) ?_
                  refine mm_Es (fun _ _ => mm_iload dX11_fits_83 rfl) ?_
                  refine mm_Eb (fun _ _ => mm_if_eq 95 dX11_fits_85 (by decide)) (fun c_85 => ?_) (fun c_85 => ?_)
                  · exact absurd c_85 en
                  · refine mm_Es (fun _ _ => mm_iload dX11_fits_88 rfl) ?_
                    refine mm_Es (fun _ _ => mm_iload dX11_fits_90 rfl) ?_
                    refine mm_Eb (fun _ _ => mm_icmp_ge 100 dX11_fits_92 (by decide)) (fun c_92 => ?_) (fun c_92 => ?_)
                    · refine mm_Es (fun _ _ => mm_iload dX11_fits_100 rfl) ?_
                      refine mm_Es (fun _ _ => mm_istore dX11_fits_102 (by decide) rfl) ?_
                      refine mm_Es (fun _ _ => mm_iload dX11_fits_104 rfl) ?_
                      refine mm_Eb (fun _ _ => mm_if_eq 116 dX11_fits_106 (by decide)) (fun c_106 => ?_) (fun c_106 => ?_)
                      · exact absurd c_106 en
                      · refine mm_Es (fun _ _ => mm_iload dX11_fits_109 rfl) ?_
                        refine mm_Es (fun _ _ => mm_iload dX11_fits_111 rfl) ?_
                        refine mm_Eb (fun _ _ => mm_icmp_le 121 dX11_fits_113 (by decide)) (fun c_113 => ?_) (fun c_113 => ?_)
                        · refine mm_Es (fun _ _ => mm_iload dX11_fits_121 rfl) ?_
                          refine mm_Es (fun _ _ => mm_istore dX11_fits_123 (by decide) rfl) ?_
                          refine mm_Es (fun _ _ => mm_iload dX11_fits_125 rfl) ?_
                          refine mm_Es (fun _ _ => mm_bipush (x := (-2)) dX11_fits_127 (by decide)) ?_
                          refine mm_Ebn (fun _ _ => mm_icmp_ne 137 dX11_fits_129 (by decide)) (fun c_129 => ?_) (fun c_129 => ?_)
                          · refine mm_Es (fun _ _ => mm_iload dX11_fits_137 rfl) ?_
                            refine mm_Es (fun _ _ => mm_istore dX11_fits_139 (by decide) rfl) ?_
                            refine mm_Es (fun _ _ => mm_iload dX11_fits_141 rfl) ?_
                            refine mm_Es (fun _ _ => mm_bipush (x := (-2)) dX11_fits_143 (by decide)) ?_
                            refine mm_Eb (fun _ _ => mm_icmp_eq 161 dX11_fits_145 (by decide)) (fun c_145 => ?_) (fun c_145 => ?_)
                            · exact absurd c_145 (n2 _ (by omega))
                            · refine mm_Es (fun _ _ => mm_iload dX11_fits_148 rfl) ?_
                              refine mm_Es (fun _ _ => mm_cS (Y1 := YX11_bits) dX11_fits_150 lX11_363 sX11_bits (mX11_bits (d + 6) g2 t (by omega)) rfl rfl (by simp [Value.category])) ?_
                              refine mm_Es (fun _ _ => mm_iload dX11_fits_153 rfl) ?_
                              refine mm_Es (fun _ _ => mm_cS (Y1 := YX11_bits) dX11_fits_155 lX11_363 sX11_bits (mX11_bits (d + 6) g2 s.2.2.2.2 (by omega)) rfl rfl (by simp [Value.category])) ?_
                              refine mm_Eb (fun _ _ => mm_icmp_ge 166 dX11_fits_158 (by decide)) (fun c_158 => ?_) (fun c_158 => ?_)
                              · refine mm_Es (fun _ _ => mm_iload dX11_fits_166 rfl) ?_
                                refine mm_Es (fun _ _ => mm_istore dX11_fits_168 (by decide) rfl) ?_
                                refine mm_Es (fun _ _ => mm_iinc dX11_fits_170 rfl rfl rfl) ?_
                                refine mm_Es (fun _ _ => mm_iinc dX11_fits_173 rfl (nI_inc t) rfl) ?_
                                refine mm_Es (fun _ _ => mm_goto 45 dX11_fits_176 (by decide)) ?_
                                refine mm_El ?_ K
                                refine ⟨rfl, rfl, rfl, rfl, rfl, by rw [nI_inc], rfl, ?_, ?_, ?_, rfl, trivial⟩
                                · first | rw [if_neg (fun z => absurd c_158 (nI_ge z (by omega)))] | rw [if_pos (Nat.lt_of_not_le (fun z => c_158 (nI_le z (by omega))))]
                                · first | rw [if_neg (Int32.not_lt.mpr c_92)] | rw [if_pos (Int32.not_le.mp c_92)]
                                · first | rw [if_neg (Int32.not_lt.mpr c_113)] | rw [if_pos (Int32.not_le.mp c_113)]
                              · refine mm_Es (fun _ _ => mm_iload dX11_fits_161 rfl) ?_
                                refine mm_Es (fun _ _ => mm_goto 168 dX11_fits_163 (by decide)) ?_
                                refine mm_Es (fun _ _ => mm_istore dX11_fits_168 (by decide) rfl) ?_
                                refine mm_Es (fun _ _ => mm_iinc dX11_fits_170 rfl rfl rfl) ?_
                                refine mm_Es (fun _ _ => mm_iinc dX11_fits_173 rfl (nI_inc t) rfl) ?_
                                refine mm_Es (fun _ _ => mm_goto 45 dX11_fits_176 (by decide)) ?_
                                refine mm_El ?_ K
                                refine ⟨rfl, rfl, rfl, rfl, rfl, by rw [nI_inc], rfl, ?_, ?_, ?_, rfl, trivial⟩
                                · first | rw [if_neg (fun z => absurd c_158 (nI_ge z (by omega)))] | rw [if_pos (Nat.lt_of_not_le (fun z => c_158 (nI_le z (by omega))))]
                                · first | rw [if_neg (Int32.not_lt.mpr c_92)] | rw [if_pos (Int32.not_le.mp c_92)]
                                · first | rw [if_neg (Int32.not_lt.mpr c_113)] | rw [if_pos (Int32.not_le.mp c_113)]
                          · exact absurd c_129 (n2 _ (by omega))
                        · refine mm_Es (fun _ _ => mm_iload dX11_fits_116 rfl) ?_
                          refine mm_Es (fun _ _ => mm_goto 123 dX11_fits_118 (by decide)) ?_
                          refine mm_Es (fun _ _ => mm_istore dX11_fits_123 (by decide) rfl) ?_
                          refine mm_Es (fun _ _ => mm_iload dX11_fits_125 rfl) ?_
                          refine mm_Es (fun _ _ => mm_bipush (x := (-2)) dX11_fits_127 (by decide)) ?_
                          refine mm_Ebn (fun _ _ => mm_icmp_ne 137 dX11_fits_129 (by decide)) (fun c_129 => ?_) (fun c_129 => ?_)
                          · refine mm_Es (fun _ _ => mm_iload dX11_fits_137 rfl) ?_
                            refine mm_Es (fun _ _ => mm_istore dX11_fits_139 (by decide) rfl) ?_
                            refine mm_Es (fun _ _ => mm_iload dX11_fits_141 rfl) ?_
                            refine mm_Es (fun _ _ => mm_bipush (x := (-2)) dX11_fits_143 (by decide)) ?_
                            refine mm_Eb (fun _ _ => mm_icmp_eq 161 dX11_fits_145 (by decide)) (fun c_145 => ?_) (fun c_145 => ?_)
                            · exact absurd c_145 (n2 _ (by omega))
                            · refine mm_Es (fun _ _ => mm_iload dX11_fits_148 rfl) ?_
                              refine mm_Es (fun _ _ => mm_cS (Y1 := YX11_bits) dX11_fits_150 lX11_363 sX11_bits (mX11_bits (d + 6) g2 t (by omega)) rfl rfl (by simp [Value.category])) ?_
                              refine mm_Es (fun _ _ => mm_iload dX11_fits_153 rfl) ?_
                              refine mm_Es (fun _ _ => mm_cS (Y1 := YX11_bits) dX11_fits_155 lX11_363 sX11_bits (mX11_bits (d + 6) g2 s.2.2.2.2 (by omega)) rfl rfl (by simp [Value.category])) ?_
                              refine mm_Eb (fun _ _ => mm_icmp_ge 166 dX11_fits_158 (by decide)) (fun c_158 => ?_) (fun c_158 => ?_)
                              · refine mm_Es (fun _ _ => mm_iload dX11_fits_166 rfl) ?_
                                refine mm_Es (fun _ _ => mm_istore dX11_fits_168 (by decide) rfl) ?_
                                refine mm_Es (fun _ _ => mm_iinc dX11_fits_170 rfl rfl rfl) ?_
                                refine mm_Es (fun _ _ => mm_iinc dX11_fits_173 rfl (nI_inc t) rfl) ?_
                                refine mm_Es (fun _ _ => mm_goto 45 dX11_fits_176 (by decide)) ?_
                                refine mm_El ?_ K
                                refine ⟨rfl, rfl, rfl, rfl, rfl, by rw [nI_inc], rfl, ?_, ?_, ?_, rfl, trivial⟩
                                · first | rw [if_neg (fun z => absurd c_158 (nI_ge z (by omega)))] | rw [if_pos (Nat.lt_of_not_le (fun z => c_158 (nI_le z (by omega))))]
                                · first | rw [if_neg (Int32.not_lt.mpr c_92)] | rw [if_pos (Int32.not_le.mp c_92)]
                                · first | rw [if_neg (Int32.not_lt.mpr c_113)] | rw [if_pos (Int32.not_le.mp c_113)]
                              · refine mm_Es (fun _ _ => mm_iload dX11_fits_161 rfl) ?_
                                refine mm_Es (fun _ _ => mm_goto 168 dX11_fits_163 (by decide)) ?_
                                refine mm_Es (fun _ _ => mm_istore dX11_fits_168 (by decide) rfl) ?_
                                refine mm_Es (fun _ _ => mm_iinc dX11_fits_170 rfl rfl rfl) ?_
                                refine mm_Es (fun _ _ => mm_iinc dX11_fits_173 rfl (nI_inc t) rfl) ?_
                                refine mm_Es (fun _ _ => mm_goto 45 dX11_fits_176 (by decide)) ?_
                                refine mm_El ?_ K
                                refine ⟨rfl, rfl, rfl, rfl, rfl, by rw [nI_inc], rfl, ?_, ?_, ?_, rfl, trivial⟩
                                · first | rw [if_neg (fun z => absurd c_158 (nI_ge z (by omega)))] | rw [if_pos (Nat.lt_of_not_le (fun z => c_158 (nI_le z (by omega))))]
                                · first | rw [if_neg (Int32.not_lt.mpr c_92)] | rw [if_pos (Int32.not_le.mp c_92)]
                                · first | rw [if_neg (Int32.not_lt.mpr c_113)] | rw [if_pos (Int32.not_le.mp c_113)]
                          · exact absurd c_129 (n2 _ (by omega))
                    · refine mm_Es (fun _ _ => mm_iload dX11_fits_95 rfl) ?_
                      refine mm_Es (fun _ _ => mm_goto 102 dX11_fits_97 (by decide)) ?_
                      refine mm_Es (fun _ _ => mm_istore dX11_fits_102 (by decide) rfl) ?_
                      refine mm_Es (fun _ _ => mm_iload dX11_fits_104 rfl) ?_
                      refine mm_Eb (fun _ _ => mm_if_eq 116 dX11_fits_106 (by decide)) (fun c_106 => ?_) (fun c_106 => ?_)
                      · exact absurd c_106 en
                      · refine mm_Es (fun _ _ => mm_iload dX11_fits_109 rfl) ?_
                        refine mm_Es (fun _ _ => mm_iload dX11_fits_111 rfl) ?_
                        refine mm_Eb (fun _ _ => mm_icmp_le 121 dX11_fits_113 (by decide)) (fun c_113 => ?_) (fun c_113 => ?_)
                        · refine mm_Es (fun _ _ => mm_iload dX11_fits_121 rfl) ?_
                          refine mm_Es (fun _ _ => mm_istore dX11_fits_123 (by decide) rfl) ?_
                          refine mm_Es (fun _ _ => mm_iload dX11_fits_125 rfl) ?_
                          refine mm_Es (fun _ _ => mm_bipush (x := (-2)) dX11_fits_127 (by decide)) ?_
                          refine mm_Ebn (fun _ _ => mm_icmp_ne 137 dX11_fits_129 (by decide)) (fun c_129 => ?_) (fun c_129 => ?_)
                          · refine mm_Es (fun _ _ => mm_iload dX11_fits_137 rfl) ?_
                            refine mm_Es (fun _ _ => mm_istore dX11_fits_139 (by decide) rfl) ?_
                            refine mm_Es (fun _ _ => mm_iload dX11_fits_141 rfl) ?_
                            refine mm_Es (fun _ _ => mm_bipush (x := (-2)) dX11_fits_143 (by decide)) ?_
                            refine mm_Eb (fun _ _ => mm_icmp_eq 161 dX11_fits_145 (by decide)) (fun c_145 => ?_) (fun c_145 => ?_)
                            · exact absurd c_145 (n2 _ (by omega))
                            · refine mm_Es (fun _ _ => mm_iload dX11_fits_148 rfl) ?_
                              refine mm_Es (fun _ _ => mm_cS (Y1 := YX11_bits) dX11_fits_150 lX11_363 sX11_bits (mX11_bits (d + 6) g2 t (by omega)) rfl rfl (by simp [Value.category])) ?_
                              refine mm_Es (fun _ _ => mm_iload dX11_fits_153 rfl) ?_
                              refine mm_Es (fun _ _ => mm_cS (Y1 := YX11_bits) dX11_fits_155 lX11_363 sX11_bits (mX11_bits (d + 6) g2 s.2.2.2.2 (by omega)) rfl rfl (by simp [Value.category])) ?_
                              refine mm_Eb (fun _ _ => mm_icmp_ge 166 dX11_fits_158 (by decide)) (fun c_158 => ?_) (fun c_158 => ?_)
                              · refine mm_Es (fun _ _ => mm_iload dX11_fits_166 rfl) ?_
                                refine mm_Es (fun _ _ => mm_istore dX11_fits_168 (by decide) rfl) ?_
                                refine mm_Es (fun _ _ => mm_iinc dX11_fits_170 rfl rfl rfl) ?_
                                refine mm_Es (fun _ _ => mm_iinc dX11_fits_173 rfl (nI_inc t) rfl) ?_
                                refine mm_Es (fun _ _ => mm_goto 45 dX11_fits_176 (by decide)) ?_
                                refine mm_El ?_ K
                                refine ⟨rfl, rfl, rfl, rfl, rfl, by rw [nI_inc], rfl, ?_, ?_, ?_, rfl, trivial⟩
                                · first | rw [if_neg (fun z => absurd c_158 (nI_ge z (by omega)))] | rw [if_pos (Nat.lt_of_not_le (fun z => c_158 (nI_le z (by omega))))]
                                · first | rw [if_neg (Int32.not_lt.mpr c_92)] | rw [if_pos (Int32.not_le.mp c_92)]
                                · first | rw [if_neg (Int32.not_lt.mpr c_113)] | rw [if_pos (Int32.not_le.mp c_113)]
                              · refine mm_Es (fun _ _ => mm_iload dX11_fits_161 rfl) ?_
                                refine mm_Es (fun _ _ => mm_goto 168 dX11_fits_163 (by decide)) ?_
                                refine mm_Es (fun _ _ => mm_istore dX11_fits_168 (by decide) rfl) ?_
                                refine mm_Es (fun _ _ => mm_iinc dX11_fits_170 rfl rfl rfl) ?_
                                refine mm_Es (fun _ _ => mm_iinc dX11_fits_173 rfl (nI_inc t) rfl) ?_
                                refine mm_Es (fun _ _ => mm_goto 45 dX11_fits_176 (by decide)) ?_
                                refine mm_El ?_ K
                                refine ⟨rfl, rfl, rfl, rfl, rfl, by rw [nI_inc], rfl, ?_, ?_, ?_, rfl, trivial⟩
                                · first | rw [if_neg (fun z => absurd c_158 (nI_ge z (by omega)))] | rw [if_pos (Nat.lt_of_not_le (fun z => c_158 (nI_le z (by omega))))]
                                · first | rw [if_neg (Int32.not_lt.mpr c_92)] | rw [if_pos (Int32.not_le.mp c_92)]
                                · first | rw [if_neg (Int32.not_lt.mpr c_113)] | rw [if_pos (Int32.not_le.mp c_113)]
                          · exact absurd c_129 (n2 _ (by omega))
                        · refine mm_Es (fun _ _ => mm_iload dX11_fits_116 rfl) ?_
                          refine mm_Es (fun _ _ => mm_goto 123 dX11_fits_118 (by decide)) ?_
                          refine mm_Es (fun _ _ => mm_istore dX11_fits_123 (by decide) rfl) ?_
                          refine mm_Es (fun _ _ => mm_iload dX11_fits_125 rfl) ?_
                          refine mm_Es (fun _ _ => mm_bipush (x := (-2)) dX11_fits_127 (by decide)) ?_
                          refine mm_Ebn (fun _ _ => mm_icmp_ne 137 dX11_fits_129 (by decide)) (fun c_129 => ?_) (fun c_129 => ?_)
                          · refine mm_Es (fun _ _ => mm_iload dX11_fits_137 rfl) ?_
                            refine mm_Es (fun _ _ => mm_istore dX11_fits_139 (by decide) rfl) ?_
                            refine mm_Es (fun _ _ => mm_iload dX11_fits_141 rfl) ?_
                            refine mm_Es (fun _ _ => mm_bipush (x := (-2)) dX11_fits_143 (by decide)) ?_
                            refine mm_Eb (fun _ _ => mm_icmp_eq 161 dX11_fits_145 (by decide)) (fun c_145 => ?_) (fun c_145 => ?_)
                            · exact absurd c_145 (n2 _ (by omega))
                            · refine mm_Es (fun _ _ => mm_iload dX11_fits_148 rfl) ?_
                              refine mm_Es (fun _ _ => mm_cS (Y1 := YX11_bits) dX11_fits_150 lX11_363 sX11_bits (mX11_bits (d + 6) g2 t (by omega)) rfl rfl (by simp [Value.category])) ?_
                              refine mm_Es (fun _ _ => mm_iload dX11_fits_153 rfl) ?_
                              refine mm_Es (fun _ _ => mm_cS (Y1 := YX11_bits) dX11_fits_155 lX11_363 sX11_bits (mX11_bits (d + 6) g2 s.2.2.2.2 (by omega)) rfl rfl (by simp [Value.category])) ?_
                              refine mm_Eb (fun _ _ => mm_icmp_ge 166 dX11_fits_158 (by decide)) (fun c_158 => ?_) (fun c_158 => ?_)
                              · refine mm_Es (fun _ _ => mm_iload dX11_fits_166 rfl) ?_
                                refine mm_Es (fun _ _ => mm_istore dX11_fits_168 (by decide) rfl) ?_
                                refine mm_Es (fun _ _ => mm_iinc dX11_fits_170 rfl rfl rfl) ?_
                                refine mm_Es (fun _ _ => mm_iinc dX11_fits_173 rfl (nI_inc t) rfl) ?_
                                refine mm_Es (fun _ _ => mm_goto 45 dX11_fits_176 (by decide)) ?_
                                refine mm_El ?_ K
                                refine ⟨rfl, rfl, rfl, rfl, rfl, by rw [nI_inc], rfl, ?_, ?_, ?_, rfl, trivial⟩
                                · first | rw [if_neg (fun z => absurd c_158 (nI_ge z (by omega)))] | rw [if_pos (Nat.lt_of_not_le (fun z => c_158 (nI_le z (by omega))))]
                                · first | rw [if_neg (Int32.not_lt.mpr c_92)] | rw [if_pos (Int32.not_le.mp c_92)]
                                · first | rw [if_neg (Int32.not_lt.mpr c_113)] | rw [if_pos (Int32.not_le.mp c_113)]
                              · refine mm_Es (fun _ _ => mm_iload dX11_fits_161 rfl) ?_
                                refine mm_Es (fun _ _ => mm_goto 168 dX11_fits_163 (by decide)) ?_
                                refine mm_Es (fun _ _ => mm_istore dX11_fits_168 (by decide) rfl) ?_
                                refine mm_Es (fun _ _ => mm_iinc dX11_fits_170 rfl rfl rfl) ?_
                                refine mm_Es (fun _ _ => mm_iinc dX11_fits_173 rfl (nI_inc t) rfl) ?_
                                refine mm_Es (fun _ _ => mm_goto 45 dX11_fits_176 (by decide)) ?_
                                refine mm_El ?_ K
                                refine ⟨rfl, rfl, rfl, rfl, rfl, by rw [nI_inc], rfl, ?_, ?_, ?_, rfl, trivial⟩
                                · first | rw [if_neg (fun z => absurd c_158 (nI_ge z (by omega)))] | rw [if_pos (Nat.lt_of_not_le (fun z => c_158 (nI_le z (by omega))))]
                                · first | rw [if_neg (Int32.not_lt.mpr c_92)] | rw [if_pos (Int32.not_le.mp c_92)]
                                · first | rw [if_neg (Int32.not_lt.mpr c_113)] | rw [if_pos (Int32.not_le.mp c_113)]
                          · exact absurd c_129 (n2 _ (by omega))
        · rw [ftS_n hf] at K
          refine mm_Es (fun _ _ => mm_iload dX11_fits_45 rfl) ?_
          refine mm_Es (fun _ _ => mm_iload_n dX11_fits_47 rfl rfl) ?_
          refine mm_Eb (fun _ _ => mm_icmp_gt 179 dX11_fits_48 (by decide)) (fun c_48 => ?_) (fun c_48 => ?_)
          · exact absurd c_48 B48
          · refine mm_Es (fun _ _ => mm_iload dX11_fits_51 rfl) ?_
            refine mm_Es (fun _ _ => mm_iload_n dX11_fits_53 rfl rfl) ?_
            refine mm_Es (fun _ _ => mm_iconst (x := (-1)) dX11_fits_54 (by decide)) ?_
            refine mm_Es (fun _ _ => mm_ixor dX11_fits_55) ?_
            refine mm_Es (fun _ _ => mm_iand dX11_fits_56) ?_
            refine mm_Ebn (fun _ _ => mm_if_ne 173 dX11_fits_57 (by decide)) (fun c_57 => ?_) (fun c_57 => ?_)
            · exact absurd ((sub_I (show t < 4096 by omega) ha4).mpr hst) c_57
            · refine mm_Es (fun _ _ => mm_aload_n dX11_fits_60 rfl rfl) ?_
              refine mm_Es (fun _ _ => mm_iload_n dX11_fits_61 rfl rfl) ?_
              refine mm_Es (fun _ _ => mm_iload_n dX11_fits_62 rfl rfl) ?_
              refine mm_Es (fun _ _ => mm_iload dX11_fits_63 rfl) ?_
              refine mm_Es (fun _ _ => mm_cV (Y1 := YX11_sings) dX11_fits_65 lX11_430 vX11_sings (M1) sh_165 rfl rfl (by simp [Value.category])) ?_
              refine mm_Es (fun _ _ => mm_aload_n dX11_fits_68 rfl rfl) ?_
              refine mm_Es (fun _ _ => mm_cV (Y1 := YX11_isHeard) dX11_fits_69 lX11_443 vX11_isHeard (M2) sh_165 rfl rfl (by simp [Value.category])) ?_
              refine mm_Eb (fun _ _ => mm_if_eq 173 dX11_fits_72 (by decide)) (fun c_72 => ?_) (fun c_72 => ?_)
              · refine mm_Es (fun _ _ => mm_iinc dX11_fits_173 rfl (nI_inc t) rfl) ?_
                refine mm_Es (fun _ _ => mm_goto 45 dX11_fits_176 (by decide)) ?_
                exact K
              · exact absurd (bI_n0.mp c_72) hf
      · have hS : foldW a (ftS (chd A (LQ r) k) (wtA A) H) ft0 (t + 1) = s := by simp only [foldW]; rw [if_neg hst, ← hs]
        have K := ih (t + 1) (by omega) _ hS.symm g fg
        refine mm_Es (fun _ _ => mm_iload dX11_fits_45 rfl) ?_
        refine mm_Es (fun _ _ => mm_iload_n dX11_fits_47 rfl rfl) ?_
        refine mm_Eb (fun _ _ => mm_icmp_gt 179 dX11_fits_48 (by decide)) (fun c_48 => ?_) (fun c_48 => ?_)
        · exact absurd c_48 B48
        · refine mm_Es (fun _ _ => mm_iload dX11_fits_51 rfl) ?_
          refine mm_Es (fun _ _ => mm_iload_n dX11_fits_53 rfl rfl) ?_
          refine mm_Es (fun _ _ => mm_iconst (x := (-1)) dX11_fits_54 (by decide)) ?_
          refine mm_Es (fun _ _ => mm_ixor dX11_fits_55) ?_
          refine mm_Es (fun _ _ => mm_iand dX11_fits_56) ?_
          refine mm_Ebn (fun _ _ => mm_if_ne 173 dX11_fits_57 (by decide)) (fun c_57 => ?_) (fun c_57 => ?_)
          · refine mm_Es (fun _ _ => mm_iinc dX11_fits_173 rfl (nI_inc t) rfl) ?_
            refine mm_Es (fun _ _ => mm_goto 45 dX11_fits_176 (by decide)) ?_
            exact K
          · exact absurd ((sub_I (show t < 4096 by omega) ha4).mp c_57) hst
  have K := K45 (a + 1) 0 (by omega) _ rfl h (mfr.refl h)
  refine mm_Es (fun _ _ => mm_aload_n dX11_fits_0 rfl rfl) ?_
  refine mm_Es (fun _ _ => mm_iload_n dX11_fits_1 rfl rfl) ?_
  refine mm_Es (fun _ _ => mm_iload_n dX11_fits_2 rfl rfl) ?_
  refine mm_Es (fun _ _ => mm_iload_n dX11_fits_3 rfl rfl) ?_
  refine mm_Es (fun _ _ => mm_cV (Y1 := YX11_isAsked) dX11_fits_4 lX11_408 vX11_isAsked (N1) sh_165 rfl rfl (by simp [Value.category])) ?_
  refine mm_Eb (fun _ _ => mm_if_eq 23 dX11_fits_7 (by decide)) (fun c_7 => ?_) (fun c_7 => ?_)
  · exact absurd (ask_of hn6 hA hr hk ha) (bI_e0.mp c_7)
  · refine mm_Es (fun _ _ => mm_iload dX11_fits_10 rfl) ?_
    refine mm_Es (fun _ _ => mm_i2l dX11_fits_12 rfl) ?_
    refine mm_Es (fun _ _ => mm_lconst (x := 0) dX11_fits_13 (by decide)) ?_
    refine mm_Es (fun _ _ => mm_ldc2 dX11_fits_14 kX11_441) ?_
    refine mm_Es (fun _ _ => mm_cS (Y1 := YX11_in) dX11_fits_17 lX11_171 sX11_in (mX11_in (d + 6) h _ _ _) rfl rfl (by simp [Value.category])) ?_
    refine mm_Ebn (fun _ _ => mm_if_ne 25 dX11_fits_20 (by decide)) (fun c_20 => ?_) (fun c_20 => ?_)
    · refine mm_Es (fun _ _ => mm_iconst (x := 0) dX11_fits_25 (by decide)) ?_
      refine mm_Es (fun _ _ => mm_istore dX11_fits_26 (by decide) rfl) ?_
      refine mm_Es (fun _ _ => mm_bipush (x := (-2)) dX11_fits_28 (by decide)) ?_
      refine mm_Es (fun _ _ => mm_istore dX11_fits_30 (by decide) rfl) ?_
      refine mm_Es (fun _ _ => mm_bipush (x := (-2)) dX11_fits_32 (by decide)) ?_
      refine mm_Es (fun _ _ => mm_istore dX11_fits_34 (by decide) rfl) ?_
      refine mm_Es (fun _ _ => mm_iconst (x := 0) dX11_fits_36 (by decide)) ?_
      refine mm_Es (fun _ _ => mm_istore dX11_fits_37 (by decide) rfl) ?_
      refine mm_Es (fun _ _ => mm_iconst (x := 0) dX11_fits_39 (by decide)) ?_
      refine mm_Es (fun _ _ => mm_istore dX11_fits_40 (by decide) rfl) ?_
      refine mm_Es (fun _ _ => mm_iconst (x := 0) dX11_fits_42 (by decide)) ?_
      refine mm_Es (fun _ _ => mm_istore dX11_fits_43 (by decide) rfl) ?_
      exact K
    · exact absurd (by rw [i64_toInt, li_0, li_4]; exact hw) (bI_e0.mp c_20)
