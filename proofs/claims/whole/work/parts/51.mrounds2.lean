/-! rounds of the reference. -/
set_option maxRecDepth 100000 in
set_option maxHeartbeats 4000000 in
theorem mX11_rounds_n (d : Nat) (h : mm_H) (A : MD) (LQ : Nat → LD) (nl : Nat) (S : stM A LQ nl h) (r w : Int32) (hb : ¬ ((0 ≤ r.toInt ∧ r.toInt < nl) ∧ (0 ≤ w.toInt ∧ w.toInt ≤ 1))) : mm_M (d + 2) YX11_rounds [.ref 165, .int r, .int w] h (some (.int (-1))) h := by
  refine mm_M.of [some (.ref 165), some (.int r), some (.int w), none, none, none, none, none, none] rfl rfl (Nat.le_of_ble_eq_true rfl) ?_
  refine mm_aload_n dX11_rounds_0 rfl rfl ?_
  refine mm_iload_n dX11_rounds_1 rfl rfl ?_
  refine mm_cV (Y1 := YX11_isLaw) dX11_rounds_2 lX11_405 vX11_isLaw (mX11_isLaw d h nl S.2.2.1 (by have := S.2.2.2.1; omega) r) sh_165 rfl rfl (by simp [Value.category]) ?_
  refine mm_if_eq 18 dX11_rounds_5 (by decide) (fun c_5 => ?_) (fun c_5 => ?_)
  · refine mm_iconst (x := (-1)) dX11_rounds_18 (by decide) ?_
    exact mm_iretE dX11_rounds_19 rfl rfl rfl
  · refine mm_iload_n dX11_rounds_8 rfl rfl ?_
    refine mm_i2l dX11_rounds_9 rfl ?_
    refine mm_lconst (x := 0) dX11_rounds_10 (by decide) ?_
    refine mm_lconst (x := 1) dX11_rounds_11 (by decide) ?_
    refine mm_cS (Y1 := YX11_in) dX11_rounds_12 lX11_171 sX11_in (mX11_in (d + 1) h _ _ _) rfl rfl (by simp [Value.category]) ?_
    refine mm_if_ne 20 dX11_rounds_15 (by decide) (fun c_15 => ?_) (fun c_15 => ?_)
    · exact absurd ⟨bI_n0.mp c_5, by have q := bI_n0.mp c_15; rw [i64_toInt, li_0, li_1] at q; exact q⟩ hb
    · refine mm_iconst (x := (-1)) dX11_rounds_18 (by decide) ?_
      exact mm_iretE dX11_rounds_19 rfl rfl rfl
/-- the pairs that clash, so far -/
def relM (A : MD) (Q : LD) (P : PD) (a b : Nat) : Nat → Nat → Prop := fun i j => relF A Q P i j ∧ (i < a ∨ (i = a ∧ j < b))
theorem relM_row {A : MD} {Q : LD} {P : PD} {a i j : Nat} : relM A Q P a a i j ↔ relM A Q P (a + 1) 0 i j := by
  unfold relM relF
  constructor
  · rintro ⟨⟨x, y, z⟩, o⟩; exact ⟨⟨x, y, z⟩, by omega⟩
  · rintro ⟨⟨x, y, z⟩, o⟩; exact ⟨⟨x, y, z⟩, by omega⟩
theorem relM_out {A : MD} {Q : LD} {P : PD} {a i j : Nat} (ha : pdn P ≤ a) : relM A Q P a 0 i j ↔ relM A Q P (a + 1) 0 i j := by
  unfold relM relF
  constructor
  · rintro ⟨⟨x, y, z⟩, o⟩; exact ⟨⟨x, y, z⟩, by omega⟩
  · rintro ⟨⟨x, y, z⟩, o⟩; exact ⟨⟨x, y, z⟩, by omega⟩
theorem relM_all {A : MD} {Q : LD} {P : PD} (hn : pdn P ≤ 10) {i j : Nat} : relM A Q P 10 0 i j ↔ relF A Q P i j := by
  unfold relM relF
  constructor
  · rintro ⟨⟨x, y, z⟩, o⟩; exact ⟨x, y, z⟩
  · rintro ⟨x, y, z⟩; exact ⟨⟨x, y, z⟩, by omega⟩
theorem relM_y {A : MD} {Q : LD} {P : PD} {a b : Nat} (hba : b < a) (ha : a < pdn P) (hc : CL A Q P b a) : ∀ i j, relM A Q P a (b + 1) i j ↔ relM A Q P a b i j ∨ (i = a ∧ j = b) := by
  intro i j
  unfold relM
  constructor
  · rintro ⟨x, o⟩
    by_cases z : i = a ∧ j = b
    · exact Or.inr z
    · exact Or.inl ⟨x, by omega⟩
  · rintro (⟨x, o⟩ | ⟨rfl, rfl⟩)
    · exact ⟨x, by omega⟩
    · exact ⟨⟨hba, ha, CL_comm.mp hc⟩, by omega⟩
theorem relM_no {A : MD} {Q : LD} {P : PD} {a b : Nat} (hc : ¬ CL A Q P b a) : ∀ i j, relM A Q P a (b + 1) i j ↔ relM A Q P a b i j := by
  intro i j
  unfold relM
  constructor
  · rintro ⟨x, o⟩
    by_cases z : i = a ∧ j = b
    · obtain ⟨rfl, rfl⟩ := z
      exact absurd (CL_comm.mp x.2.2) hc
    · exact ⟨x, by omega⟩
  · rintro ⟨x, o⟩; exact ⟨x, by omega⟩
theorem relM_lt {A : MD} {Q : LD} {P : PD} {a b i j : Nat} (hn : pdn P ≤ 10) (z : relM A Q P a b i j) : i < 10 ∧ j < 10 ∧ i ≤ a ∧ j < i := by
  have := z.1.1; have := z.1.2.1; have := z.2; omega
set_option maxRecDepth 100000 in
set_option maxHeartbeats 4000000 in
theorem mX11_rounds_y (d : Nat) (h : mm_H) (A : MD) (LQ : Nat → LD) (nl : Nat) (S : stM A LQ nl h) (P : PD) (hP : pdOK A P) (hv : viewPM h P) (r : Nat) (hr : r < nl) (w : Int32) (hw : w = 0 ∨ w = 1) : ∃ x g, mm_M (d + 10) YX11_rounds [.ref 165, .int (nI r), .int w] h (some (.int (if w = 1 then nI (cN (relF A (LQ r) P)) else nI x))) g ∧ lst (qt (relF A (LQ r) P)) x (2 ^ pdn P - 1) ∧ mfr h g := by
  suffices hE : mm_E (d + 10) YX11_rounds 0 [some (.ref 165), some (.int (nI r)), some (.int w), none, none, none, none, none, none] [] h (fun v g => ∃ x, v = some (.int (if w = 1 then nI (cN (relF A (LQ r) P)) else nI x)) ∧ lst (qt (relF A (LQ r) P)) x (2 ^ pdn P - 1) ∧ mfr h g) by
    obtain ⟨v, g, hR, x, rfl, h1⟩ := hE
    exact ⟨x, g, mm_M.of _ rfl rfl (Nat.le_of_ble_eq_true rfl) hR, h1⟩
  have S0 := S
  have N1 := mX11_isLaw (d + 8) h nl S.2.2.1 (by have := S.2.2.2.1; omega) (nI r)
  obtain ⟨hA, hV, h6, hn6, hL⟩ := S
  have h12 := hA.1
  have h4 := hA.2.1
  have hn10 := hP.1
  have hn2 : 2 ^ pdn P ≤ 2 ^ 10 := Nat.pow_le_pow_right (by decide) hn10
  have hn0 : 0 < 2 ^ pdn P := Nat.pos_of_ne_zero (p2_ne _)
  have hRF : ∀ i j, (relF A (LQ r) P) i j → j < i := fun i j z => z.1
  have hRF2 : ∀ i j, (relF A (LQ r) P) i j → i < 10 ∧ j < 10 := fun i j z => by have := z.1; have := z.2.1; omega
  have h1 : ∀ i, i < 10 → qt (relF A (LQ r) P) (2 ^ i) := fun i _ => qt_1 hRF i
  have K158 : ∀ m S, S + m = 2 ^ pdn P → 1 ≤ S → ∀ gg, (mfr h gg ∧ mskN 207 10 (sy (relF A (LQ r) P)) gg ∧ ∃ rd : Nat → Nat, ∀ T, T < S → gg.1 208 T = nI (rd T) ∧ lst (qt (relF A (LQ r) P)) (rd T) T) → ∀ x6 x7 x8, mm_E (d + 10) YX11_rounds 158 [some (.ref 165), some (.int (nI r)), some (.int w), some (.int (nI (pdn P))), some (.int (nI (cN (relF A (LQ r) P)))), some (.int (nI S)), x6, x7, x8] [] gg (fun v g => ∃ x, v = some (.int (if w = 1 then nI (cN (relF A (LQ r) P)) else nI x)) ∧ lst (qt (relF A (LQ r) P)) x (2 ^ pdn P - 1) ∧ mfr h g) := by
    intro m
    induction m with
    | zero =>
      intro S hS hS1 gg st x6 x7 x8
      have hS : S = 2 ^ pdn P := by omega
      obtain ⟨fr, s1, rd, s2⟩ := st
      obtain ⟨er, hl⟩ := s2 (2 ^ pdn P - 1) (by omega)
      rw [hS]
      rcases hw with rfl | rfl
      · skip
        refine mm_Es (fun _ _ => mm_iload dX11_rounds_158 rfl) ?_
        refine mm_Es (fun _ _ => mm_iconst (x := 1) dX11_rounds_160 (by decide)) ?_
        refine mm_Es (fun _ _ => mm_iload_n dX11_rounds_161 rfl rfl) ?_
        refine mm_Es (fun _ _ => mm_ishl dX11_rounds_162) ?_
        refine mm_Es (fun _ _ => mm_cast (st' := [.int (nI (2 ^ pdn P)), .int (nI (2 ^ pdn P))]) rfl (by rw [sh1 (by omega)] <;> rfl) rfl) ?_
        refine mm_Eb (fun _ _ => mm_icmp_ge 252 dX11_rounds_163 (by decide)) (fun c_163 => ?_) (fun c_163 => ?_)
        · refine mm_Es (fun _ _ => mm_iload_n dX11_rounds_252 rfl rfl) ?_
          refine mm_Es (fun _ _ => mm_iconst (x := 1) dX11_rounds_253 (by decide)) ?_
          refine mm_Ebn (fun _ _ => mm_icmp_ne 262 dX11_rounds_254 (by decide)) (fun c_254 => ?_) (fun c_254 => ?_)
          · refine mm_Es (fun _ _ => mm_aload_n dX11_rounds_262 rfl rfl) ?_
            refine mm_Es (fun _ _ => mm_getS dX11_rounds_263 fX11_144 sh_165 rfl gr_165_58) ?_
            refine mm_Es (fun _ _ => mm_iconst (x := 1) dX11_rounds_266 (by decide)) ?_
            refine mm_Es (fun _ _ => mm_iload_n dX11_rounds_267 rfl rfl) ?_
            refine mm_Es (fun _ _ => mm_ishl dX11_rounds_268) ?_
            refine mm_Es (fun _ _ => mm_iconst (x := 1) dX11_rounds_269 (by decide)) ?_
            refine mm_Es (fun _ _ => mm_isub dX11_rounds_270) ?_
            refine mm_Es (fun _ _ => mm_iald ((2 ^ pdn P - 1)) dX11_rounds_271 sh_208 (by rw [sh1 (by omega), p2m1 (by omega)]) (by omega)) ?_
            refine mm_Er (mm_ireturn dX11_rounds_272 rfl) ?_
            exact ⟨rd (2 ^ pdn P - 1), by rw [if_neg (by decide), er], hl, fr⟩
          · exact absurd c_254 (by decide)
        · exact absurd (Int32.le_refl _) c_163
      · skip
        refine mm_Es (fun _ _ => mm_iload dX11_rounds_158 rfl) ?_
        refine mm_Es (fun _ _ => mm_iconst (x := 1) dX11_rounds_160 (by decide)) ?_
        refine mm_Es (fun _ _ => mm_iload_n dX11_rounds_161 rfl rfl) ?_
        refine mm_Es (fun _ _ => mm_ishl dX11_rounds_162) ?_
        refine mm_Es (fun _ _ => mm_cast (st' := [.int (nI (2 ^ pdn P)), .int (nI (2 ^ pdn P))]) rfl (by rw [sh1 (by omega)] <;> rfl) rfl) ?_
        refine mm_Eb (fun _ _ => mm_icmp_ge 252 dX11_rounds_163 (by decide)) (fun c_163 => ?_) (fun c_163 => ?_)
        · refine mm_Es (fun _ _ => mm_iload_n dX11_rounds_252 rfl rfl) ?_
          refine mm_Es (fun _ _ => mm_iconst (x := 1) dX11_rounds_253 (by decide)) ?_
          refine mm_Ebn (fun _ _ => mm_icmp_ne 262 dX11_rounds_254 (by decide)) (fun c_254 => ?_) (fun c_254 => ?_)
          · exact absurd c_254 (by decide)
          · refine mm_Es (fun _ _ => mm_iload dX11_rounds_257 rfl) ?_
            refine mm_Es (fun _ _ => mm_goto 272 dX11_rounds_259 (by decide)) ?_
            refine mm_Er (mm_ireturn dX11_rounds_272 rfl) ?_
            exact ⟨rd (2 ^ pdn P - 1), by rw [if_pos rfl], hl, fr⟩
        · exact absurd (Int32.le_refl _) c_163
    | succ m ih =>
      intro S hS hS1 gg st x6 x7 x8
      obtain ⟨fr, s1, rd, s2⟩ := st
      have hS10 : S < 1024 := by omega
      have hlt2 : S < 2 ^ pdn P := by omega
      have hpc := pc_le (show S < 4096 by omega)
      have hp2 : 2 ^ pc S ≤ 4096 := p2_lt hpc
      have hp0 : 0 < 2 ^ pc S := Nat.pos_of_ne_zero (p2_ne _)
      have hrd : ∀ T, T < S → rd T ≤ 10 := fun T hT => Nat.le_trans (lst_pc h1 (by omega) (s2 T hT).2) (pc_10 (by omega))
      have K174 : ∀ i, i < 2 ^ pc S → ∀ x, x ≤ 10 → (∀ i2, i < i2 → i2 < 2 ^ pc S → qt (relF A (LQ r) P) (sbs S i2) → x ≤ 1 + rd (S ^^^ sbs S i2)) → (x = 10 ∨ ∃ i2, i < i2 ∧ i2 < 2 ^ pc S ∧ qt (relF A (LQ r) P) (sbs S i2) ∧ x = 1 + rd (S ^^^ sbs S i2)) → ∀ x8, mm_E (d + 10) YX11_rounds 174 [some (.ref 165), some (.int (nI r)), some (.int w), some (.int (nI (pdn P))), some (.int (nI (cN (relF A (LQ r) P)))), some (.int (nI S)), some (.int (nI x)), some (.int (nI (sbs S i))), x8] [] gg (fun v g => ∃ x, v = some (.int (if w = 1 then nI (cN (relF A (LQ r) P)) else nI x)) ∧ lst (qt (relF A (LQ r) P)) x (2 ^ pdn P - 1) ∧ mfr h g) := by
        intro i
        induction i with
        | zero =>
          intro hi x a1 a2 a3 x8
          have hl : lst (qt (relF A (LQ r) P)) x S := lst_ref h1 hS10 (by omega) (rd := rd) (fun T hT => (s2 T hT).2) a1 (fun L h0 hL hq2 => by
            obtain ⟨j, j1, j2⟩ := sbs_onto (show S < 4096 by omega) hL
            have hj : 0 < j := Nat.pos_of_ne_zero (fun z => h0 (by rw [← j2, z, sbs_0]))
            have := a2 j hj j1 (by rw [j2]; exact hq2)
            rw [j2] at this
            exact this) (a3.imp id (fun ⟨i2, b0, b1, b2, b3⟩ => ⟨_, fun z => by have := sbs_lt (show S < 4096 by omega) b0 b1; rw [sbs_0, z] at this; omega, sbs_sub S i2, b2, b3⟩))
          have K := ih (S + 1) (by omega) (by omega) (mm_up gg.1 208 S (nI x), gg.2.1, gg.2.2) ⟨⟨fr.1.up (c := 208) rfl, fun j hj => by dsimp only; rw [mm_up_n (by decide)]; exact fr.2 j hj⟩, mskN_c s1 (Nat.le_refl _) (fun _ _ _ => Iff.rfl) (by dsimp only; rw [mm_up_n (by decide)]), fun T => if T = S then x else rd T, fun T hT => by
            dsimp only
            by_cases z : T = S
            · rw [z, mm_up_e, if_pos rfl]; exact ⟨rfl, hl⟩
            · rw [mm_up_k z, if_neg z]; exact s2 T (by omega)⟩
          rw [sbs_0]
          refine mm_Es (fun _ _ => mm_iload dX11_rounds_174 rfl) ?_
          refine mm_Eb (fun _ _ => mm_if_le 237 dX11_rounds_176 (by decide)) (fun c_176 => ?_) (fun c_176 => ?_)
          · refine mm_Es (fun _ _ => mm_aload_n dX11_rounds_237 rfl rfl) ?_
            refine mm_Es (fun _ _ => mm_getS dX11_rounds_238 fX11_144 sh_165 rfl gr_165_58) ?_
            refine mm_Es (fun _ _ => mm_iload dX11_rounds_241 rfl) ?_
            refine mm_Es (fun _ _ => mm_iload dX11_rounds_243 rfl) ?_
            refine mm_Es (fun _ _ => mm_iast (S) dX11_rounds_245 sh_208 rfl (by omega)) ?_
            refine mm_Es (fun _ _ => mm_iinc dX11_rounds_246 rfl (nI_inc S) rfl) ?_
            refine mm_Es (fun _ _ => mm_goto 158 dX11_rounds_249 (by decide)) ?_
            exact K _ _ _
          · exact absurd (by decide) c_176
        | succ i ihi =>
          intro hi x a1 a2 a3 x8
          obtain ⟨t, et⟩ : ∃ t, t = sbs S (i + 1) := ⟨_, rfl⟩
          have ht : sub t S := by rw [et]; exact sbs_sub S _
          have htl := sub_le ht
          have ht0 : 0 < t := by
            have := sbs_lt (show S < 4096 by omega) (show 0 < i + 1 by omega) hi
            rw [sbs_0, ← et] at this
            exact this
          have hnx : (nI t - 1) &&& nI S = nI (sbs S i) := by rw [et]; exact prv_sbs (by omega) hi
          have hxl := xor_lt ht (by omega)
          have MQ := mX11_isQuiet (d + 8) gg (relF A (LQ r) P) hRF2 s1 t (by omega)
          obtain ⟨er, -⟩ := s2 (S ^^^ t) hxl
          have hrt := hrd _ hxl
          by_cases hqt : qt (relF A (LQ r) P) t
          · have K := ihi (by omega) (if 1 + rd (S ^^^ t) < x then 1 + rd (S ^^^ t) else x) (by split <;> omega) (fun i2 h2 h3 hq2 => by
              by_cases z : i2 = i + 1
              · rw [z, ← et]; split <;> omega
              · have := a2 i2 (by omega) h3 hq2
                split <;> omega) (by
              split
              · exact Or.inr ⟨i + 1, by omega, hi, by rw [← et]; exact hqt, by rw [← et]⟩
              · exact a3.imp id (fun ⟨i2, b0, b1, b2, b3⟩ => ⟨i2, by omega, b1, b2, b3⟩))
            rw [← et]
            refine mm_Es (fun _ _ => mm_iload dX11_rounds_174 rfl) ?_
            refine mm_Eb (fun _ _ => mm_if_le 237 dX11_rounds_176 (by decide)) (fun c_176 => ?_) (fun c_176 => ?_)
            · exact absurd c_176 (by rw [Int32.le_iff_toInt_le, ti_0, nI_toInt (by omega)]; omega)
            · refine mm_Es (fun _ _ => mm_aload_n dX11_rounds_179 rfl rfl) ?_
              refine mm_Es (fun _ _ => mm_iload dX11_rounds_180 rfl) ?_
              refine mm_Es (fun _ _ => mm_cV (Y1 := YX11_isQuiet) dX11_rounds_182 lX11_489 vX11_isQuiet (MQ) sh_165 rfl rfl (by simp [Value.category])) ?_
              refine mm_Eb (fun _ _ => mm_if_eq 205 dX11_rounds_185 (by decide)) (fun c_185 => ?_) (fun c_185 => ?_)
              · exact absurd hqt (pI_e0.mp c_185)
              · refine mm_Es (fun _ _ => mm_iconst (x := 1) dX11_rounds_188 (by decide)) ?_
                refine mm_Es (fun _ _ => mm_aload_n dX11_rounds_189 rfl rfl) ?_
                refine mm_Es (fun _ _ => mm_getS dX11_rounds_190 fX11_144 sh_165 rfl gr_165_58) ?_
                refine mm_Es (fun _ _ => mm_iload dX11_rounds_193 rfl) ?_
                refine mm_Es (fun _ _ => mm_iload dX11_rounds_195 rfl) ?_
                refine mm_Es (fun _ _ => mm_iconst (x := (-1)) dX11_rounds_197 (by decide)) ?_
                refine mm_Es (fun _ _ => mm_ixor dX11_rounds_198) ?_
                refine mm_Es (fun _ _ => mm_iand dX11_rounds_199) ?_
                refine mm_Es (fun _ _ => mm_iald ((S ^^^ t)) dX11_rounds_200 sh_208 (andn (by omega) ht) (by omega)) ?_
                refine mm_Es (fun _ _ => mm_iadd dX11_rounds_201) ?_
                refine mm_Es (fun _ _ => mm_goto 207 dX11_rounds_202 (by decide)) ?_
                refine mm_Es (fun _ _ => mm_cast (st' := [.int (nI (1 + rd (S ^^^ t)))]) rfl (by first | rfl | (rw [er, show (1 : Int32) + nI (rd (S ^^^ t)) = nI (1 + rd (S ^^^ t)) from nI_add 1 _] <;> rfl)) rfl) ?_
                refine mm_Es (fun _ _ => mm_istore dX11_rounds_207 (by decide) rfl) ?_
                refine mm_Es (fun _ _ => mm_iload dX11_rounds_209 rfl) ?_
                refine mm_Es (fun _ _ => mm_iload dX11_rounds_211 rfl) ?_
                refine mm_Eb (fun _ _ => mm_icmp_ge 221 dX11_rounds_213 (by decide)) (fun c_213 => ?_) (fun c_213 => ?_)
                · rw [if_neg (fun z => absurd c_213 (nI_ge z (by omega)))] at K
                  refine mm_Es (fun _ _ => mm_iload dX11_rounds_221 rfl) ?_
                  refine mm_Es (fun _ _ => mm_istore dX11_rounds_223 (by decide) rfl) ?_
                  refine mm_Es (fun _ _ => mm_iload dX11_rounds_225 rfl) ?_
                  refine mm_Es (fun _ _ => mm_iconst (x := 1) dX11_rounds_227 (by decide)) ?_
                  refine mm_Es (fun _ _ => mm_isub dX11_rounds_228) ?_
                  refine mm_Es (fun _ _ => mm_iload dX11_rounds_229 rfl) ?_
                  refine mm_Es (fun _ _ => mm_iand dX11_rounds_231) ?_
                  refine mm_Es (fun _ _ => mm_cast (st' := [.int (nI (sbs S i))]) rfl (by rw [hnx] <;> rfl) rfl) ?_
                  refine mm_Es (fun _ _ => mm_istore dX11_rounds_232 (by decide) rfl) ?_
                  refine mm_Es (fun _ _ => mm_goto 174 dX11_rounds_234 (by decide)) ?_
                  exact K _
                · rw [if_pos (Nat.lt_of_not_le (fun z => c_213 (nI_le z (by omega))))] at K
                  refine mm_Es (fun _ _ => mm_iload dX11_rounds_216 rfl) ?_
                  refine mm_Es (fun _ _ => mm_goto 223 dX11_rounds_218 (by decide)) ?_
                  refine mm_Es (fun _ _ => mm_istore dX11_rounds_223 (by decide) rfl) ?_
                  refine mm_Es (fun _ _ => mm_iload dX11_rounds_225 rfl) ?_
                  refine mm_Es (fun _ _ => mm_iconst (x := 1) dX11_rounds_227 (by decide)) ?_
                  refine mm_Es (fun _ _ => mm_isub dX11_rounds_228) ?_
                  refine mm_Es (fun _ _ => mm_iload dX11_rounds_229 rfl) ?_
                  refine mm_Es (fun _ _ => mm_iand dX11_rounds_231) ?_
                  refine mm_Es (fun _ _ => mm_cast (st' := [.int (nI (sbs S i))]) rfl (by rw [hnx] <;> rfl) rfl) ?_
                  refine mm_Es (fun _ _ => mm_istore dX11_rounds_232 (by decide) rfl) ?_
                  refine mm_Es (fun _ _ => mm_goto 174 dX11_rounds_234 (by decide)) ?_
                  exact K _
          · have K := ihi (by omega) x a1 (fun i2 h2 h3 hq2 => by
              by_cases z : i2 = i + 1
              · rw [z, ← et] at hq2; exact absurd hq2 hqt
              · exact a2 i2 (by omega) h3 hq2) (a3.imp id (fun ⟨i2, b0, b1, b2, b3⟩ => ⟨i2, by omega, b1, b2, b3⟩))
            rw [← et]
            refine mm_Es (fun _ _ => mm_iload dX11_rounds_174 rfl) ?_
            refine mm_Eb (fun _ _ => mm_if_le 237 dX11_rounds_176 (by decide)) (fun c_176 => ?_) (fun c_176 => ?_)
            · exact absurd c_176 (by rw [Int32.le_iff_toInt_le, ti_0, nI_toInt (by omega)]; omega)
            · refine mm_Es (fun _ _ => mm_aload_n dX11_rounds_179 rfl rfl) ?_
              refine mm_Es (fun _ _ => mm_iload dX11_rounds_180 rfl) ?_
              refine mm_Es (fun _ _ => mm_cV (Y1 := YX11_isQuiet) dX11_rounds_182 lX11_489 vX11_isQuiet (MQ) sh_165 rfl rfl (by simp [Value.category])) ?_
              refine mm_Eb (fun _ _ => mm_if_eq 205 dX11_rounds_185 (by decide)) (fun c_185 => ?_) (fun c_185 => ?_)
              · refine mm_Es (fun _ _ => mm_bipush (x := 10) dX11_rounds_205 (by decide)) ?_
                refine mm_Es (fun _ _ => mm_cast (st' := [.int (nI 10)]) rfl (by first | rfl | (rw [er, show (1 : Int32) + nI (rd (S ^^^ t)) = nI (1 + rd (S ^^^ t)) from nI_add 1 _] <;> rfl)) rfl) ?_
                refine mm_Es (fun _ _ => mm_istore dX11_rounds_207 (by decide) rfl) ?_
                refine mm_Es (fun _ _ => mm_iload dX11_rounds_209 rfl) ?_
                refine mm_Es (fun _ _ => mm_iload dX11_rounds_211 rfl) ?_
                refine mm_Eb (fun _ _ => mm_icmp_ge 221 dX11_rounds_213 (by decide)) (fun c_213 => ?_) (fun c_213 => ?_)
                · refine mm_Es (fun _ _ => mm_iload dX11_rounds_221 rfl) ?_
                  refine mm_Es (fun _ _ => mm_istore dX11_rounds_223 (by decide) rfl) ?_
                  refine mm_Es (fun _ _ => mm_iload dX11_rounds_225 rfl) ?_
                  refine mm_Es (fun _ _ => mm_iconst (x := 1) dX11_rounds_227 (by decide)) ?_
                  refine mm_Es (fun _ _ => mm_isub dX11_rounds_228) ?_
                  refine mm_Es (fun _ _ => mm_iload dX11_rounds_229 rfl) ?_
                  refine mm_Es (fun _ _ => mm_iand dX11_rounds_231) ?_
                  refine mm_Es (fun _ _ => mm_cast (st' := [.int (nI (sbs S i))]) rfl (by rw [hnx] <;> rfl) rfl) ?_
                  refine mm_Es (fun _ _ => mm_istore dX11_rounds_232 (by decide) rfl) ?_
                  refine mm_Es (fun _ _ => mm_goto 174 dX11_rounds_234 (by decide)) ?_
                  exact K _
                · exact absurd (nI_le (b := 10) a1 (by omega)) c_213
              · exact absurd (pI_n0.mp c_185) hqt
      have K := K174 (2 ^ pc S - 1) (by omega) 10 (by omega) (fun i2 h2 h3 => by omega) (Or.inl rfl)
      rw [sbs_top (by omega)] at K
      refine mm_Es (fun _ _ => mm_iload dX11_rounds_158 rfl) ?_
      refine mm_Es (fun _ _ => mm_iconst (x := 1) dX11_rounds_160 (by decide)) ?_
      refine mm_Es (fun _ _ => mm_iload_n dX11_rounds_161 rfl rfl) ?_
      refine mm_Es (fun _ _ => mm_ishl dX11_rounds_162) ?_
      refine mm_Es (fun _ _ => mm_cast (st' := [.int (nI (2 ^ pdn P)), .int (nI S)]) rfl (by rw [sh1 (by omega)] <;> rfl) rfl) ?_
      refine mm_Eb (fun _ _ => mm_icmp_ge 252 dX11_rounds_163 (by decide)) (fun c_163 => ?_) (fun c_163 => ?_)
      · exact absurd c_163 (nI_ge hlt2 (by omega))
      · refine mm_Es (fun _ _ => mm_bipush (x := 10) dX11_rounds_166 (by decide)) ?_
        refine mm_Es (fun _ _ => mm_istore dX11_rounds_168 (by decide) rfl) ?_
        refine mm_Es (fun _ _ => mm_iload dX11_rounds_170 rfl) ?_
        refine mm_Es (fun _ _ => mm_istore dX11_rounds_172 (by decide) rfl) ?_
        exact K _
  have K33 : ∀ m a, a + m = 10 → ∀ gg, (mfr h gg ∧ mskN 207 a (sy (relM A (LQ r) P a 0)) gg) → ∀ x6 x7 x8, mm_E (d + 10) YX11_rounds 33 [some (.ref 165), some (.int (nI r)), some (.int w), some (.int (nI (pdn P))), some (.int (nI (cN (relM A (LQ r) P a 0)))), some (.int (nI a)), x6, x7, x8] [] gg (fun v g => ∃ x, v = some (.int (if w = 1 then nI (cN (relF A (LQ r) P)) else nI x)) ∧ lst (qt (relF A (LQ r) P)) x (2 ^ pdn P - 1) ∧ mfr h g) := by
    intro m
    induction m with
    | zero =>
      intro a ha gg st x6 x7 x8
      have ha : a = 10 := by omega
      subst ha
      have eN : cN (relM A (LQ r) P 10 0) = cN (relF A (LQ r) P) := cN_c (fun _ _ => (relM_all hn10).symm) |>.symm
      have K := K158 (2 ^ pdn P - 1) 1 (by omega) (by omega) (mm_up gg.1 208 0 0, gg.2.1, gg.2.2) ⟨⟨st.1.1.up (c := 208) rfl, fun j hj => by dsimp only; rw [mm_up_n (by decide)]; exact st.1.2 j hj⟩, mskN_c st.2 (Nat.le_refl _) (fun i j _ => by unfold sy; rw [relM_all hn10, relM_all hn10]) (by dsimp only; rw [mm_up_n (by decide)]), fun _ => 0, fun T hT => by
        have : T = 0 := by omega
        subst this
        dsimp only
        rw [mm_up_e]
        exact ⟨rfl, lst_0⟩⟩
      rw [eN]
      refine mm_Es (fun _ _ => mm_iload dX11_rounds_33 rfl) ?_
      refine mm_Es (fun _ _ => mm_bipush (x := 10) dX11_rounds_35 (by decide)) ?_
      refine mm_Eb (fun _ _ => mm_icmp_ge 148 dX11_rounds_37 (by decide)) (fun c_37 => ?_) (fun c_37 => ?_)
      · refine mm_Es (fun _ _ => mm_aload_n dX11_rounds_148 rfl rfl) ?_
        refine mm_Es (fun _ _ => mm_getS dX11_rounds_149 fX11_144 sh_165 rfl gr_165_58) ?_
        refine mm_Es (fun _ _ => mm_iconst (x := 0) dX11_rounds_152 (by decide)) ?_
        refine mm_Es (fun _ _ => mm_iconst (x := 0) dX11_rounds_153 (by decide)) ?_
        refine mm_Es (fun _ _ => mm_iast (0) dX11_rounds_154 sh_208 rfl (by decide)) ?_
        refine mm_Es (fun _ _ => mm_iconst (x := 1) dX11_rounds_155 (by decide)) ?_
        refine mm_Es (fun _ _ => mm_istore dX11_rounds_156 (by decide) rfl) ?_
        exact K _ _ _
      · exact absurd (by decide) c_37
    | succ m ih =>
      intro a ha gg st x6 x7 x8
      have ha10 : a < 10 := by omega
      have K51 : ∀ m b, b + m = a → ∀ gg, (mfr h gg ∧ mskN 207 (a + 1) (sy (relM A (LQ r) P a b)) gg) → ∀ x7 x8, mm_E (d + 10) YX11_rounds 51 [some (.ref 165), some (.int (nI r)), some (.int w), some (.int (nI (pdn P))), some (.int (nI (cN (relM A (LQ r) P a b)))), some (.int (nI a)), some (.int (nI b)), x7, x8] [] gg (fun v g => ∃ x, v = some (.int (if w = 1 then nI (cN (relF A (LQ r) P)) else nI x)) ∧ lst (qt (relF A (LQ r) P)) x (2 ^ pdn P - 1) ∧ mfr h g) := by
        intro m
        induction m with
        | zero =>
          intro b hb gg st x7 x8
          have hb : b = a := by omega
          subst hb
          have K := ih (b + 1) (by omega) gg ⟨st.1, mskN_c st.2 (Nat.le_refl _) (fun i j _ => by unfold sy; rw [relM_row, relM_row]) rfl⟩
          rw [← cN_c (fun _ _ => relM_row)] at K
          refine mm_Es (fun _ _ => mm_iload dX11_rounds_51 rfl) ?_
          refine mm_Es (fun _ _ => mm_iload_n dX11_rounds_53 rfl rfl) ?_
          refine mm_Eb (fun _ _ => mm_icmp_ge 142 dX11_rounds_54 (by decide)) (fun c_54 => ?_) (fun c_54 => ?_)
          · refine mm_Es (fun _ _ => mm_iinc dX11_rounds_142 rfl (nI_inc b) rfl) ?_
            refine mm_Es (fun _ _ => mm_goto 33 dX11_rounds_145 (by decide)) ?_
            exact K _ _ _
          · refine mm_Es (fun _ _ => mm_iload dX11_rounds_57 rfl) ?_
            refine mm_Es (fun _ _ => mm_iload dX11_rounds_59 rfl) ?_
            refine mm_Eb (fun _ _ => mm_icmp_ge 142 dX11_rounds_61 (by decide)) (fun c_61 => ?_) (fun c_61 => ?_)
            · refine mm_Es (fun _ _ => mm_iinc dX11_rounds_142 rfl (nI_inc b) rfl) ?_
              refine mm_Es (fun _ _ => mm_goto 33 dX11_rounds_145 (by decide)) ?_
              exact K _ _ _
            · exact absurd (Int32.le_refl _) c_61
        | succ m ihm =>
          intro b hb gg st x7 x8
          have hba : b < a := by omega
          by_cases han : a < pdn P
          · have Sg := S0.next st.1
            obtain ⟨g1, M1, f1⟩ := mX11_isClash d gg A hA Sg.2.1 (LQ r) r (by omega) (hL r hr).1 (Sg.2.2.2.2 r hr).2 P hP (viewPM_f hv st.1.1 ⟨rfl, rfl, rfl⟩) b a (by omega) han
            have fr1 := st.1.trans f1.mfr
            have e207 : g1.1 207 = gg.1 207 := f1.1.i rfl
            have m1 : mskN 207 (a + 1) (sy (relM A (LQ r) P a b)) g1 := mskN_c st.2 (Nat.le_refl _) (fun _ _ _ => Iff.rfl) e207
            by_cases hc : CL A (LQ r) P b a
            · obtain ⟨g2, eg2⟩ : ∃ g2 : mm_H, g2 = (mm_up g1.1 207 a (g1.1 207 a ||| ((1 : Int32) <<< (nI b &&& 31))), g1.2.1, g1.2.2) := ⟨_, rfl⟩
              have hy := relM_y hba han hc
              have m2 : mskN 207 (a + 1) (fun i j => sy (relM A (LQ r) P a b) i j ∨ (i = a ∧ j = b)) g2 := by rw [eg2]; exact mskN_add m1 (by omega) (fun _ _ _ => Iff.rfl)
              have m3 := mskN_add (R2 := sy (relM A (LQ r) P a (b + 1))) m2 (i := b) (j := a) (by omega) (fun i j _ => by
                unfold sy
                rw [hy, hy]
                constructor
                · rintro ((q | q) | (q | q))
                  · exact Or.inl (Or.inl (Or.inl q))
                  · exact Or.inl (Or.inr q)
                  · exact Or.inl (Or.inl (Or.inr q))
                  · exact Or.inr ⟨q.2, q.1⟩
                · rintro (((q | q) | q) | q)
                  · exact Or.inl (Or.inl q)
                  · exact Or.inr (Or.inl q)
                  · exact Or.inl (Or.inr q)
                  · exact Or.inr (Or.inr ⟨q.2, q.1⟩))
              have hcn : cN (relM A (LQ r) P a (b + 1)) = cN (relM A (LQ r) P a b) + 1 := cN_add (i := a) (j := b) (by omega) (by omega) (fun z => by have := z.2; omega) hy
              have K := ihm (b + 1) (by omega) _ ⟨⟨by rw [eg2]; exact (fr1.1.up (c := 207) rfl).up (c := 207) rfl, fun j hj => by dsimp only; rw [mm_up_n (by decide), eg2]; dsimp only; rw [mm_up_n (by decide)]; exact fr1.2 j hj⟩, m3⟩
              rw [hcn] at K
              refine mm_Es (fun _ _ => mm_iload dX11_rounds_51 rfl) ?_
              refine mm_Es (fun _ _ => mm_iload_n dX11_rounds_53 rfl rfl) ?_
              refine mm_Eb (fun _ _ => mm_icmp_ge 142 dX11_rounds_54 (by decide)) (fun c_54 => ?_) (fun c_54 => ?_)
              · exact absurd c_54 (nI_ge han (by omega))
              · refine mm_Es (fun _ _ => mm_iload dX11_rounds_57 rfl) ?_
                refine mm_Es (fun _ _ => mm_iload dX11_rounds_59 rfl) ?_
                refine mm_Eb (fun _ _ => mm_icmp_ge 142 dX11_rounds_61 (by decide)) (fun c_61 => ?_) (fun c_61 => ?_)
                · exact absurd c_61 (nI_ge hba (by omega))
                · refine mm_Es (fun _ _ => mm_aload_n dX11_rounds_64 rfl rfl) ?_
                  refine mm_Es (fun _ _ => mm_iload_n dX11_rounds_65 rfl rfl) ?_
                  refine mm_Es (fun _ _ => mm_iload dX11_rounds_66 rfl) ?_
                  refine mm_Es (fun _ _ => mm_iload dX11_rounds_68 rfl) ?_
                  refine mm_Es (fun _ _ => mm_cV (Y1 := YX11_isClash) dX11_rounds_70 lX11_486 vX11_isClash (M1) sh_165 rfl rfl (by simp [Value.category])) ?_
                  refine mm_Es (fun _ _ => mm_istore dX11_rounds_73 (by decide) rfl) ?_
                  refine mm_Es (fun _ _ => mm_aload_n dX11_rounds_75 rfl rfl) ?_
                  refine mm_Es (fun _ _ => mm_getS dX11_rounds_76 fX11_141 sh_165 rfl gr_165_57) ?_
                  refine mm_Es (fun _ _ => mm_iload dX11_rounds_79 rfl) ?_
                  refine mm_Es (fun _ _ => mm_dup2 dX11_rounds_81 rfl rfl) ?_
                  refine mm_Es (fun _ _ => mm_iald (a) dX11_rounds_82 sh_207 rfl (by omega)) ?_
                  refine mm_Es (fun _ _ => mm_iload dX11_rounds_83 rfl) ?_
                  refine mm_Eb (fun _ _ => mm_if_eq 95 dX11_rounds_85 (by decide)) (fun c_85 => ?_) (fun c_85 => ?_)
                  · exact absurd hc (pI_e0.mp c_85)
                  · refine mm_Es (fun _ _ => mm_iconst (x := 1) dX11_rounds_88 (by decide)) ?_
                    refine mm_Es (fun _ _ => mm_iload dX11_rounds_89 rfl) ?_
                    refine mm_Es (fun _ _ => mm_ishl dX11_rounds_91) ?_
                    refine mm_Es (fun _ _ => mm_goto 96 dX11_rounds_92 (by decide)) ?_
                    refine mm_Es (fun _ _ => mm_ior dX11_rounds_96) ?_
                    refine mm_Es (fun _ _ => mm_iast (a) dX11_rounds_97 sh_207 rfl (by omega)) ?_
                    refine mm_Ec rfl rfl eg2.symm ?_
                    refine mm_Es (fun _ _ => mm_aload_n dX11_rounds_98 rfl rfl) ?_
                    refine mm_Es (fun _ _ => mm_getS dX11_rounds_99 fX11_141 sh_165 rfl gr_165_57) ?_
                    refine mm_Es (fun _ _ => mm_iload dX11_rounds_102 rfl) ?_
                    refine mm_Es (fun _ _ => mm_dup2 dX11_rounds_104 rfl rfl) ?_
                    refine mm_Es (fun _ _ => mm_iald (b) dX11_rounds_105 sh_207 rfl (by omega)) ?_
                    refine mm_Es (fun _ _ => mm_iload dX11_rounds_106 rfl) ?_
                    refine mm_Eb (fun _ _ => mm_if_eq 118 dX11_rounds_108 (by decide)) (fun c_108 => ?_) (fun c_108 => ?_)
                    · exact absurd hc (pI_e0.mp c_108)
                    · refine mm_Es (fun _ _ => mm_iconst (x := 1) dX11_rounds_111 (by decide)) ?_
                      refine mm_Es (fun _ _ => mm_iload dX11_rounds_112 rfl) ?_
                      refine mm_Es (fun _ _ => mm_ishl dX11_rounds_114) ?_
                      refine mm_Es (fun _ _ => mm_goto 119 dX11_rounds_115 (by decide)) ?_
                      refine mm_Es (fun _ _ => mm_ior dX11_rounds_119) ?_
                      refine mm_Es (fun _ _ => mm_iast (b) dX11_rounds_120 sh_207 rfl (by omega)) ?_
                      refine mm_Es (fun _ _ => mm_iload dX11_rounds_121 rfl) ?_
                      refine mm_Es (fun _ _ => mm_iload dX11_rounds_123 rfl) ?_
                      refine mm_Eb (fun _ _ => mm_if_eq 132 dX11_rounds_125 (by decide)) (fun c_125 => ?_) (fun c_125 => ?_)
                      · exact absurd hc (pI_e0.mp c_125)
                      · refine mm_Es (fun _ _ => mm_iconst (x := 1) dX11_rounds_128 (by decide)) ?_
                        refine mm_Es (fun _ _ => mm_goto 133 dX11_rounds_129 (by decide)) ?_
                        refine mm_Es (fun _ _ => mm_iadd dX11_rounds_133) ?_
                        refine mm_Es (fun _ _ => mm_cast (st' := [.int (nI (cN (relM A (LQ r) P a b) + 1))]) rfl (by rw [nI_succ] <;> rfl) rfl) ?_
                        refine mm_Es (fun _ _ => mm_istore dX11_rounds_134 (by decide) rfl) ?_
                        refine mm_Es (fun _ _ => mm_iinc dX11_rounds_136 rfl (nI_inc b) rfl) ?_
                        refine mm_Es (fun _ _ => mm_goto 51 dX11_rounds_139 (by decide)) ?_
                        exact K _ _
            · have hy := relM_no hc
              have eI : ∀ i, mm_up g1.1 207 i (g1.1 207 i ||| 0) = g1.1 := fun i => by
                rw [or0]
                funext c2
                by_cases z : c2 = 207
                · subst z
                  funext j2
                  by_cases z2 : j2 = i
                  · subst z2; rw [mm_up_e]
                  · rw [mm_up_k z2]
                · rw [mm_up_n z]
              have K := ihm (b + 1) (by omega) g1 ⟨fr1, mskN_c m1 (Nat.le_refl _) (fun i j _ => by unfold sy; rw [hy, hy]) rfl⟩
              rw [cN_c hy] at K
              refine mm_Es (fun _ _ => mm_iload dX11_rounds_51 rfl) ?_
              refine mm_Es (fun _ _ => mm_iload_n dX11_rounds_53 rfl rfl) ?_
              refine mm_Eb (fun _ _ => mm_icmp_ge 142 dX11_rounds_54 (by decide)) (fun c_54 => ?_) (fun c_54 => ?_)
              · exact absurd c_54 (nI_ge han (by omega))
              · refine mm_Es (fun _ _ => mm_iload dX11_rounds_57 rfl) ?_
                refine mm_Es (fun _ _ => mm_iload dX11_rounds_59 rfl) ?_
                refine mm_Eb (fun _ _ => mm_icmp_ge 142 dX11_rounds_61 (by decide)) (fun c_61 => ?_) (fun c_61 => ?_)
                · exact absurd c_61 (nI_ge hba (by omega))
                · refine mm_Es (fun _ _ => mm_aload_n dX11_rounds_64 rfl rfl) ?_
                  refine mm_Es (fun _ _ => mm_iload_n dX11_rounds_65 rfl rfl) ?_
                  refine mm_Es (fun _ _ => mm_iload dX11_rounds_66 rfl) ?_
                  refine mm_Es (fun _ _ => mm_iload dX11_rounds_68 rfl) ?_
                  refine mm_Es (fun _ _ => mm_cV (Y1 := YX11_isClash) dX11_rounds_70 lX11_486 vX11_isClash (M1) sh_165 rfl rfl (by simp [Value.category])) ?_
                  refine mm_Es (fun _ _ => mm_istore dX11_rounds_73 (by decide) rfl) ?_
                  refine mm_Es (fun _ _ => mm_aload_n dX11_rounds_75 rfl rfl) ?_
                  refine mm_Es (fun _ _ => mm_getS dX11_rounds_76 fX11_141 sh_165 rfl gr_165_57) ?_
                  refine mm_Es (fun _ _ => mm_iload dX11_rounds_79 rfl) ?_
                  refine mm_Es (fun _ _ => mm_dup2 dX11_rounds_81 rfl rfl) ?_
                  refine mm_Es (fun _ _ => mm_iald (a) dX11_rounds_82 sh_207 rfl (by omega)) ?_
                  refine mm_Es (fun _ _ => mm_iload dX11_rounds_83 rfl) ?_
                  refine mm_Eb (fun _ _ => mm_if_eq 95 dX11_rounds_85 (by decide)) (fun c_85 => ?_) (fun c_85 => ?_)
                  · refine mm_Es (fun _ _ => mm_iconst (x := 0) dX11_rounds_95 (by decide)) ?_
                    refine mm_Es (fun _ _ => mm_ior dX11_rounds_96) ?_
                    refine mm_Es (fun _ _ => mm_iast (a) dX11_rounds_97 sh_207 rfl (by omega)) ?_
                    refine mm_Ec (g := g1) rfl rfl (by rw [eI]) ?_
                    refine mm_Es (fun _ _ => mm_aload_n dX11_rounds_98 rfl rfl) ?_
                    refine mm_Es (fun _ _ => mm_getS dX11_rounds_99 fX11_141 sh_165 rfl gr_165_57) ?_
                    refine mm_Es (fun _ _ => mm_iload dX11_rounds_102 rfl) ?_
                    refine mm_Es (fun _ _ => mm_dup2 dX11_rounds_104 rfl rfl) ?_
                    refine mm_Es (fun _ _ => mm_iald (b) dX11_rounds_105 sh_207 rfl (by omega)) ?_
                    refine mm_Es (fun _ _ => mm_iload dX11_rounds_106 rfl) ?_
                    refine mm_Eb (fun _ _ => mm_if_eq 118 dX11_rounds_108 (by decide)) (fun c_108 => ?_) (fun c_108 => ?_)
                    · refine mm_Es (fun _ _ => mm_iconst (x := 0) dX11_rounds_118 (by decide)) ?_
                      refine mm_Es (fun _ _ => mm_ior dX11_rounds_119) ?_
                      refine mm_Es (fun _ _ => mm_iast (b) dX11_rounds_120 sh_207 rfl (by omega)) ?_
                      refine mm_Ec (g := g1) rfl rfl (by rw [eI]) ?_
                      refine mm_Es (fun _ _ => mm_iload dX11_rounds_121 rfl) ?_
                      refine mm_Es (fun _ _ => mm_iload dX11_rounds_123 rfl) ?_
                      refine mm_Eb (fun _ _ => mm_if_eq 132 dX11_rounds_125 (by decide)) (fun c_125 => ?_) (fun c_125 => ?_)
                      · refine mm_Es (fun _ _ => mm_iconst (x := 0) dX11_rounds_132 (by decide)) ?_
                        refine mm_Es (fun _ _ => mm_iadd dX11_rounds_133) ?_
                        refine mm_Es (fun _ _ => mm_cast (st' := [.int (nI (cN (relM A (LQ r) P a b)))]) rfl (by rw [add0] <;> rfl) rfl) ?_
                        refine mm_Es (fun _ _ => mm_istore dX11_rounds_134 (by decide) rfl) ?_
                        refine mm_Es (fun _ _ => mm_iinc dX11_rounds_136 rfl (nI_inc b) rfl) ?_
                        refine mm_Es (fun _ _ => mm_goto 51 dX11_rounds_139 (by decide)) ?_
                        exact K _ _
                      · exact absurd (pI_n0.mp c_125) hc
                    · exact absurd (pI_n0.mp c_108) hc
                  · exact absurd (pI_n0.mp c_85) hc
          · have ho : ∀ i j, (relM A (LQ r) P (a + 1) 0) i j ↔ (relM A (LQ r) P a b) i j := fun i j => by
              constructor
              · intro z; exact ⟨z.1, by have := z.2; have := z.1.1; have := z.1.2.1; omega⟩
              · intro z; exact ⟨z.1, by have := z.2; have := z.1.1; have := z.1.2.1; omega⟩
            have K := ih (a + 1) (by omega) gg ⟨st.1, mskN_c st.2 (Nat.le_refl _) (fun i j _ => by unfold sy; rw [ho, ho]) rfl⟩
            rw [cN_c ho] at K
            refine mm_Es (fun _ _ => mm_iload dX11_rounds_51 rfl) ?_
            refine mm_Es (fun _ _ => mm_iload_n dX11_rounds_53 rfl rfl) ?_
            refine mm_Eb (fun _ _ => mm_icmp_ge 142 dX11_rounds_54 (by decide)) (fun c_54 => ?_) (fun c_54 => ?_)
            · refine mm_Es (fun _ _ => mm_iinc dX11_rounds_142 rfl (nI_inc a) rfl) ?_
              refine mm_Es (fun _ _ => mm_goto 33 dX11_rounds_145 (by decide)) ?_
              exact K _ _ _
            · exact absurd (nI_le (show pdn P ≤ a by omega) (by omega)) c_54
      have K := K51 a 0 (by omega) (mm_up gg.1 207 a 0, gg.2.1, gg.2.2) ⟨⟨st.1.1.up (c := 207) rfl, fun j hj => by dsimp only; rw [mm_up_n (by decide)]; exact st.1.2 j hj⟩, by
        obtain ⟨M, hM⟩ := st.2
        refine ⟨fun x => if x = a then 0 else M x, fun i hi => ?_⟩
        dsimp only
        by_cases z : i = a
        · subst z
          rw [mm_up_e, if_pos rfl]
          refine ⟨rfl, by decide, fun j => ?_⟩
          rw [Nat.zero_testBit]
          exact ⟨fun q => absurd q (by decide), fun q => by rcases q with q | q <;> (have := q.2; have := q.1.1; omega)⟩
        · rw [mm_up_k z, if_neg z]; exact hM i (by omega)⟩
      refine mm_Es (fun _ _ => mm_iload dX11_rounds_33 rfl) ?_
      refine mm_Es (fun _ _ => mm_bipush (x := 10) dX11_rounds_35 (by decide)) ?_
      refine mm_Eb (fun _ _ => mm_icmp_ge 148 dX11_rounds_37 (by decide)) (fun c_37 => ?_) (fun c_37 => ?_)
      · exact absurd c_37 (nI_ge (b := 10) (by omega) (by omega))
      · refine mm_Es (fun _ _ => mm_aload_n dX11_rounds_40 rfl rfl) ?_
        refine mm_Es (fun _ _ => mm_getS dX11_rounds_41 fX11_141 sh_165 rfl gr_165_57) ?_
        refine mm_Es (fun _ _ => mm_iload dX11_rounds_44 rfl) ?_
        refine mm_Es (fun _ _ => mm_iconst (x := 0) dX11_rounds_46 (by decide)) ?_
        refine mm_Es (fun _ _ => mm_iast (a) dX11_rounds_47 sh_207 rfl (by omega)) ?_
        refine mm_Es (fun _ _ => mm_iconst (x := 0) dX11_rounds_48 (by decide)) ?_
        refine mm_Es (fun _ _ => mm_istore dX11_rounds_49 (by decide) rfl) ?_
        exact K _ _
  have e0 : cN (relM A (LQ r) P 0 0) = 0 := by
    rw [cN_c (R := fun _ _ => False) (fun i j => ⟨fun z => by have := z.2; omega, False.elim⟩)]
    exact cnP_F 100
  have K := K33 10 0 rfl h ⟨mfr.refl h, fun _ => 0, fun i hi => by omega⟩ none none none
  rw [e0] at K
  refine mm_Es (fun _ _ => mm_aload_n dX11_rounds_0 rfl rfl) ?_
  refine mm_Es (fun _ _ => mm_iload_n dX11_rounds_1 rfl rfl) ?_
  refine mm_Es (fun _ _ => mm_cV (Y1 := YX11_isLaw) dX11_rounds_2 lX11_405 vX11_isLaw (N1) sh_165 rfl rfl (by simp [Value.category])) ?_
  refine mm_Eb (fun _ _ => mm_if_eq 18 dX11_rounds_5 (by decide)) (fun c_5 => ?_) (fun c_5 => ?_)
  · exact absurd ⟨by rw [nI_toInt (by omega)]; omega, by rw [nI_toInt (by omega)]; omega⟩ (bI_e0.mp c_5)
  · refine mm_Es (fun _ _ => mm_iload_n dX11_rounds_8 rfl rfl) ?_
    refine mm_Es (fun _ _ => mm_i2l dX11_rounds_9 rfl) ?_
    refine mm_Es (fun _ _ => mm_lconst (x := 0) dX11_rounds_10 (by decide)) ?_
    refine mm_Es (fun _ _ => mm_lconst (x := 1) dX11_rounds_11 (by decide)) ?_
    refine mm_Es (fun _ _ => mm_cS (Y1 := YX11_in) dX11_rounds_12 lX11_171 sX11_in (mX11_in (d + 9) h _ _ _) rfl rfl (by simp [Value.category])) ?_
    refine mm_Ebn (fun _ _ => mm_if_ne 20 dX11_rounds_15 (by decide)) (fun c_15 => ?_) (fun c_15 => ?_)
    · refine mm_Es (fun _ _ => mm_aload_n dX11_rounds_20 rfl rfl) ?_
      refine mm_Es (fun _ _ => mm_getS dX11_rounds_21 fX11_9 sh_165 rfl gr_165_1) ?_
      refine mm_Es (fun _ _ => mm_iconst (x := 5) dX11_rounds_24 (by decide)) ?_
      refine mm_Es (fun _ _ => mm_iald (5) dX11_rounds_25 sh_166 rfl (by decide)) ?_
      refine mm_Es (fun _ _ => mm_cast (st' := [.int (nI (pdn P))]) rfl (by rw [hv.1] <;> rfl) rfl) ?_
      refine mm_Es (fun _ _ => mm_istore_n dX11_rounds_26 rfl (by decide) rfl) ?_
      refine mm_Es (fun _ _ => mm_iconst (x := 0) dX11_rounds_27 (by decide)) ?_
      refine mm_Es (fun _ _ => mm_istore dX11_rounds_28 (by decide) rfl) ?_
      refine mm_Es (fun _ _ => mm_iconst (x := 0) dX11_rounds_30 (by decide)) ?_
      refine mm_Es (fun _ _ => mm_istore dX11_rounds_31 (by decide) rfl) ?_
      exact K
    · rcases hw with rfl | rfl
      · exact absurd c_15 (by decide)
      · exact absurd c_15 (by decide)
