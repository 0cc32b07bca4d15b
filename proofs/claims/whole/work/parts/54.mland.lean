/-! The fewest coins for a land: the reference. -/
theorem kept_f {ch : List Int32} {h g : mm_H} {a : Nat} {p : Nat → Bool} (hk : kept ch h a) (fr : frm p h g) (hp : p 202 = false ∧ p 203 = false ∧ p 204 = false) : kept ch g a := by
  unfold kept at *
  rw [fr.i hp.1, fr.i hp.2.1, fr.l hp.2.2]
  exact hk
/-- two sets that make their union bad -/
def bs2 (ch : Nat → List Int32) (wt : Nat → Int32) (q a b : Nat) : Prop := pc a ≤ q ∧ pc b ≤ q ∧ ch a = ch b ∧ ¬ wt a = wt b
def bd1 (ch : Nat → List Int32) (wt : Nat → Int32) (q N a b T : Nat) : Prop := ∃ a2 b2, a2 < b2 ∧ b2 < N ∧ (a2 < a ∨ (a2 = a ∧ b2 < b)) ∧ bs2 ch wt q a2 b2 ∧ a2 ||| b2 = T
def bsT (ch : Nat → List Int32) (wt : Nat → Int32) (q N T : Nat) : Prop := ∃ a b, a < b ∧ b < N ∧ bs2 ch wt q a b ∧ a ||| b = T
theorem bd1_row {ch : Nat → List Int32} {wt : Nat → Int32} {q N a b T : Nat} (hb : N ≤ b ∨ ¬ pc a ≤ q) : bd1 ch wt q N a b T ↔ bd1 ch wt q N (a + 1) 0 T := by
  constructor
  · rintro ⟨a2, b2, h1, h2, h3, h4, h5⟩; exact ⟨a2, b2, h1, h2, by omega, h4, h5⟩
  · rintro ⟨a2, b2, h1, h2, h3, h4, h5⟩
    refine ⟨a2, b2, h1, h2, ?_, h4, h5⟩
    rcases hb with z | z
    · omega
    · by_cases e : a2 = a
      · rw [e] at h4; exact absurd h4.1 z
      · omega
theorem bd1_s {ch : Nat → List Int32} {wt : Nat → Int32} {q N a T : Nat} : bd1 ch wt q N a (a + 1) T ↔ bd1 ch wt q N a 0 T := by
  constructor
  · rintro ⟨a2, b2, h1, h2, h3, h4, h5⟩; exact ⟨a2, b2, h1, h2, by omega, h4, h5⟩
  · rintro ⟨a2, b2, h1, h2, h3, h4, h5⟩; exact ⟨a2, b2, h1, h2, by omega, h4, h5⟩
theorem bd1_y {ch : Nat → List Int32} {wt : Nat → Int32} {q N a b T : Nat} (hab : a < b) (hb : b < N) (hc : bs2 ch wt q a b) : bd1 ch wt q N a (b + 1) T ↔ bd1 ch wt q N a b T ∨ T = a ||| b := by
  constructor
  · rintro ⟨a2, b2, h1, h2, h3, h4, h5⟩
    by_cases z : a2 = a ∧ b2 = b
    · rw [z.1, z.2] at h5; exact Or.inr h5.symm
    · exact Or.inl ⟨a2, b2, h1, h2, by omega, h4, h5⟩
  · rintro (⟨a2, b2, h1, h2, h3, h4, h5⟩ | z)
    · exact ⟨a2, b2, h1, h2, by omega, h4, h5⟩
    · exact ⟨a, b, hab, hb, by omega, hc, z.symm⟩
theorem bd1_n {ch : Nat → List Int32} {wt : Nat → Int32} {q N a b T : Nat} (hc : ¬ bs2 ch wt q a b) : bd1 ch wt q N a (b + 1) T ↔ bd1 ch wt q N a b T := by
  constructor
  · rintro ⟨a2, b2, h1, h2, h3, h4, h5⟩
    by_cases z : a2 = a ∧ b2 = b
    · rw [z.1, z.2] at h4; exact absurd h4 hc
    · exact ⟨a2, b2, h1, h2, by omega, h4, h5⟩
  · rintro ⟨a2, b2, h1, h2, h3, h4, h5⟩; exact ⟨a2, b2, h1, h2, by omega, h4, h5⟩
theorem bd1_all {ch : Nat → List Int32} {wt : Nat → Int32} {q N T : Nat} : bd1 ch wt q N N 0 T ↔ bsT ch wt q N T := by
  constructor
  · rintro ⟨a2, b2, h1, h2, h3, h4, h5⟩; exact ⟨a2, b2, h1, h2, h4, h5⟩
  · rintro ⟨a2, b2, h1, h2, h4, h5⟩; exact ⟨a2, b2, h1, h2, by omega, h4, h5⟩
/-- bad by a set that lacks coins below c alone -/
def badC (B : Nat → Prop) (c S : Nat) : Prop := ∃ T, sub T S ∧ B T ∧ ∀ i, S.testBit i = true → ¬ T.testBit i = true → i < c
theorem rm_bit {S c : Nat} (h : S.testBit c = true) (i : Nat) : (S ^^^ 2 ^ c).testBit i = true ↔ S.testBit i = true ∧ ¬ i = c := by
  rw [xor_bit, Nat.testBit_two_pow]
  by_cases e : c = i
  · subst e; rw [h]; simp
  · have : decide (c = i) = false := decide_eq_false e
    rw [this]
    constructor
    · intro z; exact ⟨by cases q : S.testBit i <;> simp_all, fun w => e w.symm⟩
    · intro z; rw [z.1]; decide
theorem badC_s {B : Nat → Prop} {c S : Nat} : badC B (c + 1) S ↔ badC B c S ∨ (S.testBit c = true ∧ badC B (c + 1) (S ^^^ 2 ^ c)) := by
  constructor
  · rintro ⟨T, h1, h2, h3⟩
    by_cases hc : S.testBit c = true ∧ ¬ T.testBit c = true
    · refine Or.inr ⟨hc.1, T, ?_, h2, fun i hi hn => h3 i ((rm_bit hc.1 i).mp hi).1 hn⟩
      rw [sub_iff]; intro i hi
      exact (rm_bit hc.1 i).mpr ⟨sub_bit h1 hi, fun z => by rw [z] at hi; exact hc.2 hi⟩
    · refine Or.inl ⟨T, h1, h2, fun i hi hn => ?_⟩
      have := h3 i hi hn
      by_cases z : i = c
      · rw [z] at hi hn; exact absurd ⟨hi, hn⟩ hc
      · omega
  · rintro (⟨T, h1, h2, h3⟩ | ⟨hc, T, h1, h2, h3⟩)
    · exact ⟨T, h1, h2, fun i hi hn => by have := h3 i hi hn; omega⟩
    · refine ⟨T, ?_, h2, fun i hi hn => ?_⟩
      · rw [sub_iff]; intro i hi; exact ((rm_bit hc i).mp (sub_bit h1 hi)).1
      · by_cases z : i = c
        · omega
        · exact h3 i ((rm_bit hc i).mpr ⟨hi, z⟩) hn
theorem badC_0 {B : Nat → Prop} {S : Nat} : badC B 0 S ↔ B S := by
  constructor
  · rintro ⟨T, h1, h2, h3⟩
    have : T = S := by
      refine Nat.le_antisymm (sub_le h1) (sub_le ?_)
      rw [sub_iff]; intro i hi
      by_cases z : T.testBit i = true
      · exact z
      · have := h3 i hi z; omega
    rw [← this]; exact h2
  · intro h; exact ⟨S, Nat.and_self S, h, fun i hi hn => absurd hi hn⟩
theorem badC_all {ch : Nat → List Int32} {wt : Nat → Int32} {q n S : Nat} (hS : S < 2 ^ n) : badC (bsT ch wt q (2 ^ n)) n S ↔ unS ch wt q S := by
  have or_sub : ∀ {a b T : Nat}, a ||| b = T → sub a T ∧ sub b T := fun {a b T} e => by
    constructor <;> (rw [sub_iff]; intro i hi; rw [← e, Nat.testBit_or, hi]; simp)
  constructor
  · rintro ⟨T, h1, ⟨a, b, a1, a2, a3, a4⟩, -⟩
    obtain ⟨s1, s2⟩ := or_sub a4
    have tr : ∀ x, sub x T → sub x S := fun x hx => by rw [sub_iff]; intro i hi; exact sub_bit h1 (sub_bit hx hi)
    exact ⟨a, b, ⟨tr a s1, a3.1⟩, ⟨tr b s2, a3.2.1⟩, a3.2.2⟩
  · rintro ⟨a, b, d1, d2, e1, e2⟩
    have l1 := sub_le d1.1
    have l2 := sub_le d2.1
    have key : ∀ x y, x < y → dom S q x → dom S q y → bs2 ch wt q x y → badC (bsT ch wt q (2 ^ n)) n S := fun x y hxy dx dy hb => by
      have ly := sub_le dy.1
      refine ⟨x ||| y, ?_, ⟨x, y, hxy, by omega, hb, rfl⟩, fun i hi _ => ?_⟩
      · rw [sub_iff]; intro i hi
        rw [Nat.testBit_or, Bool.or_eq_true] at hi
        exact hi.elim (sub_bit dx.1) (sub_bit dy.1)
      · refine Nat.lt_of_not_le (fun z => ?_)
        rw [Nat.testBit_lt_two_pow (Nat.lt_of_lt_of_le hS (Nat.pow_le_pow_right (by decide) z))] at hi
        cases hi
    rcases (show a < b ∨ a = b ∨ b < a by omega) with z | z | z
    · exact key a b z d1 d2 ⟨d1.2, d2.2, e1, e2⟩
    · rw [z] at e2; exact absurd rfl e2
    · exact key b a z d2 d1 ⟨d2.2, d1.2, e1.symm, fun w => e2 w.symm⟩
set_option maxRecDepth 100000 in
set_option maxHeartbeats 4000000 in
theorem mX11_findsBad (d : Nat) (h : mm_H) (A : MD) (hA : mdOK A) (hV : viewM h A) (Q : LD) (k : Nat) (q : Nat) (hq2 : q ≤ 12) (hk : ∀ t, t < (2 ^ mn A) → pc t ≤ q → kept (chd A Q k t) h t) : ∃ g, mm_M (d + 2) YX11_findsBad [.ref 165, .int (nI (2 ^ mn A - 1)), .int (nI q)] h none g ∧ frm (onep 209) h g ∧ ∀ T, T < (2 ^ mn A) → g.1 209 T = pI (unS (chd A Q k) (wtA A) q T) := by
  suffices hE : mm_E (d + 2) YX11_findsBad 0 [some (.ref 165), some (.int (nI (2 ^ mn A - 1))), some (.int (nI q)), none, none] [] h (fun v g => v = none ∧ frm (onep 209) h g ∧ ∀ T, T < (2 ^ mn A) → g.1 209 T = pI (unS (chd A Q k) (wtA A) q T)) by
    obtain ⟨v, g, hR, rfl, h1⟩ := hE
    exact ⟨g, mm_M.of _ rfl rfl (Nat.le_of_ble_eq_true rfl) hR, h1⟩
  have h12 := hA.1
  have hp := p2_lt h12
  have hp0 : 0 < (2 ^ mn A) := Nat.pos_of_ne_zero (p2_ne _)
  have hch : ∀ t, t < 4096 → (chd A Q k t).length ≤ 12 := fun t ht => Nat.le_trans (chd_pc h12 Q k ht) (pc_le ht)
  have vw : ∀ gg, frm (onep 209) h gg → viewM gg A := fun gg fg => viewM_f hV fg (fun c hc => by simp [onep]; omega)
  -- the third pass
  have K120 : ∀ m c, c + m = mn A → ∀ gg, frm (onep 209) h gg → (∀ T, T < (2 ^ mn A) → gg.1 209 T = pI (badC (bsT (chd A Q k) (wtA A) q (2 ^ mn A)) c T)) → ∀ x4, mm_E (d + 2) YX11_findsBad 120 [some (.ref 165), some (.int (nI (2 ^ mn A - 1))), some (.int (nI q)), some (.int (nI c)), x4] [] gg (fun v g => v = none ∧ frm (onep 209) h g ∧ ∀ T, T < (2 ^ mn A) → g.1 209 T = pI (unS (chd A Q k) (wtA A) q T)) := by
    intro m
    induction m with
    | zero =>
      intro c hc gg fg S x4
      have hc : c = mn A := by omega
      subst hc
      have e166 := (vw gg fg).1
      refine mm_Es (fun _ _ => mm_iload_n dX11_findsBad_120 rfl rfl) ?_
      refine mm_Es (fun _ _ => mm_aload_n dX11_findsBad_121 rfl rfl) ?_
      refine mm_Es (fun _ _ => mm_getS dX11_findsBad_122 fX11_9 sh_165 rfl gr_165_1) ?_
      refine mm_Es (fun _ _ => mm_iconst (x := 0) dX11_findsBad_125 (by decide)) ?_
      refine mm_Es (fun _ _ => mm_iald (0) dX11_findsBad_126 sh_166 rfl (by decide)) ?_
      refine mm_Eb (fun _ _ => mm_icmp_ge 198 dX11_findsBad_127 (by decide)) (fun c_127 => ?_) (fun c_127 => ?_)
      · refine mm_Er (mm_return dX11_findsBad_198 rfl) ?_
        exact ⟨rfl, fg, fun T hT => (S T hT).trans (pI_iff (badC_all hT))⟩
      · exact absurd (by rw [e166]; exact Int32.le_refl _) c_127
    | succ m ih =>
      intro c hc gg fg S x4
      have hcn : c < mn A := by omega
      have e166 := (vw gg fg).1
      have K133 : ∀ m s, s + m = (2 ^ mn A) → ∀ gg, frm (onep 209) h gg → (∀ T, T < (2 ^ mn A) → gg.1 209 T = pI (if T < s then badC (bsT (chd A Q k) (wtA A) q (2 ^ mn A)) (c + 1) T else badC (bsT (chd A Q k) (wtA A) q (2 ^ mn A)) c T)) → mm_E (d + 2) YX11_findsBad 133 [some (.ref 165), some (.int (nI (2 ^ mn A - 1))), some (.int (nI q)), some (.int (nI c)), some (.int (nI s))] [] gg (fun v g => v = none ∧ frm (onep 209) h g ∧ ∀ T, T < (2 ^ mn A) → g.1 209 T = pI (unS (chd A Q k) (wtA A) q T)) := by
        intro m
        induction m with
        | zero =>
          intro s hs gg fg S
          have hs : s = (2 ^ mn A) := by omega
          subst hs
          have K := ih (c + 1) (by omega) gg fg (fun T hT => by have := S T hT; rw [if_pos hT] at this; exact this)
          refine mm_Es (fun _ _ => mm_iload dX11_findsBad_133 rfl) ?_
          refine mm_Es (fun _ _ => mm_iload_n dX11_findsBad_135 rfl rfl) ?_
          refine mm_Eb (fun _ _ => mm_icmp_gt 192 dX11_findsBad_136 (by decide)) (fun c_136 => ?_) (fun c_136 => ?_)
          · refine mm_Es (fun _ _ => mm_iinc dX11_findsBad_192 rfl (nI_inc c) rfl) ?_
            refine mm_Es (fun _ _ => mm_goto 120 dX11_findsBad_195 (by decide)) ?_
            exact K _
          · exact absurd (nI_lt (show (2 ^ mn A - 1) < (2 ^ mn A) by omega) (by omega)) c_136
        | succ m ihm =>
          intro s hs gg fg S
          have hsn : s < (2 ^ mn A) := by omega
          have tb := tb_iff (a := s) (c := c) (by omega) (by omega)
          have e1 : gg.1 209 s = pI (badC (bsT (chd A Q k) (wtA A) q (2 ^ mn A)) c s) := by have := S s hsn; rw [if_neg (Nat.lt_irrefl s)] at this; exact this
          have hx : s ^^^ 2 ^ c < 4096 := Nat.xor_lt_two_pow (n := 12) (by omega) (Nat.pow_lt_pow_right (by decide) (by omega))
          have e2 : s.testBit c = true → gg.1 209 (s ^^^ 2 ^ c) = pI (badC (bsT (chd A Q k) (wtA A) q (2 ^ mn A)) (c + 1) (s ^^^ 2 ^ c)) := fun z => by
            have l := xor_lt (sub_p2 z) (p2_ne c)
            have := S _ (Nat.lt_trans l hsn); rw [if_pos l] at this; exact this
          have K := ihm (s + 1) (by omega) (mm_up gg.1 209 s (pI (badC (bsT (chd A Q k) (wtA A) q (2 ^ mn A)) (c + 1) s)), gg.2.1, gg.2.2) (fg.up (c := 209) rfl) (fun T hT => by
            dsimp only
            by_cases z : T = s
            · rw [z, mm_up_e, if_pos (by omega)]
            · rw [mm_up_k z, S T hT]
              by_cases y : T < s
              · rw [if_pos y, if_pos (by omega)]
              · rw [if_neg y, if_neg (by omega)])
          have bb := badC_s (B := (bsT (chd A Q k) (wtA A) q (2 ^ mn A))) (c := c) (S := s)
          by_cases hn : badC (bsT (chd A Q k) (wtA A) q (2 ^ mn A)) (c + 1) s
          · rw [pI_1 hn] at K
            refine mm_Es (fun _ _ => mm_iload dX11_findsBad_133 rfl) ?_
            refine mm_Es (fun _ _ => mm_iload_n dX11_findsBad_135 rfl rfl) ?_
            refine mm_Eb (fun _ _ => mm_icmp_gt 192 dX11_findsBad_136 (by decide)) (fun c_136 => ?_) (fun c_136 => ?_)
            · exact absurd c_136 (nI_nlt (by omega) (by omega))
            · refine mm_Es (fun _ _ => mm_aload_n dX11_findsBad_139 rfl rfl) ?_
              refine mm_Es (fun _ _ => mm_getS dX11_findsBad_140 fX11_147 sh_165 rfl gr_165_59) ?_
              refine mm_Es (fun _ _ => mm_iload dX11_findsBad_143 rfl) ?_
              refine mm_Es (fun _ _ => mm_aload_n dX11_findsBad_145 rfl rfl) ?_
              refine mm_Es (fun _ _ => mm_getS dX11_findsBad_146 fX11_147 sh_165 rfl gr_165_59) ?_
              refine mm_Es (fun _ _ => mm_iload dX11_findsBad_149 rfl) ?_
              refine mm_Es (fun _ _ => mm_zald (s) dX11_findsBad_151 sh_209 rfl (by omega)) ?_
              refine mm_Ebn (fun _ _ => mm_if_ne 180 dX11_findsBad_152 (by decide)) (fun c_152 => ?_) (fun c_152 => ?_)
              · refine mm_Es (fun _ _ => mm_iconst (x := 1) dX11_findsBad_180 (by decide)) ?_
                refine mm_Es (fun _ _ => mm_goto 185 dX11_findsBad_181 (by decide)) ?_
                refine mm_Es (fun _ _ => mm_zast (s) dX11_findsBad_185 sh_209 rfl (by omega) rfl) ?_
                refine mm_Es (fun _ _ => mm_iinc dX11_findsBad_186 rfl (nI_inc s) rfl) ?_
                refine mm_Es (fun _ _ => mm_goto 133 dX11_findsBad_189 (by decide)) ?_
                exact K
              · refine mm_Es (fun _ _ => mm_iload dX11_findsBad_155 rfl) ?_
                refine mm_Es (fun _ _ => mm_iload_n dX11_findsBad_157 rfl rfl) ?_
                refine mm_Es (fun _ _ => mm_cS (Y1 := YX11_has) dX11_findsBad_158 lX11_177 sX11_has (mX11_has (d + 1) gg (nI s) c) rfl rfl (by simp [Value.category])) ?_
                refine mm_Eb (fun _ _ => mm_if_eq 184 dX11_findsBad_161 (by decide)) (fun c_161 => ?_) (fun c_161 => ?_)
                · exact absurd (bb.mp hn) (fun z => z.elim (pI_e0.mp (e1.symm.trans c_152)) (fun w => absurd (tb.mpr w.1) (bI_e0.mp c_161)))
                · refine mm_Es (fun _ _ => mm_aload_n dX11_findsBad_164 rfl rfl) ?_
                  refine mm_Es (fun _ _ => mm_getS dX11_findsBad_165 fX11_147 sh_165 rfl gr_165_59) ?_
                  refine mm_Es (fun _ _ => mm_iload dX11_findsBad_168 rfl) ?_
                  refine mm_Es (fun _ _ => mm_iconst (x := 1) dX11_findsBad_170 (by decide)) ?_
                  refine mm_Es (fun _ _ => mm_iload_n dX11_findsBad_171 rfl rfl) ?_
                  refine mm_Es (fun _ _ => mm_ishl dX11_findsBad_172) ?_
                  refine mm_Es (fun _ _ => mm_iconst (x := (-1)) dX11_findsBad_173 (by decide)) ?_
                  refine mm_Es (fun _ _ => mm_ixor dX11_findsBad_174) ?_
                  refine mm_Es (fun _ _ => mm_iand dX11_findsBad_175) ?_
                  refine mm_Es (fun _ _ => mm_zald ((s ^^^ 2 ^ c)) dX11_findsBad_176 sh_209 (by rw [sh1 (by omega), andn (by omega) (sub_p2 (tb.mp (bI_n0.mp c_161)))]) hx) ?_
                  refine mm_Eb (fun _ _ => mm_if_eq 184 dX11_findsBad_177 (by decide)) (fun c_177 => ?_) (fun c_177 => ?_)
                  · exact absurd (bb.mp hn) (fun z => z.elim (pI_e0.mp (e1.symm.trans c_152)) (fun w => absurd w.2 (pI_e0.mp ((e2 w.1).symm.trans c_177))))
                  · refine mm_Es (fun _ _ => mm_iconst (x := 1) dX11_findsBad_180 (by decide)) ?_
                    refine mm_Es (fun _ _ => mm_goto 185 dX11_findsBad_181 (by decide)) ?_
                    refine mm_Es (fun _ _ => mm_zast (s) dX11_findsBad_185 sh_209 rfl (by omega) rfl) ?_
                    refine mm_Es (fun _ _ => mm_iinc dX11_findsBad_186 rfl (nI_inc s) rfl) ?_
                    refine mm_Es (fun _ _ => mm_goto 133 dX11_findsBad_189 (by decide)) ?_
                    exact K
          · rw [pI_0 hn] at K
            refine mm_Es (fun _ _ => mm_iload dX11_findsBad_133 rfl) ?_
            refine mm_Es (fun _ _ => mm_iload_n dX11_findsBad_135 rfl rfl) ?_
            refine mm_Eb (fun _ _ => mm_icmp_gt 192 dX11_findsBad_136 (by decide)) (fun c_136 => ?_) (fun c_136 => ?_)
            · exact absurd c_136 (nI_nlt (by omega) (by omega))
            · refine mm_Es (fun _ _ => mm_aload_n dX11_findsBad_139 rfl rfl) ?_
              refine mm_Es (fun _ _ => mm_getS dX11_findsBad_140 fX11_147 sh_165 rfl gr_165_59) ?_
              refine mm_Es (fun _ _ => mm_iload dX11_findsBad_143 rfl) ?_
              refine mm_Es (fun _ _ => mm_aload_n dX11_findsBad_145 rfl rfl) ?_
              refine mm_Es (fun _ _ => mm_getS dX11_findsBad_146 fX11_147 sh_165 rfl gr_165_59) ?_
              refine mm_Es (fun _ _ => mm_iload dX11_findsBad_149 rfl) ?_
              refine mm_Es (fun _ _ => mm_zald (s) dX11_findsBad_151 sh_209 rfl (by omega)) ?_
              refine mm_Ebn (fun _ _ => mm_if_ne 180 dX11_findsBad_152 (by decide)) (fun c_152 => ?_) (fun c_152 => ?_)
              · exact absurd (bb.mpr (Or.inl (pI_n0.mp (fun z => c_152 (e1.trans z))))) hn
              · refine mm_Es (fun _ _ => mm_iload dX11_findsBad_155 rfl) ?_
                refine mm_Es (fun _ _ => mm_iload_n dX11_findsBad_157 rfl rfl) ?_
                refine mm_Es (fun _ _ => mm_cS (Y1 := YX11_has) dX11_findsBad_158 lX11_177 sX11_has (mX11_has (d + 1) gg (nI s) c) rfl rfl (by simp [Value.category])) ?_
                refine mm_Eb (fun _ _ => mm_if_eq 184 dX11_findsBad_161 (by decide)) (fun c_161 => ?_) (fun c_161 => ?_)
                · refine mm_Es (fun _ _ => mm_iconst (x := 0) dX11_findsBad_184 (by decide)) ?_
                  refine mm_Es (fun _ _ => mm_zast (s) dX11_findsBad_185 sh_209 rfl (by omega) rfl) ?_
                  refine mm_Es (fun _ _ => mm_iinc dX11_findsBad_186 rfl (nI_inc s) rfl) ?_
                  refine mm_Es (fun _ _ => mm_goto 133 dX11_findsBad_189 (by decide)) ?_
                  exact K
                · refine mm_Es (fun _ _ => mm_aload_n dX11_findsBad_164 rfl rfl) ?_
                  refine mm_Es (fun _ _ => mm_getS dX11_findsBad_165 fX11_147 sh_165 rfl gr_165_59) ?_
                  refine mm_Es (fun _ _ => mm_iload dX11_findsBad_168 rfl) ?_
                  refine mm_Es (fun _ _ => mm_iconst (x := 1) dX11_findsBad_170 (by decide)) ?_
                  refine mm_Es (fun _ _ => mm_iload_n dX11_findsBad_171 rfl rfl) ?_
                  refine mm_Es (fun _ _ => mm_ishl dX11_findsBad_172) ?_
                  refine mm_Es (fun _ _ => mm_iconst (x := (-1)) dX11_findsBad_173 (by decide)) ?_
                  refine mm_Es (fun _ _ => mm_ixor dX11_findsBad_174) ?_
                  refine mm_Es (fun _ _ => mm_iand dX11_findsBad_175) ?_
                  refine mm_Es (fun _ _ => mm_zald ((s ^^^ 2 ^ c)) dX11_findsBad_176 sh_209 (by rw [sh1 (by omega), andn (by omega) (sub_p2 (tb.mp (bI_n0.mp c_161)))]) hx) ?_
                  refine mm_Eb (fun _ _ => mm_if_eq 184 dX11_findsBad_177 (by decide)) (fun c_177 => ?_) (fun c_177 => ?_)
                  · refine mm_Es (fun _ _ => mm_iconst (x := 0) dX11_findsBad_184 (by decide)) ?_
                    refine mm_Es (fun _ _ => mm_zast (s) dX11_findsBad_185 sh_209 rfl (by omega) rfl) ?_
                    refine mm_Es (fun _ _ => mm_iinc dX11_findsBad_186 rfl (nI_inc s) rfl) ?_
                    refine mm_Es (fun _ _ => mm_goto 133 dX11_findsBad_189 (by decide)) ?_
                    exact K
                  · exact absurd (bb.mpr (Or.inr ⟨tb.mp (bI_n0.mp c_161), pI_n0.mp (fun z => c_177 ((e2 (tb.mp (bI_n0.mp c_161))).trans z))⟩)) hn
      have K := K133 (2 ^ mn A) 0 (by omega) gg fg (fun T hT => by rw [if_neg (Nat.not_lt_zero T)]; exact S T hT)
      refine mm_Es (fun _ _ => mm_iload_n dX11_findsBad_120 rfl rfl) ?_
      refine mm_Es (fun _ _ => mm_aload_n dX11_findsBad_121 rfl rfl) ?_
      refine mm_Es (fun _ _ => mm_getS dX11_findsBad_122 fX11_9 sh_165 rfl gr_165_1) ?_
      refine mm_Es (fun _ _ => mm_iconst (x := 0) dX11_findsBad_125 (by decide)) ?_
      refine mm_Es (fun _ _ => mm_iald (0) dX11_findsBad_126 sh_166 rfl (by decide)) ?_
      refine mm_Eb (fun _ _ => mm_icmp_ge 198 dX11_findsBad_127 (by decide)) (fun c_127 => ?_) (fun c_127 => ?_)
      · exact absurd (by rw [e166] at c_127; exact c_127) (nI_ge hcn (by omega))
      · refine mm_Es (fun _ _ => mm_iconst (x := 0) dX11_findsBad_130 (by decide)) ?_
        refine mm_Es (fun _ _ => mm_istore dX11_findsBad_131 (by decide) rfl) ?_
        exact K
  have K22 : ∀ m a, a + m = (2 ^ mn A) → ∀ gg, frm (onep 209) h gg → (∀ T, T < (2 ^ mn A) → gg.1 209 T = pI (bd1 (chd A Q k) (wtA A) q (2 ^ mn A) a 0 T)) → ∀ x4, mm_E (d + 2) YX11_findsBad 22 [some (.ref 165), some (.int (nI (2 ^ mn A - 1))), some (.int (nI q)), some (.int (nI a)), x4] [] gg (fun v g => v = none ∧ frm (onep 209) h g ∧ ∀ T, T < (2 ^ mn A) → g.1 209 T = pI (unS (chd A Q k) (wtA A) q T)) := by
    intro m
    induction m with
    | zero =>
      intro a ha gg fg S x4
      have ha : a = (2 ^ mn A) := by omega
      subst ha
      have K := K120 (mn A) 0 (by omega) gg fg (fun T hT => (S T hT).trans (pI_iff (bd1_all.trans badC_0.symm)))
      refine mm_Es (fun _ _ => mm_iload_n dX11_findsBad_22 rfl rfl) ?_
      refine mm_Es (fun _ _ => mm_iload_n dX11_findsBad_23 rfl rfl) ?_
      refine mm_Eb (fun _ _ => mm_icmp_gt 118 dX11_findsBad_24 (by decide)) (fun c_24 => ?_) (fun c_24 => ?_)
      · refine mm_Es (fun _ _ => mm_iconst (x := 0) dX11_findsBad_118 (by decide)) ?_
        refine mm_Es (fun _ _ => mm_istore_n dX11_findsBad_119 rfl (by decide) rfl) ?_
        exact K _
      · exact absurd (nI_lt (show (2 ^ mn A - 1) < (2 ^ mn A) by omega) (by omega)) c_24
    | succ m ih =>
      intro a ha gg fg S x4
      have han : a < (2 ^ mn A) := by omega
      have hpa := pc_le (show a < 4096 by omega)
      have K32 : ∀ m b, b + m = (2 ^ mn A) → a < b → ∀ gg, frm (onep 209) h gg → (∀ T, T < (2 ^ mn A) → gg.1 209 T = pI (bd1 (chd A Q k) (wtA A) q (2 ^ mn A) a b T)) → mm_E (d + 2) YX11_findsBad 32 [some (.ref 165), some (.int (nI (2 ^ mn A - 1))), some (.int (nI q)), some (.int (nI a)), some (.int (nI b))] [] gg (fun v g => v = none ∧ frm (onep 209) h g ∧ ∀ T, T < (2 ^ mn A) → g.1 209 T = pI (unS (chd A Q k) (wtA A) q T)) := by
        intro m
        induction m with
        | zero =>
          intro b hb hab gg fg S
          have hb : b = (2 ^ mn A) := by omega
          have K := ih (a + 1) (by omega) gg fg (fun T hT => (S T hT).trans (pI_iff (bd1_row (Or.inl (by omega)))))
          rw [hb]
          refine mm_Es (fun _ _ => mm_iload_n dX11_findsBad_32 rfl rfl) ?_
          refine mm_Es (fun _ _ => mm_cS (Y1 := YX11_bits) dX11_findsBad_33 lX11_363 sX11_bits (mX11_bits (d + 1) gg a (by omega)) rfl rfl (by simp [Value.category])) ?_
          refine mm_Es (fun _ _ => mm_iload_n dX11_findsBad_36 rfl rfl) ?_
          refine mm_Eb (fun _ _ => mm_icmp_gt 112 dX11_findsBad_37 (by decide)) (fun c_37 => ?_) (fun c_37 => ?_)
          · refine mm_Es (fun _ _ => mm_iinc dX11_findsBad_112 rfl (nI_inc a) rfl) ?_
            refine mm_Es (fun _ _ => mm_goto 22 dX11_findsBad_115 (by decide)) ?_
            exact K _
          · refine mm_Es (fun _ _ => mm_iload dX11_findsBad_40 rfl) ?_
            refine mm_Es (fun _ _ => mm_iload_n dX11_findsBad_42 rfl rfl) ?_
            refine mm_Eb (fun _ _ => mm_icmp_gt 112 dX11_findsBad_43 (by decide)) (fun c_43 => ?_) (fun c_43 => ?_)
            · refine mm_Es (fun _ _ => mm_iinc dX11_findsBad_112 rfl (nI_inc a) rfl) ?_
              refine mm_Es (fun _ _ => mm_goto 22 dX11_findsBad_115 (by decide)) ?_
              exact K _
            · exact absurd (nI_lt (show (2 ^ mn A - 1) < (2 ^ mn A) by omega) (by omega)) c_43
        | succ m ihm =>
          intro b hb hab gg fg S
          have hbn : b < (2 ^ mn A) := by omega
          have hpb := pc_le (show b < 4096 by omega)
          have hab2 := Nat.or_lt_two_pow han hbn
          have hVg := vw gg fg
          have wth : ∀ t, mm_M (d + 1) YX11_worthOf [.ref 165, .int (nI t)] gg (some (.int (wtA A t))) gg := fun t => by
            have M3 := mX11_worthOf d gg (mn A) hVg.1 h12 (nI t)
            rw [sp_wth_c (mn A) (fun c hc => (hVg.2.2.2.2.1 c hc).2.2.1)] at M3
            exact M3
          by_cases hqa : pc a ≤ q
          · have hka := kept_f (hk a han hqa) fg ⟨rfl, rfl, rfl⟩
            by_cases hqb : pc b ≤ q
            · have hkb := kept_f (hk b hbn hqb) fg ⟨rfl, rfl, rfl⟩
              have MA := mX11_areAlike (d + 1) gg (chd A Q k a) (chd A Q k b) a b (by omega) (by omega) hka hkb (hch a (by omega)) (hch b (by omega))
              by_cases hbs : bs2 (chd A Q k) (wtA A) q a b
              · have K := ihm (b + 1) (by omega) (by omega) (mm_up gg.1 209 (a ||| b) 1, gg.2.1, gg.2.2) (fg.up (c := 209) rfl) (fun T hT => by
                  dsimp only
                  rw [pI_iff (bd1_y hab hbn hbs)]
                  by_cases z : T = a ||| b
                  · rw [z, mm_up_e, pI_1 (Or.inr rfl)]
                  · rw [mm_up_k z, S T hT]
                    exact pI_iff ⟨Or.inl, fun w => w.resolve_right z⟩)
                refine mm_Es (fun _ _ => mm_iload_n dX11_findsBad_32 rfl rfl) ?_
                refine mm_Es (fun _ _ => mm_cS (Y1 := YX11_bits) dX11_findsBad_33 lX11_363 sX11_bits (mX11_bits (d + 1) gg a (by omega)) rfl rfl (by simp [Value.category])) ?_
                refine mm_Es (fun _ _ => mm_iload_n dX11_findsBad_36 rfl rfl) ?_
                refine mm_Eb (fun _ _ => mm_icmp_gt 112 dX11_findsBad_37 (by decide)) (fun c_37 => ?_) (fun c_37 => ?_)
                · exact absurd c_37 (nI_nlt hqa (by omega))
                · refine mm_Es (fun _ _ => mm_iload dX11_findsBad_40 rfl) ?_
                  refine mm_Es (fun _ _ => mm_iload_n dX11_findsBad_42 rfl rfl) ?_
                  refine mm_Eb (fun _ _ => mm_icmp_gt 112 dX11_findsBad_43 (by decide)) (fun c_43 => ?_) (fun c_43 => ?_)
                  · exact absurd c_43 (nI_nlt (by omega) (by omega))
                  · refine mm_Es (fun _ _ => mm_iload dX11_findsBad_46 rfl) ?_
                    refine mm_Es (fun _ _ => mm_cS (Y1 := YX11_bits) dX11_findsBad_48 lX11_363 sX11_bits (mX11_bits (d + 1) gg b (by omega)) rfl rfl (by simp [Value.category])) ?_
                    refine mm_Es (fun _ _ => mm_iload_n dX11_findsBad_51 rfl rfl) ?_
                    refine mm_Eb (fun _ _ => mm_icmp_gt 106 dX11_findsBad_52 (by decide)) (fun c_52 => ?_) (fun c_52 => ?_)
                    · exact absurd c_52 (nI_nlt hqb (by omega))
                    · refine mm_Es (fun _ _ => mm_aload_n dX11_findsBad_55 rfl rfl) ?_
                      refine mm_Es (fun _ _ => mm_getS dX11_findsBad_56 fX11_131 sh_165 rfl gr_165_52) ?_
                      refine mm_Es (fun _ _ => mm_iload_n dX11_findsBad_59 rfl rfl) ?_
                      refine mm_Es (fun _ _ => mm_lald (a) dX11_findsBad_60 sh_204 rfl (by omega)) ?_
                      refine mm_Es (fun _ _ => mm_aload_n dX11_findsBad_61 rfl rfl) ?_
                      refine mm_Es (fun _ _ => mm_getS dX11_findsBad_62 fX11_131 sh_165 rfl gr_165_52) ?_
                      refine mm_Es (fun _ _ => mm_iload dX11_findsBad_65 rfl) ?_
                      refine mm_Es (fun _ _ => mm_lald (b) dX11_findsBad_67 sh_204 rfl (by omega)) ?_
                      refine mm_Es (fun _ _ => mm_lcmp dX11_findsBad_68) ?_
                      refine mm_Ebn (fun _ _ => mm_if_ne 106 dX11_findsBad_69 (by decide)) (fun c_69 => ?_) (fun c_69 => ?_)
                      · exact absurd ((lg_e0 _ _).mpr (by rw [hka.2.2, hkb.2.2, hbs.2.2.1])) c_69
                      · refine mm_Es (fun _ _ => mm_aload_n dX11_findsBad_72 rfl rfl) ?_
                        refine mm_Es (fun _ _ => mm_iload_n dX11_findsBad_73 rfl rfl) ?_
                        refine mm_Es (fun _ _ => mm_iload dX11_findsBad_74 rfl) ?_
                        refine mm_Es (fun _ _ => mm_cV (Y1 := YX11_areAlike) dX11_findsBad_76 lX11_438 vX11_areAlike (MA) sh_165 rfl rfl (by simp [Value.category])) ?_
                        refine mm_Eb (fun _ _ => mm_if_eq 106 dX11_findsBad_79 (by decide)) (fun c_79 => ?_) (fun c_79 => ?_)
                        · exact absurd hbs.2.2.1 (bI_e0.mp c_79)
                        · refine mm_Es (fun _ _ => mm_aload_n dX11_findsBad_82 rfl rfl) ?_
                          refine mm_Es (fun _ _ => mm_iload_n dX11_findsBad_83 rfl rfl) ?_
                          refine mm_Es (fun _ _ => mm_cV (Y1 := YX11_worthOf) dX11_findsBad_84 lX11_446 vX11_worthOf (wth a) sh_165 rfl rfl (by simp [Value.category])) ?_
                          refine mm_Es (fun _ _ => mm_aload_n dX11_findsBad_87 rfl rfl) ?_
                          refine mm_Es (fun _ _ => mm_iload dX11_findsBad_88 rfl) ?_
                          refine mm_Es (fun _ _ => mm_cV (Y1 := YX11_worthOf) dX11_findsBad_90 lX11_446 vX11_worthOf (wth b) sh_165 rfl rfl (by simp [Value.category])) ?_
                          refine mm_Eb (fun _ _ => mm_icmp_eq 106 dX11_findsBad_93 (by decide)) (fun c_93 => ?_) (fun c_93 => ?_)
                          · exact absurd c_93 hbs.2.2.2
                          · refine mm_Es (fun _ _ => mm_aload_n dX11_findsBad_96 rfl rfl) ?_
                            refine mm_Es (fun _ _ => mm_getS dX11_findsBad_97 fX11_147 sh_165 rfl gr_165_59) ?_
                            refine mm_Es (fun _ _ => mm_iload_n dX11_findsBad_100 rfl rfl) ?_
                            refine mm_Es (fun _ _ => mm_iload dX11_findsBad_101 rfl) ?_
                            refine mm_Es (fun _ _ => mm_ior dX11_findsBad_103) ?_
                            refine mm_Es (fun _ _ => mm_iconst (x := 1) dX11_findsBad_104 (by decide)) ?_
                            refine mm_Es (fun _ _ => mm_zast ((a ||| b)) dX11_findsBad_105 sh_209 (nI_lor _ _) (by omega) rfl) ?_
                            refine mm_Es (fun _ _ => mm_iinc dX11_findsBad_106 rfl (nI_inc b) rfl) ?_
                            refine mm_Es (fun _ _ => mm_goto 32 dX11_findsBad_109 (by decide)) ?_
                            exact K
              · have K := ihm (b + 1) (by omega) (by omega) gg fg (fun T hT => (S T hT).trans (pI_iff (bd1_n hbs).symm))
                refine mm_Es (fun _ _ => mm_iload_n dX11_findsBad_32 rfl rfl) ?_
                refine mm_Es (fun _ _ => mm_cS (Y1 := YX11_bits) dX11_findsBad_33 lX11_363 sX11_bits (mX11_bits (d + 1) gg a (by omega)) rfl rfl (by simp [Value.category])) ?_
                refine mm_Es (fun _ _ => mm_iload_n dX11_findsBad_36 rfl rfl) ?_
                refine mm_Eb (fun _ _ => mm_icmp_gt 112 dX11_findsBad_37 (by decide)) (fun c_37 => ?_) (fun c_37 => ?_)
                · exact absurd c_37 (nI_nlt hqa (by omega))
                · refine mm_Es (fun _ _ => mm_iload dX11_findsBad_40 rfl) ?_
                  refine mm_Es (fun _ _ => mm_iload_n dX11_findsBad_42 rfl rfl) ?_
                  refine mm_Eb (fun _ _ => mm_icmp_gt 112 dX11_findsBad_43 (by decide)) (fun c_43 => ?_) (fun c_43 => ?_)
                  · exact absurd c_43 (nI_nlt (by omega) (by omega))
                  · refine mm_Es (fun _ _ => mm_iload dX11_findsBad_46 rfl) ?_
                    refine mm_Es (fun _ _ => mm_cS (Y1 := YX11_bits) dX11_findsBad_48 lX11_363 sX11_bits (mX11_bits (d + 1) gg b (by omega)) rfl rfl (by simp [Value.category])) ?_
                    refine mm_Es (fun _ _ => mm_iload_n dX11_findsBad_51 rfl rfl) ?_
                    refine mm_Eb (fun _ _ => mm_icmp_gt 106 dX11_findsBad_52 (by decide)) (fun c_52 => ?_) (fun c_52 => ?_)
                    · exact absurd c_52 (nI_nlt hqb (by omega))
                    · refine mm_Es (fun _ _ => mm_aload_n dX11_findsBad_55 rfl rfl) ?_
                      refine mm_Es (fun _ _ => mm_getS dX11_findsBad_56 fX11_131 sh_165 rfl gr_165_52) ?_
                      refine mm_Es (fun _ _ => mm_iload_n dX11_findsBad_59 rfl rfl) ?_
                      refine mm_Es (fun _ _ => mm_lald (a) dX11_findsBad_60 sh_204 rfl (by omega)) ?_
                      refine mm_Es (fun _ _ => mm_aload_n dX11_findsBad_61 rfl rfl) ?_
                      refine mm_Es (fun _ _ => mm_getS dX11_findsBad_62 fX11_131 sh_165 rfl gr_165_52) ?_
                      refine mm_Es (fun _ _ => mm_iload dX11_findsBad_65 rfl) ?_
                      refine mm_Es (fun _ _ => mm_lald (b) dX11_findsBad_67 sh_204 rfl (by omega)) ?_
                      refine mm_Es (fun _ _ => mm_lcmp dX11_findsBad_68) ?_
                      refine mm_Ebn (fun _ _ => mm_if_ne 106 dX11_findsBad_69 (by decide)) (fun c_69 => ?_) (fun c_69 => ?_)
                      · refine mm_Es (fun _ _ => mm_iinc dX11_findsBad_106 rfl (nI_inc b) rfl) ?_
                        refine mm_Es (fun _ _ => mm_goto 32 dX11_findsBad_109 (by decide)) ?_
                        exact K
                      · refine mm_Es (fun _ _ => mm_aload_n dX11_findsBad_72 rfl rfl) ?_
                        refine mm_Es (fun _ _ => mm_iload_n dX11_findsBad_73 rfl rfl) ?_
                        refine mm_Es (fun _ _ => mm_iload dX11_findsBad_74 rfl) ?_
                        refine mm_Es (fun _ _ => mm_cV (Y1 := YX11_areAlike) dX11_findsBad_76 lX11_438 vX11_areAlike (MA) sh_165 rfl rfl (by simp [Value.category])) ?_
                        refine mm_Eb (fun _ _ => mm_if_eq 106 dX11_findsBad_79 (by decide)) (fun c_79 => ?_) (fun c_79 => ?_)
                        · refine mm_Es (fun _ _ => mm_iinc dX11_findsBad_106 rfl (nI_inc b) rfl) ?_
                          refine mm_Es (fun _ _ => mm_goto 32 dX11_findsBad_109 (by decide)) ?_
                          exact K
                        · refine mm_Es (fun _ _ => mm_aload_n dX11_findsBad_82 rfl rfl) ?_
                          refine mm_Es (fun _ _ => mm_iload_n dX11_findsBad_83 rfl rfl) ?_
                          refine mm_Es (fun _ _ => mm_cV (Y1 := YX11_worthOf) dX11_findsBad_84 lX11_446 vX11_worthOf (wth a) sh_165 rfl rfl (by simp [Value.category])) ?_
                          refine mm_Es (fun _ _ => mm_aload_n dX11_findsBad_87 rfl rfl) ?_
                          refine mm_Es (fun _ _ => mm_iload dX11_findsBad_88 rfl) ?_
                          refine mm_Es (fun _ _ => mm_cV (Y1 := YX11_worthOf) dX11_findsBad_90 lX11_446 vX11_worthOf (wth b) sh_165 rfl rfl (by simp [Value.category])) ?_
                          refine mm_Eb (fun _ _ => mm_icmp_eq 106 dX11_findsBad_93 (by decide)) (fun c_93 => ?_) (fun c_93 => ?_)
                          · refine mm_Es (fun _ _ => mm_iinc dX11_findsBad_106 rfl (nI_inc b) rfl) ?_
                            refine mm_Es (fun _ _ => mm_goto 32 dX11_findsBad_109 (by decide)) ?_
                            exact K
                          · exact absurd ⟨hqa, hqb, bI_n0.mp c_79, c_93⟩ hbs
            · have K := ihm (b + 1) (by omega) (by omega) gg fg (fun T hT => (S T hT).trans (pI_iff (bd1_n (fun z => hqb z.2.1)).symm))
              refine mm_Es (fun _ _ => mm_iload_n dX11_findsBad_32 rfl rfl) ?_
              refine mm_Es (fun _ _ => mm_cS (Y1 := YX11_bits) dX11_findsBad_33 lX11_363 sX11_bits (mX11_bits (d + 1) gg a (by omega)) rfl rfl (by simp [Value.category])) ?_
              refine mm_Es (fun _ _ => mm_iload_n dX11_findsBad_36 rfl rfl) ?_
              refine mm_Eb (fun _ _ => mm_icmp_gt 112 dX11_findsBad_37 (by decide)) (fun c_37 => ?_) (fun c_37 => ?_)
              · exact absurd c_37 (nI_nlt hqa (by omega))
              · refine mm_Es (fun _ _ => mm_iload dX11_findsBad_40 rfl) ?_
                refine mm_Es (fun _ _ => mm_iload_n dX11_findsBad_42 rfl rfl) ?_
                refine mm_Eb (fun _ _ => mm_icmp_gt 112 dX11_findsBad_43 (by decide)) (fun c_43 => ?_) (fun c_43 => ?_)
                · exact absurd c_43 (nI_nlt (by omega) (by omega))
                · refine mm_Es (fun _ _ => mm_iload dX11_findsBad_46 rfl) ?_
                  refine mm_Es (fun _ _ => mm_cS (Y1 := YX11_bits) dX11_findsBad_48 lX11_363 sX11_bits (mX11_bits (d + 1) gg b (by omega)) rfl rfl (by simp [Value.category])) ?_
                  refine mm_Es (fun _ _ => mm_iload_n dX11_findsBad_51 rfl rfl) ?_
                  refine mm_Eb (fun _ _ => mm_icmp_gt 106 dX11_findsBad_52 (by decide)) (fun c_52 => ?_) (fun c_52 => ?_)
                  · refine mm_Es (fun _ _ => mm_iinc dX11_findsBad_106 rfl (nI_inc b) rfl) ?_
                    refine mm_Es (fun _ _ => mm_goto 32 dX11_findsBad_109 (by decide)) ?_
                    exact K
                  · exact absurd (nI_lt (Nat.lt_of_not_le hqb) (by omega)) c_52
          · have K := ih (a + 1) (by omega) gg fg (fun T hT => (S T hT).trans (pI_iff (bd1_row (Or.inr hqa))))
            refine mm_Es (fun _ _ => mm_iload_n dX11_findsBad_32 rfl rfl) ?_
            refine mm_Es (fun _ _ => mm_cS (Y1 := YX11_bits) dX11_findsBad_33 lX11_363 sX11_bits (mX11_bits (d + 1) gg a (by omega)) rfl rfl (by simp [Value.category])) ?_
            refine mm_Es (fun _ _ => mm_iload_n dX11_findsBad_36 rfl rfl) ?_
            refine mm_Eb (fun _ _ => mm_icmp_gt 112 dX11_findsBad_37 (by decide)) (fun c_37 => ?_) (fun c_37 => ?_)
            · refine mm_Es (fun _ _ => mm_iinc dX11_findsBad_112 rfl (nI_inc a) rfl) ?_
              refine mm_Es (fun _ _ => mm_goto 22 dX11_findsBad_115 (by decide)) ?_
              exact K _
            · exact absurd (nI_lt (Nat.lt_of_not_le hqa) (by omega)) c_37
      have K := K32 ((2 ^ mn A) - (a + 1)) (a + 1) (by omega) (by omega) gg fg (fun T hT => (S T hT).trans (pI_iff bd1_s.symm))
      refine mm_Es (fun _ _ => mm_iload_n dX11_findsBad_22 rfl rfl) ?_
      refine mm_Es (fun _ _ => mm_iload_n dX11_findsBad_23 rfl rfl) ?_
      refine mm_Eb (fun _ _ => mm_icmp_gt 118 dX11_findsBad_24 (by decide)) (fun c_24 => ?_) (fun c_24 => ?_)
      · exact absurd c_24 (nI_nlt (by omega) (by omega))
      · refine mm_Es (fun _ _ => mm_iload_n dX11_findsBad_27 rfl rfl) ?_
        refine mm_Es (fun _ _ => mm_iconst (x := 1) dX11_findsBad_28 (by decide)) ?_
        refine mm_Es (fun _ _ => mm_iadd dX11_findsBad_29) ?_
        refine mm_Es (fun _ _ => mm_cast (st' := [.int (nI (a + 1))]) rfl (by rw [nI_succ] <;> rfl) rfl) ?_
        refine mm_Es (fun _ _ => mm_istore dX11_findsBad_30 (by decide) rfl) ?_
        exact K
  have K2 : ∀ m i, i + m = (2 ^ mn A) → ∀ gg, frm (onep 209) h gg → (∀ x, x < i → gg.1 209 x = 0) → mm_E (d + 2) YX11_findsBad 2 [some (.ref 165), some (.int (nI (2 ^ mn A - 1))), some (.int (nI q)), some (.int (nI i)), none] [] gg (fun v g => v = none ∧ frm (onep 209) h g ∧ ∀ T, T < (2 ^ mn A) → g.1 209 T = pI (unS (chd A Q k) (wtA A) q T)) := by
    intro m
    induction m with
    | zero =>
      intro i hi gg fg S
      have hi : i = (2 ^ mn A) := by omega
      subst hi
      have K := K22 (2 ^ mn A) 0 (by omega) gg fg (fun T hT => by rw [pI_0 (fun ⟨a2, b2, _, _, h3, _⟩ => by omega)]; exact S T hT)
      refine mm_Es (fun _ _ => mm_iload_n dX11_findsBad_2 rfl rfl) ?_
      refine mm_Es (fun _ _ => mm_iload_n dX11_findsBad_3 rfl rfl) ?_
      refine mm_Eb (fun _ _ => mm_icmp_gt 20 dX11_findsBad_4 (by decide)) (fun c_4 => ?_) (fun c_4 => ?_)
      · refine mm_Es (fun _ _ => mm_iconst (x := 0) dX11_findsBad_20 (by decide)) ?_
        refine mm_Es (fun _ _ => mm_istore_n dX11_findsBad_21 rfl (by decide) rfl) ?_
        exact K _
      · exact absurd (nI_lt (show (2 ^ mn A - 1) < (2 ^ mn A) by omega) (by omega)) c_4
    | succ m ih =>
      intro i hi gg fg S
      have K := ih (i + 1) (by omega) (mm_up gg.1 209 i 0, gg.2.1, gg.2.2) (fg.up (c := 209) rfl) (fun x hx => by
        dsimp only
        by_cases z : x = i
        · subst z; rw [mm_up_e]
        · rw [mm_up_k z]; exact S x (by omega))
      refine mm_Es (fun _ _ => mm_iload_n dX11_findsBad_2 rfl rfl) ?_
      refine mm_Es (fun _ _ => mm_iload_n dX11_findsBad_3 rfl rfl) ?_
      refine mm_Eb (fun _ _ => mm_icmp_gt 20 dX11_findsBad_4 (by decide)) (fun c_4 => ?_) (fun c_4 => ?_)
      · exact absurd c_4 (nI_nlt (by omega) (by omega))
      · refine mm_Es (fun _ _ => mm_aload_n dX11_findsBad_7 rfl rfl) ?_
        refine mm_Es (fun _ _ => mm_getS dX11_findsBad_8 fX11_147 sh_165 rfl gr_165_59) ?_
        refine mm_Es (fun _ _ => mm_iload_n dX11_findsBad_11 rfl rfl) ?_
        refine mm_Es (fun _ _ => mm_iconst (x := 0) dX11_findsBad_12 (by decide)) ?_
        refine mm_Es (fun _ _ => mm_zast (i) dX11_findsBad_13 sh_209 rfl (by omega) rfl) ?_
        refine mm_Es (fun _ _ => mm_iinc dX11_findsBad_14 rfl (nI_inc i) rfl) ?_
        refine mm_Es (fun _ _ => mm_goto 2 dX11_findsBad_17 (by decide)) ?_
        exact K
  have K := K2 (2 ^ mn A) 0 (by omega) h (frm.refl _ _) (fun x hx => by omega)
  refine mm_Es (fun _ _ => mm_iconst (x := 0) dX11_findsBad_0 (by decide)) ?_
  refine mm_Es (fun _ _ => mm_istore_n dX11_findsBad_1 rfl (by decide) rfl) ?_
  exact K
