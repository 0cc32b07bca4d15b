/-! Rows in the order in which a program lays them; loops; objects of a kind. -/
section MMM
variable {d : Nat} {Y Y1 : mm_Y} {pc : Nat} {ls : List (Option Value)} {st stk : List Value} {h h1 : mm_H} {v v1 : Option Value} {h' : mm_H} {idx n b ci : Nat} {as : List Value}
theorem mm_cV (hd : decode Y.2.1 pc = .ok (.invokevirtual idx, 3)) (hl : Cond.methodLink Y.1.cls idx Y1.1 ∈ mm_T0) (hy : mm_MV Y1 ci n) (hM : mm_M d Y1 (.ref b :: as) h v1 h1) (hb : mm_sh b = (0, ci)) (hst : stk = as.reverse ++ .ref b :: st) (hn : as.length = n) (hc : (st.map fun v => v.category).sum ≤ 8) (k : mm_R (d + 1) Y (pc + 3) ls (v1.toList ++ st) h1 v h') : mm_R (d + 1) Y pc ls stk h v h' := mm_callV hd hl hy hb hst hn hc hM k
theorem mm_cS (hd : decode Y.2.1 pc = .ok (.invokestatic idx, 3)) (hl : Cond.methodLink Y.1.cls idx Y1.1 ∈ mm_T0) (hy : mm_MS Y1 n) (hM : mm_M d Y1 as h v1 h1) (hst : stk = as.reverse ++ st) (hn : as.length = n) (hc : (st.map fun v => v.category).sum ≤ 8) (k : mm_R (d + 1) Y (pc + 3) ls (v1.toList ++ st) h1 v h') : mm_R (d + 1) Y pc ls stk h v h' := mm_callS hd hl hy hst hn hc hM k
theorem mm_cSN (hd : decode Y.2.1 pc = .ok (.invokestatic idx, 3)) (hl : (Y.1.cls, idx, Y1.1) ∈ mm_nest) (hy : mm_MS Y1 n) (hM : mm_M d Y1 as h v1 h1) (hst : stk = as.reverse ++ st) (hn : as.length = n) (hc : (st.map fun v => v.category).sum ≤ 8) (k : mm_R (d + 1) Y (pc + 3) ls (v1.toList ++ st) h1 v h') : mm_R (d + 1) Y pc ls stk h v h' := mm_callSN hd hl hy hst hn hc hM k
theorem mm_iretE {x y : Int32} (hd : decode Y.2.1 pc = .ok (.ireturn, 1)) (hr : Y.2.2.2 = some .int) (hx : x = y) (hh : h = h') : mm_R d Y pc ls [.int x] h (some (.int y)) h' := by subst hx; subst hh; exact mm_ireturn hd hr
theorem mm_zretE {x y : Int32} {ty : FieldType} (hd : decode Y.2.1 pc = .ok (.ireturn, 1)) (hr : Y.2.2.2 = some ty) (hn : narrow ty (.int y) = .int y) (hx : x = y) (hh : h = h') : mm_R d Y pc ls [.int x] h (some (.int y)) h' := by subst hx; subst hh; exact mm_zreturn hd hr hn
theorem mm_lretE {x y : Int64} (hd : decode Y.2.1 pc = .ok (.lreturn, 1)) (hr : Y.2.2.2 = some .long) (hx : x = y) (hh : h = h') : mm_R d Y pc ls [.long x] h (some (.long y)) h' := by subst hx; subst hh; exact mm_lreturn hd hr
theorem mm_retE (hd : decode Y.2.1 pc = .ok (.return_, 1)) (hr : Y.2.2.2 = none) (hh : h = h') : mm_R d Y pc ls [] h none h' := by subst hh; exact mm_return hd hr
/-- another spelling of the same place -/
theorem mm_cast {ls' : List (Option Value)} {st' : List Value} {g : mm_H} (hl : ls = ls') (hs : st = st') (hg : h = g) (k : mm_R d Y pc ls' st' g v h') : mm_R d Y pc ls st h v h' := by subst hl; subst hs; subst hg; exact k
theorem mm_castR {w : Option Value} {g : mm_H} (hv : v = w) (hg : h' = g) (k : mm_R d Y pc ls st h w g) : mm_R d Y pc ls st h v h' := by subst hv; subst hg; exact k
theorem mm_M.cast {av : List Value} {w : Option Value} {g : mm_H} (hv : v = w) (hg : h' = g) (k : mm_M d Y av h w g) : mm_M d Y av h v h' := by subst hv; subst hg; exact k
end MMM
/-- from the end of a counted loop back to its begin -/
theorem mm_down {S : Nat → Prop} (n : Nat) (hx : S n) (hs : ∀ i, i < n → S (i + 1) → S i) : ∀ i, i ≤ n → S i := by
  have : ∀ k i, i + k = n → S i := by
    intro k
    induction k with
    | zero => intro i h; have e : i = n := by omega
              subst e; exact hx
    | succ k ih => intro i h; exact hs i (by omega) (ih (i + 1) (by omega))
  intro i hi
  exact this (n - i) i (by omega)
/-- numbers -/
theorem nI_cases (x : Int32) {n : Nat} (hn : n < 2 ^ 31) : (x < 0 ∨ nI n ≤ x) ∨ ∃ j : Nat, j < n ∧ x = nI j := by
  rcases pk_ix x hn with h | h | h
  · exact Or.inl (Or.inl h)
  · exact Or.inl (Or.inr h)
  · exact Or.inr h
theorem nI_geI {a b : Nat} (ha : a < 2 ^ 31) (hb : b < 2 ^ 31) : ¬ nI a ≤ nI b ↔ b < a := by rw [nI_leI ha hb]; omega
/-- a Mint stands at b: its rows behind it -/
def mm_mint (b : Nat) : Prop := mm_sh b = (0, 5) ∧ (mm_sh (b + 1) = (1, 12) ∧ mm_sh (b + 2) = (1, 12) ∧ mm_sh (b + 3) = (1, 12) ∧ mm_sh (b + 4) = (1, 12) ∧ mm_sh (b + 5) = (1, 12) ∧ mm_sh (b + 6) = (1, 12) ∧ mm_sh (b + 7) = (1, 4) ∧ mm_sh (b + 8) = (1, 4)) ∧ mm_gr b 1 = some (b + 1) ∧ mm_gr b 2 = some (b + 2) ∧ mm_gr b 3 = some (b + 3) ∧ mm_gr b 4 = some (b + 4) ∧ mm_gr b 5 = some (b + 5) ∧ mm_gr b 6 = some (b + 6) ∧ mm_gr b 8 = some (b + 7) ∧ mm_gr b 9 = some (b + 8)
/-- a State stands at b -/
def mm_state (b : Nat) : Prop := mm_sh b = (0, 7) ∧ mm_sh (b + 1) = (1, 12) ∧ mm_sh (b + 2) = (1, 10) ∧ mm_sh (b + 3) = (1, 10) ∧ mm_gr b 1 = some (b + 1) ∧ mm_gr b 3 = some (b + 2) ∧ mm_gr b 4 = some (b + 3) ∧ mm_gr b 0 = some (b + 4) ∧ mm_mint (b + 4)
/-- a Law stands at b -/
def mm_law (b : Nat) : Prop := mm_sh b = (0, 3) ∧ mm_sh (b + 1) = (1, 400) ∧ mm_sh (b + 2) = (1, 12) ∧ mm_sh (b + 3) = (1, 12) ∧ mm_sh (b + 4) = (1, 12) ∧ mm_sh (b + 5) = (1, 12) ∧ mm_gr b 0 = some (b + 1) ∧ mm_gr b 2 = some (b + 2) ∧ mm_gr b 3 = some (b + 3) ∧ mm_gr b 4 = some (b + 4) ∧ mm_gr b 5 = some (b + 5)
theorem mint9 : mm_mint 9 := by unfold mm_mint; decide +kernel
theorem mint65 : mm_mint 65 := by unfold mm_mint; decide +kernel
theorem mint126 : mm_mint 126 := by unfold mm_mint; decide +kernel
theorem state61 : mm_state 61 := by unfold mm_state mm_mint; decide +kernel
theorem state_im (i : Nat) (hi : i < 4) : mm_state (74 + 13 * i) := by
  rcases (show i = 0 ∨ i = 1 ∨ i = 2 ∨ i = 3 by omega) with rfl | rfl | rfl | rfl <;> (unfold mm_state mm_mint; decide +kernel)
theorem law19 : mm_law 19 := by unfold mm_law; decide +kernel
theorem law_i (i : Nat) (hi : i < 6) : mm_law (25 + 6 * i) := by
  rcases (show i = 0 ∨ i = 1 ∨ i = 2 ∨ i = 3 ∨ i = 4 ∨ i = 5 by omega) with rfl | rfl | rfl | rfl | rfl | rfl <;> (unfold mm_law; decide +kernel)
/-! the cells one by one -/
theorem sh_0 : mm_sh 0 = (0, 10) := by decide +kernel
theorem sh_1 : mm_sh 1 = (2, 400) := by decide +kernel
theorem sh_2 : mm_sh 2 = (5, 6) := by decide +kernel
theorem sh_3 : mm_sh 3 = (6, 4) := by decide +kernel
theorem sh_4 : mm_sh 4 = (0, 8) := by decide +kernel
theorem sh_5 : mm_sh 5 = (1, 401) := by decide +kernel
theorem sh_6 : mm_sh 6 = (1, 401) := by decide +kernel
theorem sh_7 : mm_sh 7 = (1, 401) := by decide +kernel
theorem sh_8 : mm_sh 8 = (0, 6) := by decide +kernel
theorem sh_9 : mm_sh 9 = (0, 5) := by decide +kernel
theorem sh_10 : mm_sh 10 = (1, 12) := by decide +kernel
theorem sh_11 : mm_sh 11 = (1, 12) := by decide +kernel
theorem sh_12 : mm_sh 12 = (1, 12) := by decide +kernel
theorem sh_13 : mm_sh 13 = (1, 12) := by decide +kernel
theorem sh_14 : mm_sh 14 = (1, 12) := by decide +kernel
theorem sh_15 : mm_sh 15 = (1, 12) := by decide +kernel
theorem sh_16 : mm_sh 16 = (1, 4) := by decide +kernel
theorem sh_17 : mm_sh 17 = (1, 4) := by decide +kernel
theorem sh_18 : mm_sh 18 = (0, 4) := by decide +kernel
theorem sh_19 : mm_sh 19 = (0, 3) := by decide +kernel
theorem sh_20 : mm_sh 20 = (1, 400) := by decide +kernel
theorem sh_21 : mm_sh 21 = (1, 12) := by decide +kernel
theorem sh_22 : mm_sh 22 = (1, 12) := by decide +kernel
theorem sh_23 : mm_sh 23 = (1, 12) := by decide +kernel
theorem sh_24 : mm_sh 24 = (1, 12) := by decide +kernel
theorem sh_25 : mm_sh 25 = (0, 3) := by decide +kernel
theorem sh_26 : mm_sh 26 = (1, 400) := by decide +kernel
theorem sh_27 : mm_sh 27 = (1, 12) := by decide +kernel
theorem sh_28 : mm_sh 28 = (1, 12) := by decide +kernel
theorem sh_29 : mm_sh 29 = (1, 12) := by decide +kernel
theorem sh_30 : mm_sh 30 = (1, 12) := by decide +kernel
theorem sh_31 : mm_sh 31 = (0, 3) := by decide +kernel
theorem sh_32 : mm_sh 32 = (1, 400) := by decide +kernel
theorem sh_33 : mm_sh 33 = (1, 12) := by decide +kernel
theorem sh_34 : mm_sh 34 = (1, 12) := by decide +kernel
theorem sh_35 : mm_sh 35 = (1, 12) := by decide +kernel
theorem sh_36 : mm_sh 36 = (1, 12) := by decide +kernel
theorem sh_37 : mm_sh 37 = (0, 3) := by decide +kernel
theorem sh_38 : mm_sh 38 = (1, 400) := by decide +kernel
theorem sh_39 : mm_sh 39 = (1, 12) := by decide +kernel
theorem sh_40 : mm_sh 40 = (1, 12) := by decide +kernel
theorem sh_41 : mm_sh 41 = (1, 12) := by decide +kernel
theorem sh_42 : mm_sh 42 = (1, 12) := by decide +kernel
theorem sh_43 : mm_sh 43 = (0, 3) := by decide +kernel
theorem sh_44 : mm_sh 44 = (1, 400) := by decide +kernel
theorem sh_45 : mm_sh 45 = (1, 12) := by decide +kernel
theorem sh_46 : mm_sh 46 = (1, 12) := by decide +kernel
theorem sh_47 : mm_sh 47 = (1, 12) := by decide +kernel
theorem sh_48 : mm_sh 48 = (1, 12) := by decide +kernel
theorem sh_49 : mm_sh 49 = (0, 3) := by decide +kernel
theorem sh_50 : mm_sh 50 = (1, 400) := by decide +kernel
theorem sh_51 : mm_sh 51 = (1, 12) := by decide +kernel
theorem sh_52 : mm_sh 52 = (1, 12) := by decide +kernel
theorem sh_53 : mm_sh 53 = (1, 12) := by decide +kernel
theorem sh_54 : mm_sh 54 = (1, 12) := by decide +kernel
theorem sh_55 : mm_sh 55 = (0, 3) := by decide +kernel
theorem sh_56 : mm_sh 56 = (1, 400) := by decide +kernel
theorem sh_57 : mm_sh 57 = (1, 12) := by decide +kernel
theorem sh_58 : mm_sh 58 = (1, 12) := by decide +kernel
theorem sh_59 : mm_sh 59 = (1, 12) := by decide +kernel
theorem sh_60 : mm_sh 60 = (1, 12) := by decide +kernel
theorem sh_61 : mm_sh 61 = (0, 7) := by decide +kernel
theorem sh_62 : mm_sh 62 = (1, 12) := by decide +kernel
theorem sh_63 : mm_sh 63 = (1, 10) := by decide +kernel
theorem sh_64 : mm_sh 64 = (1, 10) := by decide +kernel
theorem sh_65 : mm_sh 65 = (0, 5) := by decide +kernel
theorem sh_66 : mm_sh 66 = (1, 12) := by decide +kernel
theorem sh_67 : mm_sh 67 = (1, 12) := by decide +kernel
theorem sh_68 : mm_sh 68 = (1, 12) := by decide +kernel
theorem sh_69 : mm_sh 69 = (1, 12) := by decide +kernel
theorem sh_70 : mm_sh 70 = (1, 12) := by decide +kernel
theorem sh_71 : mm_sh 71 = (1, 12) := by decide +kernel
theorem sh_72 : mm_sh 72 = (1, 4) := by decide +kernel
theorem sh_73 : mm_sh 73 = (1, 4) := by decide +kernel
theorem sh_74 : mm_sh 74 = (0, 7) := by decide +kernel
theorem sh_75 : mm_sh 75 = (1, 12) := by decide +kernel
theorem sh_76 : mm_sh 76 = (1, 10) := by decide +kernel
theorem sh_77 : mm_sh 77 = (1, 10) := by decide +kernel
theorem sh_78 : mm_sh 78 = (0, 5) := by decide +kernel
theorem sh_79 : mm_sh 79 = (1, 12) := by decide +kernel
theorem sh_80 : mm_sh 80 = (1, 12) := by decide +kernel
theorem sh_81 : mm_sh 81 = (1, 12) := by decide +kernel
theorem sh_82 : mm_sh 82 = (1, 12) := by decide +kernel
theorem sh_83 : mm_sh 83 = (1, 12) := by decide +kernel
theorem sh_84 : mm_sh 84 = (1, 12) := by decide +kernel
theorem sh_85 : mm_sh 85 = (1, 4) := by decide +kernel
theorem sh_86 : mm_sh 86 = (1, 4) := by decide +kernel
theorem sh_87 : mm_sh 87 = (0, 7) := by decide +kernel
theorem sh_88 : mm_sh 88 = (1, 12) := by decide +kernel
theorem sh_89 : mm_sh 89 = (1, 10) := by decide +kernel
theorem sh_90 : mm_sh 90 = (1, 10) := by decide +kernel
theorem sh_91 : mm_sh 91 = (0, 5) := by decide +kernel
theorem sh_92 : mm_sh 92 = (1, 12) := by decide +kernel
theorem sh_93 : mm_sh 93 = (1, 12) := by decide +kernel
theorem sh_94 : mm_sh 94 = (1, 12) := by decide +kernel
theorem sh_95 : mm_sh 95 = (1, 12) := by decide +kernel
theorem sh_96 : mm_sh 96 = (1, 12) := by decide +kernel
theorem sh_97 : mm_sh 97 = (1, 12) := by decide +kernel
theorem sh_98 : mm_sh 98 = (1, 4) := by decide +kernel
theorem sh_99 : mm_sh 99 = (1, 4) := by decide +kernel
theorem sh_100 : mm_sh 100 = (0, 7) := by decide +kernel
theorem sh_101 : mm_sh 101 = (1, 12) := by decide +kernel
theorem sh_102 : mm_sh 102 = (1, 10) := by decide +kernel
theorem sh_103 : mm_sh 103 = (1, 10) := by decide +kernel
theorem sh_104 : mm_sh 104 = (0, 5) := by decide +kernel
theorem sh_105 : mm_sh 105 = (1, 12) := by decide +kernel
theorem sh_106 : mm_sh 106 = (1, 12) := by decide +kernel
theorem sh_107 : mm_sh 107 = (1, 12) := by decide +kernel
theorem sh_108 : mm_sh 108 = (1, 12) := by decide +kernel
theorem sh_109 : mm_sh 109 = (1, 12) := by decide +kernel
theorem sh_110 : mm_sh 110 = (1, 12) := by decide +kernel
theorem sh_111 : mm_sh 111 = (1, 4) := by decide +kernel
theorem sh_112 : mm_sh 112 = (1, 4) := by decide +kernel
theorem sh_113 : mm_sh 113 = (0, 7) := by decide +kernel
theorem sh_114 : mm_sh 114 = (1, 12) := by decide +kernel
theorem sh_115 : mm_sh 115 = (1, 10) := by decide +kernel
theorem sh_116 : mm_sh 116 = (1, 10) := by decide +kernel
theorem sh_117 : mm_sh 117 = (0, 5) := by decide +kernel
theorem sh_118 : mm_sh 118 = (1, 12) := by decide +kernel
theorem sh_119 : mm_sh 119 = (1, 12) := by decide +kernel
theorem sh_120 : mm_sh 120 = (1, 12) := by decide +kernel
theorem sh_121 : mm_sh 121 = (1, 12) := by decide +kernel
theorem sh_122 : mm_sh 122 = (1, 12) := by decide +kernel
theorem sh_123 : mm_sh 123 = (1, 12) := by decide +kernel
theorem sh_124 : mm_sh 124 = (1, 4) := by decide +kernel
theorem sh_125 : mm_sh 125 = (1, 4) := by decide +kernel
theorem sh_126 : mm_sh 126 = (0, 5) := by decide +kernel
theorem sh_127 : mm_sh 127 = (1, 12) := by decide +kernel
theorem sh_128 : mm_sh 128 = (1, 12) := by decide +kernel
theorem sh_129 : mm_sh 129 = (1, 12) := by decide +kernel
theorem sh_130 : mm_sh 130 = (1, 12) := by decide +kernel
theorem sh_131 : mm_sh 131 = (1, 12) := by decide +kernel
theorem sh_132 : mm_sh 132 = (1, 12) := by decide +kernel
theorem sh_133 : mm_sh 133 = (1, 4) := by decide +kernel
theorem sh_134 : mm_sh 134 = (1, 4) := by decide +kernel
theorem sh_135 : mm_sh 135 = (0, 0) := by decide +kernel
theorem sh_136 : mm_sh 136 = (1, 4096) := by decide +kernel
theorem sh_137 : mm_sh 137 = (1, 4096) := by decide +kernel
theorem sh_138 : mm_sh 138 = (1, 4098) := by decide +kernel
theorem sh_139 : mm_sh 139 = (1, 24576) := by decide +kernel
theorem sh_140 : mm_sh 140 = (1, 4096) := by decide +kernel
theorem sh_141 : mm_sh 141 = (1, 4097) := by decide +kernel
theorem sh_142 : mm_sh 142 = (1, 4097) := by decide +kernel
theorem sh_143 : mm_sh 143 = (1, 4097) := by decide +kernel
theorem sh_144 : mm_sh 144 = (1, 4097) := by decide +kernel
theorem sh_145 : mm_sh 145 = (0, 1) := by decide +kernel
theorem sh_146 : mm_sh 146 = (1, 1728) := by decide +kernel
theorem sh_147 : mm_sh 147 = (1, 1728) := by decide +kernel
theorem sh_148 : mm_sh 148 = (4, 10) := by decide +kernel
theorem sh_149 : mm_sh 149 = (4, 64) := by decide +kernel
theorem sh_150 : mm_sh 150 = (1, 12) := by decide +kernel
theorem sh_151 : mm_sh 151 = (1, 12) := by decide +kernel
theorem sh_152 : mm_sh 152 = (1, 12) := by decide +kernel
theorem sh_153 : mm_sh 153 = (1, 12) := by decide +kernel
theorem sh_154 : mm_sh 154 = (1, 12) := by decide +kernel
theorem sh_155 : mm_sh 155 = (0, 9) := by decide +kernel
theorem sh_156 : mm_sh 156 = (1, 4096) := by decide +kernel
theorem sh_157 : mm_sh 157 = (1, 4096) := by decide +kernel
theorem sh_158 : mm_sh 158 = (3, 1000) := by decide +kernel
theorem sh_159 : mm_sh 159 = (0, 2) := by decide +kernel
theorem sh_160 : mm_sh 160 = (1, 10) := by decide +kernel
theorem sh_161 : mm_sh 161 = (3, 1024) := by decide +kernel
theorem sh_162 : mm_sh 162 = (1, 1024) := by decide +kernel
theorem sh_163 : mm_sh 163 = (3, 4096) := by decide +kernel
theorem sh_164 : mm_sh 164 = (3, 201) := by decide +kernel
theorem sh_165 : mm_sh 165 = (0, 11) := by decide +kernel
theorem sh_166 : mm_sh 166 = (1, 7) := by decide +kernel
theorem sh_167 : mm_sh 167 = (1, 12) := by decide +kernel
theorem sh_168 : mm_sh 168 = (1, 12) := by decide +kernel
theorem sh_169 : mm_sh 169 = (1, 12) := by decide +kernel
theorem sh_170 : mm_sh 170 = (1, 12) := by decide +kernel
theorem sh_171 : mm_sh 171 = (1, 4) := by decide +kernel
theorem sh_172 : mm_sh 172 = (1, 4) := by decide +kernel
theorem sh_173 : mm_sh 173 = (1, 4) := by decide +kernel
theorem sh_174 : mm_sh 174 = (1, 12) := by decide +kernel
theorem sh_175 : mm_sh 175 = (1, 12) := by decide +kernel
theorem sh_176 : mm_sh 176 = (1, 12) := by decide +kernel
theorem sh_177 : mm_sh 177 = (1, 12) := by decide +kernel
theorem sh_178 : mm_sh 178 = (1, 4) := by decide +kernel
theorem sh_179 : mm_sh 179 = (1, 4) := by decide +kernel
theorem sh_180 : mm_sh 180 = (1, 12) := by decide +kernel
theorem sh_181 : mm_sh 181 = (1, 12) := by decide +kernel
theorem sh_182 : mm_sh 182 = (1, 12) := by decide +kernel
theorem sh_183 : mm_sh 183 = (1, 10) := by decide +kernel
theorem sh_184 : mm_sh 184 = (1, 10) := by decide +kernel
theorem sh_185 : mm_sh 185 = (2, 400) := by decide +kernel
theorem sh_186 : mm_sh 186 = (1, 1800) := by decide +kernel
theorem sh_187 : mm_sh 187 = (1, 1800) := by decide +kernel
theorem sh_188 : mm_sh 188 = (1, 6) := by decide +kernel
theorem sh_189 : mm_sh 189 = (1, 72) := by decide +kernel
theorem sh_190 : mm_sh 190 = (1, 72) := by decide +kernel
theorem sh_191 : mm_sh 191 = (1, 72) := by decide +kernel
theorem sh_192 : mm_sh 192 = (1, 72) := by decide +kernel
theorem sh_193 : mm_sh 193 = (1, 402) := by decide +kernel
theorem sh_194 : mm_sh 194 = (4, 10) := by decide +kernel
theorem sh_195 : mm_sh 195 = (4, 300) := by decide +kernel
theorem sh_196 : mm_sh 196 = (1, 12) := by decide +kernel
theorem sh_197 : mm_sh 197 = (1, 12) := by decide +kernel
theorem sh_198 : mm_sh 198 = (1, 12) := by decide +kernel
theorem sh_199 : mm_sh 199 = (1, 12) := by decide +kernel
theorem sh_200 : mm_sh 200 = (1, 12) := by decide +kernel
theorem sh_201 : mm_sh 201 = (1, 12) := by decide +kernel
theorem sh_202 : mm_sh 202 = (1, 4096) := by decide +kernel
theorem sh_203 : mm_sh 203 = (1, 49152) := by decide +kernel
theorem sh_204 : mm_sh 204 = (4, 4096) := by decide +kernel
theorem sh_205 : mm_sh 205 = (3, 4096) := by decide +kernel
theorem sh_206 : mm_sh 206 = (3, 12000) := by decide +kernel
theorem sh_207 : mm_sh 207 = (1, 10) := by decide +kernel
theorem sh_208 : mm_sh 208 = (1, 1024) := by decide +kernel
theorem sh_209 : mm_sh 209 = (3, 4096) := by decide +kernel
theorem sh_210 : mm_sh 210 = (3, 201) := by decide +kernel
theorem sh_211 : mm_sh 211 = (1, 201) := by decide +kernel
theorem sh_212 : mm_sh 212 = (1, 12) := by decide +kernel
theorem sh_213 : mm_sh 213 = (1, 12) := by decide +kernel
theorem sh_214 : mm_sh 214 = (1, 520) := by decide +kernel
theorem sh_215 : mm_sh 215 = (3, 4) := by decide +kernel
theorem gr_0_0 : mm_gr 0 0 = some 1 := by decide +kernel
theorem gr_0_5 : mm_gr 0 5 = some 2 := by decide +kernel
theorem gr_0_8 : mm_gr 0 8 = some 3 := by decide +kernel
theorem gr_4_0 : mm_gr 4 0 = some 5 := by decide +kernel
theorem gr_4_1 : mm_gr 4 1 = some 6 := by decide +kernel
theorem gr_4_2 : mm_gr 4 2 = some 7 := by decide +kernel
theorem gr_0_2 : mm_gr 0 2 = some 4 := by decide +kernel
theorem gr_0_3 : mm_gr 0 3 = some 8 := by decide +kernel
theorem gr_8_1 : mm_gr 8 1 = some 4 := by decide +kernel
theorem gr_9_1 : mm_gr 9 1 = some 10 := by decide +kernel
theorem gr_9_2 : mm_gr 9 2 = some 11 := by decide +kernel
theorem gr_9_3 : mm_gr 9 3 = some 12 := by decide +kernel
theorem gr_9_4 : mm_gr 9 4 = some 13 := by decide +kernel
theorem gr_9_5 : mm_gr 9 5 = some 14 := by decide +kernel
theorem gr_9_6 : mm_gr 9 6 = some 15 := by decide +kernel
theorem gr_9_8 : mm_gr 9 8 = some 16 := by decide +kernel
theorem gr_9_9 : mm_gr 9 9 = some 17 := by decide +kernel
theorem gr_8_0 : mm_gr 8 0 = some 9 := by decide +kernel
theorem gr_0_4 : mm_gr 0 4 = some 18 := by decide +kernel
theorem gr_18_0 : mm_gr 18 0 = some 4 := by decide +kernel
theorem gr_19_0 : mm_gr 19 0 = some 20 := by decide +kernel
theorem gr_19_2 : mm_gr 19 2 = some 21 := by decide +kernel
theorem gr_19_3 : mm_gr 19 3 = some 22 := by decide +kernel
theorem gr_19_4 : mm_gr 19 4 = some 23 := by decide +kernel
theorem gr_19_5 : mm_gr 19 5 = some 24 := by decide +kernel
theorem gr_25_0 : mm_gr 25 0 = some 26 := by decide +kernel
theorem gr_25_2 : mm_gr 25 2 = some 27 := by decide +kernel
theorem gr_25_3 : mm_gr 25 3 = some 28 := by decide +kernel
theorem gr_25_4 : mm_gr 25 4 = some 29 := by decide +kernel
theorem gr_25_5 : mm_gr 25 5 = some 30 := by decide +kernel
theorem gr_2_0 : mm_gr 2 0 = some 25 := by decide +kernel
theorem gr_31_0 : mm_gr 31 0 = some 32 := by decide +kernel
theorem gr_31_2 : mm_gr 31 2 = some 33 := by decide +kernel
theorem gr_31_3 : mm_gr 31 3 = some 34 := by decide +kernel
theorem gr_31_4 : mm_gr 31 4 = some 35 := by decide +kernel
theorem gr_31_5 : mm_gr 31 5 = some 36 := by decide +kernel
theorem gr_2_1 : mm_gr 2 1 = some 31 := by decide +kernel
theorem gr_37_0 : mm_gr 37 0 = some 38 := by decide +kernel
theorem gr_37_2 : mm_gr 37 2 = some 39 := by decide +kernel
theorem gr_37_3 : mm_gr 37 3 = some 40 := by decide +kernel
theorem gr_37_4 : mm_gr 37 4 = some 41 := by decide +kernel
theorem gr_37_5 : mm_gr 37 5 = some 42 := by decide +kernel
theorem gr_2_2 : mm_gr 2 2 = some 37 := by decide +kernel
theorem gr_43_0 : mm_gr 43 0 = some 44 := by decide +kernel
theorem gr_43_2 : mm_gr 43 2 = some 45 := by decide +kernel
theorem gr_43_3 : mm_gr 43 3 = some 46 := by decide +kernel
theorem gr_43_4 : mm_gr 43 4 = some 47 := by decide +kernel
theorem gr_43_5 : mm_gr 43 5 = some 48 := by decide +kernel
theorem gr_2_3 : mm_gr 2 3 = some 43 := by decide +kernel
theorem gr_49_0 : mm_gr 49 0 = some 50 := by decide +kernel
theorem gr_49_2 : mm_gr 49 2 = some 51 := by decide +kernel
theorem gr_49_3 : mm_gr 49 3 = some 52 := by decide +kernel
theorem gr_49_4 : mm_gr 49 4 = some 53 := by decide +kernel
theorem gr_49_5 : mm_gr 49 5 = some 54 := by decide +kernel
theorem gr_2_4 : mm_gr 2 4 = some 49 := by decide +kernel
theorem gr_55_0 : mm_gr 55 0 = some 56 := by decide +kernel
theorem gr_55_2 : mm_gr 55 2 = some 57 := by decide +kernel
theorem gr_55_3 : mm_gr 55 3 = some 58 := by decide +kernel
theorem gr_55_4 : mm_gr 55 4 = some 59 := by decide +kernel
theorem gr_55_5 : mm_gr 55 5 = some 60 := by decide +kernel
theorem gr_2_5 : mm_gr 2 5 = some 55 := by decide +kernel
theorem gr_61_1 : mm_gr 61 1 = some 62 := by decide +kernel
theorem gr_61_3 : mm_gr 61 3 = some 63 := by decide +kernel
theorem gr_61_4 : mm_gr 61 4 = some 64 := by decide +kernel
theorem gr_65_1 : mm_gr 65 1 = some 66 := by decide +kernel
theorem gr_65_2 : mm_gr 65 2 = some 67 := by decide +kernel
theorem gr_65_3 : mm_gr 65 3 = some 68 := by decide +kernel
theorem gr_65_4 : mm_gr 65 4 = some 69 := by decide +kernel
theorem gr_65_5 : mm_gr 65 5 = some 70 := by decide +kernel
theorem gr_65_6 : mm_gr 65 6 = some 71 := by decide +kernel
theorem gr_65_8 : mm_gr 65 8 = some 72 := by decide +kernel
theorem gr_65_9 : mm_gr 65 9 = some 73 := by decide +kernel
theorem gr_61_0 : mm_gr 61 0 = some 65 := by decide +kernel
theorem gr_0_7 : mm_gr 0 7 = some 61 := by decide +kernel
theorem gr_74_1 : mm_gr 74 1 = some 75 := by decide +kernel
theorem gr_74_3 : mm_gr 74 3 = some 76 := by decide +kernel
theorem gr_74_4 : mm_gr 74 4 = some 77 := by decide +kernel
theorem gr_78_1 : mm_gr 78 1 = some 79 := by decide +kernel
theorem gr_78_2 : mm_gr 78 2 = some 80 := by decide +kernel
theorem gr_78_3 : mm_gr 78 3 = some 81 := by decide +kernel
theorem gr_78_4 : mm_gr 78 4 = some 82 := by decide +kernel
theorem gr_78_5 : mm_gr 78 5 = some 83 := by decide +kernel
theorem gr_78_6 : mm_gr 78 6 = some 84 := by decide +kernel
theorem gr_78_8 : mm_gr 78 8 = some 85 := by decide +kernel
theorem gr_78_9 : mm_gr 78 9 = some 86 := by decide +kernel
theorem gr_74_0 : mm_gr 74 0 = some 78 := by decide +kernel
theorem gr_3_0 : mm_gr 3 0 = some 74 := by decide +kernel
theorem gr_87_1 : mm_gr 87 1 = some 88 := by decide +kernel
theorem gr_87_3 : mm_gr 87 3 = some 89 := by decide +kernel
theorem gr_87_4 : mm_gr 87 4 = some 90 := by decide +kernel
theorem gr_91_1 : mm_gr 91 1 = some 92 := by decide +kernel
theorem gr_91_2 : mm_gr 91 2 = some 93 := by decide +kernel
theorem gr_91_3 : mm_gr 91 3 = some 94 := by decide +kernel
theorem gr_91_4 : mm_gr 91 4 = some 95 := by decide +kernel
theorem gr_91_5 : mm_gr 91 5 = some 96 := by decide +kernel
theorem gr_91_6 : mm_gr 91 6 = some 97 := by decide +kernel
theorem gr_91_8 : mm_gr 91 8 = some 98 := by decide +kernel
theorem gr_91_9 : mm_gr 91 9 = some 99 := by decide +kernel
theorem gr_87_0 : mm_gr 87 0 = some 91 := by decide +kernel
theorem gr_3_1 : mm_gr 3 1 = some 87 := by decide +kernel
theorem gr_100_1 : mm_gr 100 1 = some 101 := by decide +kernel
theorem gr_100_3 : mm_gr 100 3 = some 102 := by decide +kernel
theorem gr_100_4 : mm_gr 100 4 = some 103 := by decide +kernel
theorem gr_104_1 : mm_gr 104 1 = some 105 := by decide +kernel
theorem gr_104_2 : mm_gr 104 2 = some 106 := by decide +kernel
theorem gr_104_3 : mm_gr 104 3 = some 107 := by decide +kernel
theorem gr_104_4 : mm_gr 104 4 = some 108 := by decide +kernel
theorem gr_104_5 : mm_gr 104 5 = some 109 := by decide +kernel
theorem gr_104_6 : mm_gr 104 6 = some 110 := by decide +kernel
theorem gr_104_8 : mm_gr 104 8 = some 111 := by decide +kernel
theorem gr_104_9 : mm_gr 104 9 = some 112 := by decide +kernel
theorem gr_100_0 : mm_gr 100 0 = some 104 := by decide +kernel
theorem gr_3_2 : mm_gr 3 2 = some 100 := by decide +kernel
theorem gr_113_1 : mm_gr 113 1 = some 114 := by decide +kernel
theorem gr_113_3 : mm_gr 113 3 = some 115 := by decide +kernel
theorem gr_113_4 : mm_gr 113 4 = some 116 := by decide +kernel
theorem gr_117_1 : mm_gr 117 1 = some 118 := by decide +kernel
theorem gr_117_2 : mm_gr 117 2 = some 119 := by decide +kernel
theorem gr_117_3 : mm_gr 117 3 = some 120 := by decide +kernel
theorem gr_117_4 : mm_gr 117 4 = some 121 := by decide +kernel
theorem gr_117_5 : mm_gr 117 5 = some 122 := by decide +kernel
theorem gr_117_6 : mm_gr 117 6 = some 123 := by decide +kernel
theorem gr_117_8 : mm_gr 117 8 = some 124 := by decide +kernel
theorem gr_117_9 : mm_gr 117 9 = some 125 := by decide +kernel
theorem gr_113_0 : mm_gr 113 0 = some 117 := by decide +kernel
theorem gr_3_3 : mm_gr 3 3 = some 113 := by decide +kernel
theorem gr_126_1 : mm_gr 126 1 = some 127 := by decide +kernel
theorem gr_126_2 : mm_gr 126 2 = some 128 := by decide +kernel
theorem gr_126_3 : mm_gr 126 3 = some 129 := by decide +kernel
theorem gr_126_4 : mm_gr 126 4 = some 130 := by decide +kernel
theorem gr_126_5 : mm_gr 126 5 = some 131 := by decide +kernel
theorem gr_126_6 : mm_gr 126 6 = some 132 := by decide +kernel
theorem gr_126_8 : mm_gr 126 8 = some 133 := by decide +kernel
theorem gr_126_9 : mm_gr 126 9 = some 134 := by decide +kernel
theorem gr_0_9 : mm_gr 0 9 = some 126 := by decide +kernel
theorem gr_135_4 : mm_gr 135 4 = some 136 := by decide +kernel
theorem gr_135_5 : mm_gr 135 5 = some 137 := by decide +kernel
theorem gr_135_7 : mm_gr 135 7 = some 138 := by decide +kernel
theorem gr_135_8 : mm_gr 135 8 = some 139 := by decide +kernel
theorem gr_135_9 : mm_gr 135 9 = some 140 := by decide +kernel
theorem gr_135_10 : mm_gr 135 10 = some 141 := by decide +kernel
theorem gr_135_12 : mm_gr 135 12 = some 142 := by decide +kernel
theorem gr_135_13 : mm_gr 135 13 = some 143 := by decide +kernel
theorem gr_135_14 : mm_gr 135 14 = some 144 := by decide +kernel
theorem gr_0_10 : mm_gr 0 10 = some 135 := by decide +kernel
theorem gr_145_3 : mm_gr 145 3 = some 146 := by decide +kernel
theorem gr_145_4 : mm_gr 145 4 = some 147 := by decide +kernel
theorem gr_145_5 : mm_gr 145 5 = some 148 := by decide +kernel
theorem gr_145_6 : mm_gr 145 6 = some 149 := by decide +kernel
theorem gr_145_7 : mm_gr 145 7 = some 150 := by decide +kernel
theorem gr_145_8 : mm_gr 145 8 = some 151 := by decide +kernel
theorem gr_145_10 : mm_gr 145 10 = some 152 := by decide +kernel
theorem gr_145_11 : mm_gr 145 11 = some 153 := by decide +kernel
theorem gr_145_12 : mm_gr 145 12 = some 154 := by decide +kernel
theorem gr_135_0 : mm_gr 135 0 = some 145 := by decide +kernel
theorem gr_135_1 : mm_gr 135 1 = some 65 := by decide +kernel
theorem gr_145_0 : mm_gr 145 0 = some 65 := by decide +kernel
theorem gr_155_2 : mm_gr 155 2 = some 156 := by decide +kernel
theorem gr_155_3 : mm_gr 155 3 = some 157 := by decide +kernel
theorem gr_155_4 : mm_gr 155 4 = some 158 := by decide +kernel
theorem gr_0_11 : mm_gr 0 11 = some 155 := by decide +kernel
theorem gr_155_0 : mm_gr 155 0 = some 65 := by decide +kernel
theorem gr_155_1 : mm_gr 155 1 = some 135 := by decide +kernel
theorem gr_159_2 : mm_gr 159 2 = some 160 := by decide +kernel
theorem gr_159_3 : mm_gr 159 3 = some 161 := by decide +kernel
theorem gr_159_4 : mm_gr 159 4 = some 162 := by decide +kernel
theorem gr_159_5 : mm_gr 159 5 = some 163 := by decide +kernel
theorem gr_159_6 : mm_gr 159 6 = some 164 := by decide +kernel
theorem gr_0_12 : mm_gr 0 12 = some 159 := by decide +kernel
theorem gr_159_0 : mm_gr 159 0 = some 61 := by decide +kernel
theorem gr_159_1 : mm_gr 159 1 = some 135 := by decide +kernel
theorem gr_165_1 : mm_gr 165 1 = some 166 := by decide +kernel
theorem gr_165_2 : mm_gr 165 2 = some 167 := by decide +kernel
theorem gr_165_3 : mm_gr 165 3 = some 168 := by decide +kernel
theorem gr_165_4 : mm_gr 165 4 = some 169 := by decide +kernel
theorem gr_165_5 : mm_gr 165 5 = some 170 := by decide +kernel
theorem gr_165_6 : mm_gr 165 6 = some 171 := by decide +kernel
theorem gr_165_7 : mm_gr 165 7 = some 172 := by decide +kernel
theorem gr_165_8 : mm_gr 165 8 = some 173 := by decide +kernel
theorem gr_165_9 : mm_gr 165 9 = some 174 := by decide +kernel
theorem gr_165_10 : mm_gr 165 10 = some 175 := by decide +kernel
theorem gr_165_11 : mm_gr 165 11 = some 176 := by decide +kernel
theorem gr_165_12 : mm_gr 165 12 = some 177 := by decide +kernel
theorem gr_165_13 : mm_gr 165 13 = some 178 := by decide +kernel
theorem gr_165_14 : mm_gr 165 14 = some 179 := by decide +kernel
theorem gr_165_15 : mm_gr 165 15 = some 180 := by decide +kernel
theorem gr_165_16 : mm_gr 165 16 = some 181 := by decide +kernel
theorem gr_165_17 : mm_gr 165 17 = some 182 := by decide +kernel
theorem gr_165_18 : mm_gr 165 18 = some 183 := by decide +kernel
theorem gr_165_19 : mm_gr 165 19 = some 184 := by decide +kernel
theorem gr_165_32 : mm_gr 165 32 = some 185 := by decide +kernel
theorem gr_165_33 : mm_gr 165 33 = some 186 := by decide +kernel
theorem gr_165_34 : mm_gr 165 34 = some 187 := by decide +kernel
theorem gr_165_35 : mm_gr 165 35 = some 188 := by decide +kernel
theorem gr_165_36 : mm_gr 165 36 = some 189 := by decide +kernel
theorem gr_165_37 : mm_gr 165 37 = some 190 := by decide +kernel
theorem gr_165_38 : mm_gr 165 38 = some 191 := by decide +kernel
theorem gr_165_39 : mm_gr 165 39 = some 192 := by decide +kernel
theorem gr_165_40 : mm_gr 165 40 = some 193 := by decide +kernel
theorem gr_165_41 : mm_gr 165 41 = some 194 := by decide +kernel
theorem gr_165_42 : mm_gr 165 42 = some 195 := by decide +kernel
theorem gr_165_43 : mm_gr 165 43 = some 196 := by decide +kernel
theorem gr_165_44 : mm_gr 165 44 = some 197 := by decide +kernel
theorem gr_165_45 : mm_gr 165 45 = some 198 := by decide +kernel
theorem gr_165_46 : mm_gr 165 46 = some 199 := by decide +kernel
theorem gr_165_47 : mm_gr 165 47 = some 200 := by decide +kernel
theorem gr_165_48 : mm_gr 165 48 = some 201 := by decide +kernel
theorem gr_165_50 : mm_gr 165 50 = some 202 := by decide +kernel
theorem gr_165_51 : mm_gr 165 51 = some 203 := by decide +kernel
theorem gr_165_52 : mm_gr 165 52 = some 204 := by decide +kernel
theorem gr_165_53 : mm_gr 165 53 = some 205 := by decide +kernel
theorem gr_165_54 : mm_gr 165 54 = some 206 := by decide +kernel
theorem gr_165_57 : mm_gr 165 57 = some 207 := by decide +kernel
theorem gr_165_58 : mm_gr 165 58 = some 208 := by decide +kernel
theorem gr_165_59 : mm_gr 165 59 = some 209 := by decide +kernel
theorem gr_165_60 : mm_gr 165 60 = some 210 := by decide +kernel
theorem gr_165_61 : mm_gr 165 61 = some 211 := by decide +kernel
theorem gr_165_62 : mm_gr 165 62 = some 212 := by decide +kernel
theorem gr_165_63 : mm_gr 165 63 = some 213 := by decide +kernel
theorem gr_165_64 : mm_gr 165 64 = some 214 := by decide +kernel
theorem gr_165_65 : mm_gr 165 65 = some 215 := by decide +kernel
