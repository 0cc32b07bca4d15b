/-! A law's code: tokens, their meaning; Law.put, joined, valueOf, told. -/
def mm_rowL (I : Nat → Nat → Int64) (a : Nat) (f : Nat → Int64) : Nat → Nat → Int64 := fun b => if b = a then f else I b
theorem mm_upL_row {I : Nat → Nat → Int64} {a k : Nat} {f : Nat → Int64} {x : Int64} : mm_upL (mm_rowL I a f) a k x = mm_rowL I a (vp_updL f k x) := by
  funext b
  by_cases h : b = a
  · subst h; simp [mm_upL, mm_rowL]
  · simp [mm_upL, mm_rowL, h]
theorem mm_rowL_self {I : Nat → Nat → Int64} {a : Nat} : mm_rowL I a (I a) = I := by
  funext b
  by_cases h : b = a
  · subst h; simp [mm_rowL]
  · simp [mm_rowL, h]
theorem mm_rowL_s {I : Nat → Nat → Int64} {a : Nat} {f : Nat → Int64} : mm_rowL I a f a = f := by simp [mm_rowL]
theorem mm_rowL_n {I : Nat → Nat → Int64} {a b : Nat} {f : Nat → Int64} (h : b ≠ a) : mm_rowL I a f b = I b := by simp [mm_rowL, h]
theorem mm_rowL_row {I : Nat → Nat → Int64} {a : Nat} {f g : Nat → Int64} : mm_rowL (mm_rowL I a f) a g = mm_rowL I a g := by
  funext b
  by_cases h : b = a
  · subst h; simp [mm_rowL]
  · simp [mm_rowL, h]
theorem mm_upL_eq {I : Nat → Nat → Int64} {a k : Nat} {x : Int64} : mm_upL I a k x = mm_rowL I a (vp_updL (I a) k x) := rfl
theorem lg_e0 (x y : Int64) : (lg_cmp x y = 0) ↔ x = y := by
  unfold lg_cmp
  by_cases h : x > y
  · rw [if_pos h]
    refine ⟨fun z => absurd z (by decide), fun z => ?_⟩
    subst z
    exact absurd (Int64.lt_iff_toInt_lt.mp h) (by omega)
  · rw [if_neg h]
    by_cases e : x = y
    · rw [if_pos e]; exact ⟨fun _ => e, fun _ => rfl⟩
    · rw [if_neg e]; exact ⟨fun z => absurd z (by decide), fun z => absurd z e⟩
/-- two values joined by a sign: 6 + 7 - 8 * 9 / 10 % 11 < 12 <= 13 = 14 >= 15 > 31 and 32 or -/
def jn (k : Nat) (a b : Int64) : Int64 := match k with
  | 6 => a + b
  | 7 => a - b
  | 8 => a * b
  | 9 => if b = 0 then 0 else a / b
  | 10 => if b = 0 then 0 else a - a / b * b
  | 11 => if a < b then 1 else 0
  | 12 => if a ≤ b then 1 else 0
  | 13 => if a = b then 1 else 0
  | 14 => if b ≤ a then 1 else 0
  | 15 => if b < a then 1 else 0
  | 31 => a &&& b
  | _ => a ||| b
def isBin (k : Nat) : Prop := (6 ≤ k ∧ k ≤ 15) ∨ k = 31 ∨ k = 32
set_option maxRecDepth 100000 in
set_option maxHeartbeats 4000000 in
theorem mX3_put (d : Nat) (h : mm_H) (t : Nat) (ht : t < 64) (x : Int64) : mm_M d YX3_put [.ref 149, .int (nI t), .long x] h (some (.int (nI (t + 1)))) (h.1, mm_upL h.2.1 149 t x, h.2.2) := by
  refine mm_M.of [some (.ref 149), some (.int (nI t)), some (.long x), none] rfl rfl (Nat.le_of_ble_eq_true rfl) ?_
  refine mm_iload_n dX3_put_0 rfl rfl ?_
  refine mm_aload_n dX3_put_1 rfl rfl ?_
  refine mm_alenL dX3_put_2 sh_149 ?_
  refine mm_icmp_lt 8 dX3_put_3 (by decide) (fun c_3 => ?_) (fun c_3 => ?_)
  · refine mm_aload_n dX3_put_8 rfl rfl ?_
    refine mm_iload_n dX3_put_9 rfl rfl ?_
    refine mm_lload_n dX3_put_10 rfl rfl ?_
    refine mm_last (t) dX3_put_11 sh_149 rfl (by omega) ?_
    refine mm_iload_n dX3_put_12 rfl rfl ?_
    refine mm_iconst (x := 1) dX3_put_13 (by decide) ?_
    refine mm_iadd dX3_put_14 ?_
    exact mm_iretE dX3_put_15 rfl (nI_succ t).symm rfl
  · exact absurd (nI_lt ht (by decide)) c_3
set_option maxRecDepth 100000 in
set_option maxHeartbeats 4000000 in
theorem mX3_joined_6 (d : Nat) (h : mm_H) (a b : Int64) : mm_M d YX3_joined [.int 6, .long a, .long b] h (some (.long (jn 6 a b))) h := by
  refine mm_M.of [some (.int 6), some (.long a), none, some (.long b), none] rfl rfl (Nat.le_of_ble_eq_true rfl) ?_
  refine mm_iload_n dX3_joined_0 rfl rfl ?_
  refine mm_tableIn (off := 123) 124 dX3_joined_1 (by decide) (by decide) (by decide) (by decide) ?_
  refine mm_lload_n dX3_joined_124 rfl rfl ?_
  refine mm_lload_n dX3_joined_125 rfl rfl ?_
  refine mm_ladd dX3_joined_126 ?_
  exact mm_lretE dX3_joined_127 rfl rfl rfl
set_option maxRecDepth 100000 in
set_option maxHeartbeats 4000000 in
theorem mX3_joined_7 (d : Nat) (h : mm_H) (a b : Int64) : mm_M d YX3_joined [.int 7, .long a, .long b] h (some (.long (jn 7 a b))) h := by
  refine mm_M.of [some (.int 7), some (.long a), none, some (.long b), none] rfl rfl (Nat.le_of_ble_eq_true rfl) ?_
  refine mm_iload_n dX3_joined_0 rfl rfl ?_
  refine mm_tableIn (off := 127) 128 dX3_joined_1 (by decide) (by decide) (by decide) (by decide) ?_
  refine mm_lload_n dX3_joined_128 rfl rfl ?_
  refine mm_lload_n dX3_joined_129 rfl rfl ?_
  refine mm_lsub dX3_joined_130 ?_
  exact mm_lretE dX3_joined_131 rfl rfl rfl
set_option maxRecDepth 100000 in
set_option maxHeartbeats 4000000 in
theorem mX3_joined_8 (d : Nat) (h : mm_H) (a b : Int64) : mm_M d YX3_joined [.int 8, .long a, .long b] h (some (.long (jn 8 a b))) h := by
  refine mm_M.of [some (.int 8), some (.long a), none, some (.long b), none] rfl rfl (Nat.le_of_ble_eq_true rfl) ?_
  refine mm_iload_n dX3_joined_0 rfl rfl ?_
  refine mm_tableIn (off := 131) 132 dX3_joined_1 (by decide) (by decide) (by decide) (by decide) ?_
  refine mm_lload_n dX3_joined_132 rfl rfl ?_
  refine mm_lload_n dX3_joined_133 rfl rfl ?_
  refine mm_lmul dX3_joined_134 ?_
  exact mm_lretE dX3_joined_135 rfl rfl rfl
set_option maxRecDepth 100000 in
set_option maxHeartbeats 4000000 in
theorem mX3_joined_9 (d : Nat) (h : mm_H) (a b : Int64) : mm_M d YX3_joined [.int 9, .long a, .long b] h (some (.long (jn 9 a b))) h := by
  refine mm_M.of [some (.int 9), some (.long a), none, some (.long b), none] rfl rfl (Nat.le_of_ble_eq_true rfl) ?_
  refine mm_iload_n dX3_joined_0 rfl rfl ?_
  refine mm_tableIn (off := 135) 136 dX3_joined_1 (by decide) (by decide) (by decide) (by decide) ?_
  refine mm_lload_n dX3_joined_136 rfl rfl ?_
  refine mm_lconst (x := 0) dX3_joined_137 (by decide) ?_
  refine mm_lcmp dX3_joined_138 ?_
  refine mm_if_ne 146 dX3_joined_139 (by decide) (fun c_139 => ?_) (fun c_139 => ?_)
  · refine mm_lload_n dX3_joined_146 rfl rfl ?_
    refine mm_lload_n dX3_joined_147 rfl rfl ?_
    refine mm_ldiv dX3_joined_148 (fun z => c_139 ((lg_e0 _ _).mpr z)) ?_
    exact mm_lretE dX3_joined_149 rfl (by rw [lg_e0] at c_139; first | exact (if_pos c_139).symm | exact (if_neg c_139).symm) rfl
  · refine mm_lconst (x := 0) dX3_joined_142 (by decide) ?_
    refine mm_goto 149 dX3_joined_143 (by decide) ?_
    exact mm_lretE dX3_joined_149 rfl (by rw [lg_e0] at c_139; first | exact (if_pos c_139).symm | exact (if_neg c_139).symm) rfl
set_option maxRecDepth 100000 in
set_option maxHeartbeats 4000000 in
theorem mX3_joined_10 (d : Nat) (h : mm_H) (a b : Int64) : mm_M d YX3_joined [.int 10, .long a, .long b] h (some (.long (jn 10 a b))) h := by
  refine mm_M.of [some (.int 10), some (.long a), none, some (.long b), none] rfl rfl (Nat.le_of_ble_eq_true rfl) ?_
  refine mm_iload_n dX3_joined_0 rfl rfl ?_
  refine mm_tableIn (off := 149) 150 dX3_joined_1 (by decide) (by decide) (by decide) (by decide) ?_
  refine mm_lload_n dX3_joined_150 rfl rfl ?_
  refine mm_lconst (x := 0) dX3_joined_151 (by decide) ?_
  refine mm_lcmp dX3_joined_152 ?_
  refine mm_if_ne 160 dX3_joined_153 (by decide) (fun c_153 => ?_) (fun c_153 => ?_)
  · refine mm_lload_n dX3_joined_160 rfl rfl ?_
    refine mm_lload_n dX3_joined_161 rfl rfl ?_
    refine mm_lrem dX3_joined_162 (fun z => c_153 ((lg_e0 _ _).mpr z)) ?_
    exact mm_lretE dX3_joined_163 rfl (by rw [lg_e0] at c_153; first | exact (if_pos c_153).symm | exact (if_neg c_153).symm) rfl
  · refine mm_lconst (x := 0) dX3_joined_156 (by decide) ?_
    refine mm_goto 163 dX3_joined_157 (by decide) ?_
    exact mm_lretE dX3_joined_163 rfl (by rw [lg_e0] at c_153; first | exact (if_pos c_153).symm | exact (if_neg c_153).symm) rfl
set_option maxRecDepth 100000 in
set_option maxHeartbeats 4000000 in
theorem mX3_joined_11 (d : Nat) (h : mm_H) (a b : Int64) : mm_M d YX3_joined [.int 11, .long a, .long b] h (some (.long (jn 11 a b))) h := by
  refine mm_M.of [some (.int 11), some (.long a), none, some (.long b), none] rfl rfl (Nat.le_of_ble_eq_true rfl) ?_
  refine mm_iload_n dX3_joined_0 rfl rfl ?_
  refine mm_tableIn (off := 163) 164 dX3_joined_1 (by decide) (by decide) (by decide) (by decide) ?_
  refine mm_lload_n dX3_joined_164 rfl rfl ?_
  refine mm_lload_n dX3_joined_165 rfl rfl ?_
  refine mm_lcmp dX3_joined_166 ?_
  refine mm_if_ge 174 dX3_joined_167 (by decide) (fun c_167 => ?_) (fun c_167 => ?_)
  · refine mm_lconst (x := 0) dX3_joined_174 (by decide) ?_
    exact mm_lretE dX3_joined_175 rfl (by rw [lg_ge] at c_167; simp only [jn]; first | rw [if_pos (by simp only [Int64.le_iff_toInt_le, Int64.lt_iff_toInt_lt] at *; omega)] | rw [if_neg (by simp only [Int64.le_iff_toInt_le, Int64.lt_iff_toInt_lt] at *; omega)]) rfl
  · refine mm_lconst (x := 1) dX3_joined_170 (by decide) ?_
    refine mm_goto 175 dX3_joined_171 (by decide) ?_
    exact mm_lretE dX3_joined_175 rfl (by rw [lg_ge] at c_167; simp only [jn]; first | rw [if_pos (by simp only [Int64.le_iff_toInt_le, Int64.lt_iff_toInt_lt] at *; omega)] | rw [if_neg (by simp only [Int64.le_iff_toInt_le, Int64.lt_iff_toInt_lt] at *; omega)]) rfl
set_option maxRecDepth 100000 in
set_option maxHeartbeats 4000000 in
theorem mX3_joined_12 (d : Nat) (h : mm_H) (a b : Int64) : mm_M d YX3_joined [.int 12, .long a, .long b] h (some (.long (jn 12 a b))) h := by
  refine mm_M.of [some (.int 12), some (.long a), none, some (.long b), none] rfl rfl (Nat.le_of_ble_eq_true rfl) ?_
  refine mm_iload_n dX3_joined_0 rfl rfl ?_
  refine mm_tableIn (off := 175) 176 dX3_joined_1 (by decide) (by decide) (by decide) (by decide) ?_
  refine mm_lload_n dX3_joined_176 rfl rfl ?_
  refine mm_lload_n dX3_joined_177 rfl rfl ?_
  refine mm_lcmp dX3_joined_178 ?_
  refine mm_if_gt 186 dX3_joined_179 (by decide) (fun c_179 => ?_) (fun c_179 => ?_)
  · refine mm_lconst (x := 0) dX3_joined_186 (by decide) ?_
    exact mm_lretE dX3_joined_187 rfl (by rw [lg_gt] at c_179; simp only [jn]; first | rw [if_pos (by simp only [Int64.le_iff_toInt_le, Int64.lt_iff_toInt_lt] at *; omega)] | rw [if_neg (by simp only [Int64.le_iff_toInt_le, Int64.lt_iff_toInt_lt] at *; omega)]) rfl
  · refine mm_lconst (x := 1) dX3_joined_182 (by decide) ?_
    refine mm_goto 187 dX3_joined_183 (by decide) ?_
    exact mm_lretE dX3_joined_187 rfl (by rw [lg_gt] at c_179; simp only [jn]; first | rw [if_pos (by simp only [Int64.le_iff_toInt_le, Int64.lt_iff_toInt_lt] at *; omega)] | rw [if_neg (by simp only [Int64.le_iff_toInt_le, Int64.lt_iff_toInt_lt] at *; omega)]) rfl
set_option maxRecDepth 100000 in
set_option maxHeartbeats 4000000 in
theorem mX3_joined_13 (d : Nat) (h : mm_H) (a b : Int64) : mm_M d YX3_joined [.int 13, .long a, .long b] h (some (.long (jn 13 a b))) h := by
  refine mm_M.of [some (.int 13), some (.long a), none, some (.long b), none] rfl rfl (Nat.le_of_ble_eq_true rfl) ?_
  refine mm_iload_n dX3_joined_0 rfl rfl ?_
  refine mm_tableIn (off := 187) 188 dX3_joined_1 (by decide) (by decide) (by decide) (by decide) ?_
  refine mm_lload_n dX3_joined_188 rfl rfl ?_
  refine mm_lload_n dX3_joined_189 rfl rfl ?_
  refine mm_lcmp dX3_joined_190 ?_
  refine mm_if_ne 198 dX3_joined_191 (by decide) (fun c_191 => ?_) (fun c_191 => ?_)
  · refine mm_lconst (x := 0) dX3_joined_198 (by decide) ?_
    exact mm_lretE dX3_joined_199 rfl (by rw [lg_e0] at c_191; first | exact (if_pos c_191).symm | exact (if_neg c_191).symm) rfl
  · refine mm_lconst (x := 1) dX3_joined_194 (by decide) ?_
    refine mm_goto 199 dX3_joined_195 (by decide) ?_
    exact mm_lretE dX3_joined_199 rfl (by rw [lg_e0] at c_191; first | exact (if_pos c_191).symm | exact (if_neg c_191).symm) rfl
set_option maxRecDepth 100000 in
set_option maxHeartbeats 4000000 in
theorem mX3_joined_14 (d : Nat) (h : mm_H) (a b : Int64) : mm_M d YX3_joined [.int 14, .long a, .long b] h (some (.long (jn 14 a b))) h := by
  refine mm_M.of [some (.int 14), some (.long a), none, some (.long b), none] rfl rfl (Nat.le_of_ble_eq_true rfl) ?_
  refine mm_iload_n dX3_joined_0 rfl rfl ?_
  refine mm_tableIn (off := 199) 200 dX3_joined_1 (by decide) (by decide) (by decide) (by decide) ?_
  refine mm_lload_n dX3_joined_200 rfl rfl ?_
  refine mm_lload_n dX3_joined_201 rfl rfl ?_
  refine mm_lcmp dX3_joined_202 ?_
  refine mm_if_lt 210 dX3_joined_203 (by decide) (fun c_203 => ?_) (fun c_203 => ?_)
  · refine mm_lconst (x := 0) dX3_joined_210 (by decide) ?_
    exact mm_lretE dX3_joined_211 rfl (by rw [lg_lt] at c_203; simp only [jn]; first | rw [if_pos (by simp only [Int64.le_iff_toInt_le, Int64.lt_iff_toInt_lt] at *; omega)] | rw [if_neg (by simp only [Int64.le_iff_toInt_le, Int64.lt_iff_toInt_lt] at *; omega)]) rfl
  · refine mm_lconst (x := 1) dX3_joined_206 (by decide) ?_
    refine mm_goto 211 dX3_joined_207 (by decide) ?_
    exact mm_lretE dX3_joined_211 rfl (by rw [lg_lt] at c_203; simp only [jn]; first | rw [if_pos (by simp only [Int64.le_iff_toInt_le, Int64.lt_iff_toInt_lt] at *; omega)] | rw [if_neg (by simp only [Int64.le_iff_toInt_le, Int64.lt_iff_toInt_lt] at *; omega)]) rfl
set_option maxRecDepth 100000 in
set_option maxHeartbeats 4000000 in
theorem mX3_joined_15 (d : Nat) (h : mm_H) (a b : Int64) : mm_M d YX3_joined [.int 15, .long a, .long b] h (some (.long (jn 15 a b))) h := by
  refine mm_M.of [some (.int 15), some (.long a), none, some (.long b), none] rfl rfl (Nat.le_of_ble_eq_true rfl) ?_
  refine mm_iload_n dX3_joined_0 rfl rfl ?_
  refine mm_tableIn (off := 211) 212 dX3_joined_1 (by decide) (by decide) (by decide) (by decide) ?_
  refine mm_lload_n dX3_joined_212 rfl rfl ?_
  refine mm_lload_n dX3_joined_213 rfl rfl ?_
  refine mm_lcmp dX3_joined_214 ?_
  refine mm_if_le 222 dX3_joined_215 (by decide) (fun c_215 => ?_) (fun c_215 => ?_)
  · refine mm_lconst (x := 0) dX3_joined_222 (by decide) ?_
    exact mm_lretE dX3_joined_223 rfl (by rw [lg_le] at c_215; simp only [jn]; first | rw [if_pos (by simp only [Int64.le_iff_toInt_le, Int64.lt_iff_toInt_lt] at *; omega)] | rw [if_neg (by simp only [Int64.le_iff_toInt_le, Int64.lt_iff_toInt_lt] at *; omega)]) rfl
  · refine mm_lconst (x := 1) dX3_joined_218 (by decide) ?_
    refine mm_goto 223 dX3_joined_219 (by decide) ?_
    exact mm_lretE dX3_joined_223 rfl (by rw [lg_le] at c_215; simp only [jn]; first | rw [if_pos (by simp only [Int64.le_iff_toInt_le, Int64.lt_iff_toInt_lt] at *; omega)] | rw [if_neg (by simp only [Int64.le_iff_toInt_le, Int64.lt_iff_toInt_lt] at *; omega)]) rfl
set_option maxRecDepth 100000 in
set_option maxHeartbeats 4000000 in
theorem mX3_joined_31 (d : Nat) (h : mm_H) (a b : Int64) : mm_M d YX3_joined [.int 31, .long a, .long b] h (some (.long (jn 31 a b))) h := by
  refine mm_M.of [some (.int 31), some (.long a), none, some (.long b), none] rfl rfl (Nat.le_of_ble_eq_true rfl) ?_
  refine mm_iload_n dX3_joined_0 rfl rfl ?_
  refine mm_tableIn (off := 223) 224 dX3_joined_1 (by decide) (by decide) (by decide) (by decide) ?_
  refine mm_lload_n dX3_joined_224 rfl rfl ?_
  refine mm_lload_n dX3_joined_225 rfl rfl ?_
  refine mm_land dX3_joined_226 ?_
  exact mm_lretE dX3_joined_227 rfl rfl rfl
set_option maxRecDepth 100000 in
set_option maxHeartbeats 4000000 in
theorem mX3_joined_32 (d : Nat) (h : mm_H) (a b : Int64) : mm_M d YX3_joined [.int 32, .long a, .long b] h (some (.long (jn 32 a b))) h := by
  refine mm_M.of [some (.int 32), some (.long a), none, some (.long b), none] rfl rfl (Nat.le_of_ble_eq_true rfl) ?_
  refine mm_iload_n dX3_joined_0 rfl rfl ?_
  refine mm_tableIn (off := 227) 228 dX3_joined_1 (by decide) (by decide) (by decide) (by decide) ?_
  refine mm_lload_n dX3_joined_228 rfl rfl ?_
  refine mm_lload_n dX3_joined_229 rfl rfl ?_
  refine mm_lor dX3_joined_230 ?_
  exact mm_lretE dX3_joined_231 rfl rfl rfl
theorem mX3_joined (d : Nat) (h : mm_H) (k : Nat) (hk : isBin k) (a b : Int64) : mm_M d YX3_joined [.int (nI k), .long a, .long b] h (some (.long (jn k a b))) h := by
  rcases (show k = 6 ∨ k = 7 ∨ k = 8 ∨ k = 9 ∨ k = 10 ∨ k = 11 ∨ k = 12 ∨ k = 13 ∨ k = 14 ∨ k = 15 ∨ k = 31 ∨ k = 32 by unfold isBin at hk; omega) with rfl | rfl | rfl | rfl | rfl | rfl | rfl | rfl | rfl | rfl | rfl | rfl
  · exact mX3_joined_6 d h a b
  · exact mX3_joined_7 d h a b
  · exact mX3_joined_8 d h a b
  · exact mX3_joined_9 d h a b
  · exact mX3_joined_10 d h a b
  · exact mX3_joined_11 d h a b
  · exact mX3_joined_12 d h a b
  · exact mX3_joined_13 d h a b
  · exact mX3_joined_14 d h a b
  · exact mX3_joined_15 d h a b
  · exact mX3_joined_31 d h a b
  · exact mX3_joined_32 d h a b
/-- a token: a number below 100000, else 100000 and a word's or sign's kind -/
def enc (t : Nat) : Int32 := if t < 100000 then nI t else -(nI (t - 100000))
/-- how deep the stack is after k tokens -/
def dpt (T : Nat → Nat) (a : Nat) : Nat → Nat
  | 0 => 0
  | k + 1 => if T (a + k) < 100000 ∨ (100016 ≤ T (a + k) ∧ T (a + k) ≤ 100025) then dpt T a k + 1 else if T (a + k) = 100030 then dpt T a k else dpt T a k - 1
/-- a token may stand at this depth -/
def tok_ok (t n : Nat) : Prop := (t < 100000 ∧ n < 60) ∨ (100016 ≤ t ∧ t ≤ 100025 ∧ n < 60) ∨ (t = 100030 ∧ 1 ≤ n) ∨ (100000 ≤ t ∧ isBin (t - 100000) ∧ 2 ≤ n)
/-- the tokens from a to e are a whole value -/
def seg (T : Nat → Nat) (a e : Nat) : Prop := a ≤ e ∧ (∀ k, k < e - a → tok_ok (T (a + k)) (dpt T a k)) ∧ dpt T a (e - a) = 1
/-- the stack after k tokens -/
def evs (w f0 : Nat → Int64) (T : Nat → Nat) (a : Nat) : Nat → (Nat → Int64)
  | 0 => f0
  | k + 1 => if T (a + k) < 100000 then vp_updL (evs w f0 T a k) (dpt T a k) (nI (T (a + k))).toInt64
    else if 100016 ≤ T (a + k) ∧ T (a + k) ≤ 100025 then vp_updL (evs w f0 T a k) (dpt T a k) (w (T (a + k) - 100016))
    else if T (a + k) = 100030 then vp_updL (evs w f0 T a k) (dpt T a k - 1) (1 - evs w f0 T a k (dpt T a k - 1))
    else vp_updL (evs w f0 T a k) (dpt T a k - 2) (jn (T (a + k) - 100000) (evs w f0 T a k (dpt T a k - 2)) (evs w f0 T a k (dpt T a k - 1)))
def val (w : Nat → Int64) (T : Nat → Nat) (a e : Nat) : Int64 := evs w (fun _ => 0) T a (e - a) 0
theorem evs_ind {w f0 g0 : Nat → Int64} {T : Nat → Nat} {a : Nat} : ∀ k, (∀ i, i < k → tok_ok (T (a + i)) (dpt T a i)) → ∀ j, j < dpt T a k → evs w f0 T a k j = evs w g0 T a k j := by
  intro k
  induction k with
  | zero => intro _ j hj; exact absurd hj (Nat.not_lt_zero j)
  | succ k ih =>
    intro hok j hj
    have hk := hok k (Nat.lt_succ_self k)
    have ih := ih (fun i hi => hok i (by omega))
    simp only [evs]
    simp only [dpt] at hj
    by_cases c1 : T (a + k) < 100000
    · rw [if_pos c1, if_pos c1]
      rw [if_pos (Or.inl c1)] at hj
      simp only [vp_updL]
      by_cases e : j = dpt T a k
      · rw [if_pos e, if_pos e]
      · rw [if_neg e, if_neg e]; exact ih j (by omega)
    · rw [if_neg c1, if_neg c1]
      by_cases c2 : 100016 ≤ T (a + k) ∧ T (a + k) ≤ 100025
      · rw [if_pos c2, if_pos c2]
        rw [if_pos (Or.inr c2)] at hj
        simp only [vp_updL]
        by_cases e : j = dpt T a k
        · rw [if_pos e, if_pos e]
        · rw [if_neg e, if_neg e]; exact ih j (by omega)
      · rw [if_neg c2, if_neg c2]
        rw [if_neg (fun z => z.elim c1 c2)] at hj
        by_cases c3 : T (a + k) = 100030
        · rw [if_pos c3, if_pos c3]
          rw [if_pos c3] at hj
          simp only [vp_updL]
          rw [ih (dpt T a k - 1) (by omega)]
          by_cases e : j = dpt T a k - 1
          · rw [if_pos e, if_pos e]
          · rw [if_neg e, if_neg e]; exact ih j hj
        · rw [if_neg c3, if_neg c3]
          rw [if_neg c3] at hj
          have hd : 2 ≤ dpt T a k := by
            rcases hk with z | z | z | z
            · exact absurd z.1 c1
            · exact absurd ⟨z.1, z.2.1⟩ c2
            · exact absurd z.1 c3
            · exact z.2.2
          simp only [vp_updL]
          rw [ih (dpt T a k - 1) (by omega), ih (dpt T a k - 2) (by omega)]
          by_cases e : j = dpt T a k - 2
          · rw [if_pos e, if_pos e]
          · rw [if_neg e, if_neg e]; exact ih j (by omega)
theorem evs_val {w f0 : Nat → Int64} {T : Nat → Nat} {a e : Nat} (hs : seg T a e) : evs w f0 T a (e - a) 0 = val w T a e := evs_ind (e - a) hs.2.1 0 (by rw [hs.2.2]; decide)
theorem neg_toInt {t : Nat} (h : t < 2 ^ 30) : (-(nI t)).toInt = -(t : Int) := by
  have : (-(nI t)) = nI 0 - nI t := by rw [nI_0]; simp
  rw [this, pk_sub_toInt (a := 0) (b := t) (by decide) h]
  omega
theorem nneg (x : Int32) : - -x = x := by simp
set_option maxRecDepth 100000 in
set_option maxHeartbeats 4000000 in
theorem mX3_valueOf (d : Nat) (h : mm_H) (b : Nat) (hb : mm_law b) (T : Nat → Nat) (len : Nat) (hlen : len ≤ 400) (hT : ∀ k, k < len → h.1 (b + 1) k = enc (T k)) (a e : Nat) (hs : seg T a e) (he : e ≤ len) : mm_M (d + 1) YX3_valueOf [.ref b, .int (nI a), .int (nI e), .ref 148, .ref 149] h (some (.long (val (h.2.1 148) T a e))) (h.1, mm_rowL h.2.1 149 (evs (h.2.1 148) (h.2.1 149) T a (e - a)), h.2.2) := by
  refine mm_M.of [some (.ref b), some (.int (nI a)), some (.int (nI e)), some (.ref 148), some (.ref 149), none, none, none] rfl rfl (Nat.le_of_ble_eq_true rfl) ?_
  have hae := hs.1
  have dle : ∀ k, k ≤ e - a → dpt T a k ≤ 60 := by
    intro k
    induction k with
    | zero => intro _; exact Nat.zero_le _
    | succ k ih =>
      intro hk
      have h1 := ih (by omega)
      have h2 := hs.2.1 k (by omega)
      simp only [dpt]
      split
      · rename_i z
        rcases h2 with y | y | y | y
        · omega
        · omega
        · omega
        · have := y.1; have := y.2.1; unfold isBin at this; omega
      · split <;> omega
  have K6 : ∀ i, i ≤ e - a → mm_R (d + 1) YX3_valueOf 6 [some (.ref b), some (.int (nI a)), some (.int (nI e)), some (.ref 148), some (.ref 149), some (.int (nI (dpt T a i))), some (.int (nI (a + i))), none] [] (h.1, mm_rowL h.2.1 149 (evs (h.2.1 148) (h.2.1 149) T a (i)), h.2.2) (some (.long (val (h.2.1 148) T a e))) (h.1, mm_rowL h.2.1 149 (evs (h.2.1 148) (h.2.1 149) T a (e - a)), h.2.2) := by
    refine mm_down (e - a) ?_ (fun i hi ih => ?_)
    · have e1 : a + (e - a) = e := by omega
      rw [e1, hs.2.2]
      refine mm_iload dX3_valueOf_6 rfl ?_
      refine mm_iload_n dX3_valueOf_8 rfl rfl ?_
      refine mm_icmp_ge 151 dX3_valueOf_9 (by decide) (fun c_9 => ?_) (fun c_9 => ?_)
      · refine mm_iload dX3_valueOf_151 rfl ?_
        refine mm_iconst (x := 1) dX3_valueOf_153 (by decide) ?_
        refine mm_icmp_lt 164 dX3_valueOf_154 (by decide) (fun c_154 => ?_) (fun c_154 => ?_)
        · exact absurd c_154 (by decide)
        · refine mm_aload dX3_valueOf_157 rfl ?_
          refine mm_iconst (x := 0) dX3_valueOf_159 (by decide) ?_
          refine mm_lald (0) dX3_valueOf_160 sh_149 rfl (by decide) ?_
          refine mm_goto 165 dX3_valueOf_161 (by decide) ?_
          exact mm_lretE dX3_valueOf_165 rfl (by dsimp only; rw [mm_rowL_s]; exact evs_val hs) rfl
      · exact absurd (nI_le (Nat.le_refl _) (by omega)) c_9
    · have hok := hs.2.1 i hi
      have hd := dle i (by omega)
      have hc : h.1 (b + 1) (a + i) = enc (T (a + i)) := hT (a + i) (by omega)
      have ih2 : ∀ (g : mm_H) (p : Nat) (q : Int32) (k7 : Option Value), g = (h.1, mm_rowL h.2.1 149 (evs (h.2.1 148) (h.2.1 149) T a (i + 1)), h.2.2) → p = dpt T a (i + 1) → q = nI p → mm_R (d + 1) YX3_valueOf 145 [some (.ref b), some (.int (nI a)), some (.int (nI e)), some (.ref 148), some (.ref 149), some (.int q), some (.int (nI (a + i))), k7] [] g (some (.long (val (h.2.1 148) T a e))) (h.1, mm_rowL h.2.1 149 (evs (h.2.1 148) (h.2.1 149) T a (e - a)), h.2.2) := by
        intro g p q k7 hg hp hq
        subst hg; subst hq; subst hp
        refine mm_iinc dX3_valueOf_145 rfl rfl rfl ?_
        refine mm_goto 6 dX3_valueOf_148 (by decide) ?_
        refine mm_lessE (ls' := [some (.ref b), some (.int (nI a)), some (.int (nI e)), some (.ref 148), some (.ref 149), some (.int (nI (dpt T a (i + 1)))), some (.int (nI (a + (i + 1)))), none]) ⟨rfl, rfl, rfl, rfl, rfl, rfl, ?_, trivial⟩ ih
        rw [← Nat.add_assoc, ← nI_inc]
      have hev : evs (h.2.1 148) (h.2.1 149) T a (i + 1) = evs (h.2.1 148) (h.2.1 149) T a (i + 1) := rfl
      conv at hev => rhs; simp only [evs]
      have hdp : dpt T a (i + 1) = dpt T a (i + 1) := rfl
      conv at hdp => rhs; simp only [dpt]
      rcases hok with ⟨t1, t2⟩ | ⟨t1, t2, t3⟩ | ⟨t1, t2⟩ | ⟨t1, t2, t3⟩
      · rw [if_pos t1] at hev
        rw [if_pos (Or.inl t1)] at hdp
        have ek : h.1 (b + 1) (a + i) = nI (T (a + i)) := by rw [hc]; unfold enc; rw [if_pos t1]
        refine mm_iload dX3_valueOf_6 rfl ?_
        refine mm_iload_n dX3_valueOf_8 rfl rfl ?_
        refine mm_icmp_ge 151 dX3_valueOf_9 (by decide) (fun c_9 => ?_) (fun c_9 => ?_)
        · exact absurd c_9 (nI_ge (by omega) (by omega))
        · refine mm_aload_n dX3_valueOf_12 rfl rfl ?_
          refine mm_getS dX3_valueOf_13 fX3_9 hb.1 rfl hb.2.2.2.2.2.2.1 ?_
          refine mm_iload dX3_valueOf_16 rfl ?_
          refine mm_iald (a + i) dX3_valueOf_18 hb.2.1 rfl (by omega) ?_
          refine mm_ineg dX3_valueOf_19 ?_
          refine mm_istore dX3_valueOf_20 (by decide) rfl ?_
          refine mm_iload dX3_valueOf_22 rfl ?_
          refine mm_if_gt 47 dX3_valueOf_24 (by decide) (fun c_24 => ?_) (fun c_24 => ?_)
          · dsimp only at c_24
            rw [ek, Int32.lt_iff_toInt_lt, neg_toInt (by omega), ti_0] at c_24
            omega
          · refine mm_aload dX3_valueOf_27 rfl ?_
            refine mm_iload dX3_valueOf_29 rfl ?_
            refine mm_aload_n dX3_valueOf_31 rfl rfl ?_
            refine mm_getS dX3_valueOf_32 fX3_9 hb.1 rfl hb.2.2.2.2.2.2.1 ?_
            refine mm_iload dX3_valueOf_35 rfl ?_
            refine mm_iald (a + i) dX3_valueOf_37 hb.2.1 rfl (by omega) ?_
            refine mm_i2l dX3_valueOf_38 rfl ?_
            refine mm_cS (Y1 := YX3_put) dX3_valueOf_39 lX3_38 sX3_put (mX3_put d _ (dpt T a i) (by omega) _) rfl rfl (by simp [Value.category]) ?_
            refine mm_istore dX3_valueOf_42 (by decide) rfl ?_
            refine mm_goto 145 dX3_valueOf_44 (by decide) ?_
            refine ih2 _ (dpt T a i + 1) _ _ ?_ hdp.symm rfl
            dsimp only
            rw [ek, mm_upL_row, hev]
      · have ek : -(h.1 (b + 1) (a + i)) = nI (T (a + i) - 100000) := by rw [hc]; unfold enc; rw [if_neg (show ¬ T (a + i) < 100000 by omega), nneg]
        have hbn : ¬ T (a + i) < 100000 := by omega
        rw [if_neg hbn, if_pos ⟨t1, t2⟩] at hev
        rw [if_pos (Or.inr ⟨t1, t2⟩)] at hdp
        have e31 := nI_toInt (show T (a + i) - 100000 < 2 ^ 31 by omega)
        refine mm_iload dX3_valueOf_6 rfl ?_
        refine mm_iload_n dX3_valueOf_8 rfl rfl ?_
        refine mm_icmp_ge 151 dX3_valueOf_9 (by decide) (fun c_9 => ?_) (fun c_9 => ?_)
        · exact absurd c_9 (nI_ge (by omega) (by omega))
        · refine mm_aload_n dX3_valueOf_12 rfl rfl ?_
          refine mm_getS dX3_valueOf_13 fX3_9 hb.1 rfl hb.2.2.2.2.2.2.1 ?_
          refine mm_iload dX3_valueOf_16 rfl ?_
          refine mm_iald (a + i) dX3_valueOf_18 hb.2.1 rfl (by omega) ?_
          refine mm_ineg dX3_valueOf_19 ?_
          refine mm_istore dX3_valueOf_20 (by decide) rfl ?_
          refine mm_cast (ls' := [some (.ref b), some (.int (nI a)), some (.int (nI e)), some (.ref 148), some (.ref 149), some (.int (nI (dpt T a i))), some (.int (nI (a + i))), some (.int (nI (T (a + i) - 100000)))]) (by dsimp only; rw [ek]; rfl) rfl rfl ?_
          refine mm_iload dX3_valueOf_22 rfl ?_
          refine mm_if_gt 47 dX3_valueOf_24 (by decide) (fun c_24 => ?_) (fun c_24 => ?_)
          · refine mm_iload dX3_valueOf_47 rfl ?_
            refine mm_bipush (x := 16) dX3_valueOf_49 (by decide) ?_
            refine mm_icmp_lt 80 dX3_valueOf_51 (by decide) (fun c_51 => ?_) (fun c_51 => ?_)
            · (try dsimp only at c_51)
              (try rw [ek] at c_51)
              exact absurd c_51 (nI_nlt (b := 16) (by omega) (by omega))
            · refine mm_iload dX3_valueOf_54 rfl ?_
              refine mm_bipush (x := 25) dX3_valueOf_56 (by decide) ?_
              refine mm_icmp_gt 80 dX3_valueOf_58 (by decide) (fun c_58 => ?_) (fun c_58 => ?_)
              · (try dsimp only at c_58)
                (try rw [ek] at c_58)
                exact absurd c_58 (nI_nlt (a := 25) (by omega) (by omega))
              · refine mm_aload dX3_valueOf_61 rfl ?_
                refine mm_iload dX3_valueOf_63 rfl ?_
                refine mm_aload_n dX3_valueOf_65 rfl rfl ?_
                refine mm_iload dX3_valueOf_66 rfl ?_
                refine mm_bipush (x := 16) dX3_valueOf_68 (by decide) ?_
                refine mm_isub dX3_valueOf_70 ?_
                refine mm_lald (T (a + i) - 100016) dX3_valueOf_71 sh_148 (by have := pk_sub (a := T (a + i) - 100000) (b := 16) (by omega); rw [show T (a + i) - 100000 - 16 = T (a + i) - 100016 by omega] at this; exact this) (by omega) ?_
                refine mm_cS (Y1 := YX3_put) dX3_valueOf_72 lX3_38 sX3_put (mX3_put d _ (dpt T a i) (by omega) _) rfl rfl (by simp [Value.category]) ?_
                refine mm_istore dX3_valueOf_75 (by decide) rfl ?_
                refine mm_goto 145 dX3_valueOf_77 (by decide) ?_
                refine ih2 _ (dpt T a i + 1) _ _ ?_ hdp.symm rfl
                dsimp only
                rw [mm_rowL_n (show 148 ≠ 149 by decide), mm_upL_row, hev]
          · (try dsimp only at c_24)
            (try rw [ek] at c_24)
            rw [Int32.lt_iff_toInt_lt, e31, ti_0] at c_24
            omega
      · have ek : -(h.1 (b + 1) (a + i)) = nI (T (a + i) - 100000) := by rw [hc]; unfold enc; rw [if_neg (show ¬ T (a + i) < 100000 by omega), nneg]
        have hbn : ¬ T (a + i) < 100000 := by omega
        have hbw : ¬ (100016 ≤ T (a + i) ∧ T (a + i) ≤ 100025) := by omega
        rw [if_neg hbn, if_neg hbw, if_pos t1] at hev
        rw [if_neg (fun z => z.elim hbn hbw), if_pos t1] at hdp
        have e31 := nI_toInt (show T (a + i) - 100000 < 2 ^ 31 by omega)
        rw [t1, show 100030 - 100000 = 30 from rfl] at ek e31
        refine mm_iload dX3_valueOf_6 rfl ?_
        refine mm_iload_n dX3_valueOf_8 rfl rfl ?_
        refine mm_icmp_ge 151 dX3_valueOf_9 (by decide) (fun c_9 => ?_) (fun c_9 => ?_)
        · exact absurd c_9 (nI_ge (by omega) (by omega))
        · refine mm_aload_n dX3_valueOf_12 rfl rfl ?_
          refine mm_getS dX3_valueOf_13 fX3_9 hb.1 rfl hb.2.2.2.2.2.2.1 ?_
          refine mm_iload dX3_valueOf_16 rfl ?_
          refine mm_iald (a + i) dX3_valueOf_18 hb.2.1 rfl (by omega) ?_
          refine mm_ineg dX3_valueOf_19 ?_
          refine mm_istore dX3_valueOf_20 (by decide) rfl ?_
          refine mm_cast (ls' := [some (.ref b), some (.int (nI a)), some (.int (nI e)), some (.ref 148), some (.ref 149), some (.int (nI (dpt T a i))), some (.int (nI (a + i))), some (.int (nI (30)))]) (by dsimp only; rw [ek]; rfl) rfl rfl ?_
          refine mm_iload dX3_valueOf_22 rfl ?_
          refine mm_if_gt 47 dX3_valueOf_24 (by decide) (fun c_24 => ?_) (fun c_24 => ?_)
          · refine mm_iload dX3_valueOf_47 rfl ?_
            refine mm_bipush (x := 16) dX3_valueOf_49 (by decide) ?_
            refine mm_icmp_lt 80 dX3_valueOf_51 (by decide) (fun c_51 => ?_) (fun c_51 => ?_)
            · (try dsimp only at c_51)
              (try rw [ek] at c_51)
              exact absurd c_51 (by decide)
            · refine mm_iload dX3_valueOf_54 rfl ?_
              refine mm_bipush (x := 25) dX3_valueOf_56 (by decide) ?_
              refine mm_icmp_gt 80 dX3_valueOf_58 (by decide) (fun c_58 => ?_) (fun c_58 => ?_)
              · refine mm_iload dX3_valueOf_80 rfl ?_
                refine mm_bipush (x := 30) dX3_valueOf_82 (by decide) ?_
                refine mm_icmp_ne 112 dX3_valueOf_84 (by decide) (fun c_84 => ?_) (fun c_84 => ?_)
                · (try dsimp only at c_84)
                  (try rw [ek] at c_84)
                  exact absurd rfl c_84
                · refine mm_iload dX3_valueOf_87 rfl ?_
                  refine mm_iconst (x := 1) dX3_valueOf_89 (by decide) ?_
                  refine mm_icmp_lt 112 dX3_valueOf_90 (by decide) (fun c_90 => ?_) (fun c_90 => ?_)
                  · exact absurd c_90 (nI_nlt (b := 1) (by omega) (by omega))
                  · refine mm_aload dX3_valueOf_93 rfl ?_
                    refine mm_iload dX3_valueOf_95 rfl ?_
                    refine mm_iconst (x := 1) dX3_valueOf_97 (by decide) ?_
                    refine mm_isub dX3_valueOf_98 ?_
                    refine mm_lconst (x := 1) dX3_valueOf_99 (by decide) ?_
                    refine mm_aload dX3_valueOf_100 rfl ?_
                    refine mm_iload dX3_valueOf_102 rfl ?_
                    refine mm_iconst (x := 1) dX3_valueOf_104 (by decide) ?_
                    refine mm_isub dX3_valueOf_105 ?_
                    refine mm_lald (dpt T a i - 1) dX3_valueOf_106 sh_149 (pk_sub (a := dpt T a i) (b := 1) t2) (by omega) ?_
                    refine mm_lsub dX3_valueOf_107 ?_
                    refine mm_last (dpt T a i - 1) dX3_valueOf_108 sh_149 (pk_sub (a := dpt T a i) (b := 1) t2) (by omega) ?_
                    refine mm_goto 145 dX3_valueOf_109 (by decide) ?_
                    refine ih2 _ (dpt T a i) _ _ ?_ hdp.symm rfl
                    dsimp only
                    rw [mm_upL_row, mm_rowL_s, hev]
              · (try dsimp only at c_58)
                (try rw [ek] at c_58)
                exact absurd (by decide) c_58
          · (try dsimp only at c_24)
            (try rw [ek] at c_24)
            exact absurd (by decide) c_24
      · have ek : -(h.1 (b + 1) (a + i)) = nI (T (a + i) - 100000) := by rw [hc]; unfold enc; rw [if_neg (show ¬ T (a + i) < 100000 by omega), nneg]
        have hbn : ¬ T (a + i) < 100000 := by omega
        have hib := t2
        unfold isBin at hib
        have hbw : ¬ (100016 ≤ T (a + i) ∧ T (a + i) ≤ 100025) := by omega
        have hb3 : ¬ T (a + i) = 100030 := by omega
        rw [if_neg hbn, if_neg hbw, if_neg hb3] at hev
        rw [if_neg (fun z => z.elim hbn hbw), if_neg hb3] at hdp
        have ed1 : nI (dpt T a i) + Int32.ofInt (-1) = nI (dpt T a i - 1) := by
          obtain ⟨w, hw⟩ : ∃ w, dpt T a i = w + 1 := ⟨dpt T a i - 1, by omega⟩
          rw [hw]; exact pk_m1 w
        have ed2 : nI (dpt T a i) + Int32.ofInt (-1) - 1 = nI (dpt T a i - 2) := by
          rw [ed1]; have := pk_sub (a := dpt T a i - 1) (b := 1) (by omega); rw [show dpt T a i - 1 - 1 = dpt T a i - 2 by omega] at this; exact this
        have e31 := nI_toInt (show T (a + i) - 100000 < 2 ^ 31 by omega)
        refine mm_iload dX3_valueOf_6 rfl ?_
        refine mm_iload_n dX3_valueOf_8 rfl rfl ?_
        refine mm_icmp_ge 151 dX3_valueOf_9 (by decide) (fun c_9 => ?_) (fun c_9 => ?_)
        · exact absurd c_9 (nI_ge (by omega) (by omega))
        · refine mm_aload_n dX3_valueOf_12 rfl rfl ?_
          refine mm_getS dX3_valueOf_13 fX3_9 hb.1 rfl hb.2.2.2.2.2.2.1 ?_
          refine mm_iload dX3_valueOf_16 rfl ?_
          refine mm_iald (a + i) dX3_valueOf_18 hb.2.1 rfl (by omega) ?_
          refine mm_ineg dX3_valueOf_19 ?_
          refine mm_istore dX3_valueOf_20 (by decide) rfl ?_
          refine mm_cast (ls' := [some (.ref b), some (.int (nI a)), some (.int (nI e)), some (.ref 148), some (.ref 149), some (.int (nI (dpt T a i))), some (.int (nI (a + i))), some (.int (nI (T (a + i) - 100000)))]) (by dsimp only; rw [ek]; rfl) rfl rfl ?_
          refine mm_iload dX3_valueOf_22 rfl ?_
          refine mm_if_gt 47 dX3_valueOf_24 (by decide) (fun c_24 => ?_) (fun c_24 => ?_)
          · refine mm_iload dX3_valueOf_47 rfl ?_
            refine mm_bipush (x := 16) dX3_valueOf_49 (by decide) ?_
            refine mm_icmp_lt 80 dX3_valueOf_51 (by decide) (fun c_51 => ?_) (fun c_51 => ?_)
            · refine mm_iload dX3_valueOf_80 rfl ?_
              refine mm_bipush (x := 30) dX3_valueOf_82 (by decide) ?_
              refine mm_icmp_ne 112 dX3_valueOf_84 (by decide) (fun c_84 => ?_) (fun c_84 => ?_)
              · refine mm_iload dX3_valueOf_112 rfl ?_
                refine mm_iconst (x := 2) dX3_valueOf_114 (by decide) ?_
                refine mm_icmp_lt 145 dX3_valueOf_115 (by decide) (fun c_115 => ?_) (fun c_115 => ?_)
                · exact absurd c_115 (nI_nlt (b := 2) (by omega) (by omega))
                · refine mm_iinc dX3_valueOf_118 rfl rfl rfl ?_
                  refine mm_aload dX3_valueOf_121 rfl ?_
                  refine mm_iload dX3_valueOf_123 rfl ?_
                  refine mm_iconst (x := 1) dX3_valueOf_125 (by decide) ?_
                  refine mm_isub dX3_valueOf_126 ?_
                  refine mm_iload dX3_valueOf_127 rfl ?_
                  refine mm_aload dX3_valueOf_129 rfl ?_
                  refine mm_iload dX3_valueOf_131 rfl ?_
                  refine mm_iconst (x := 1) dX3_valueOf_133 (by decide) ?_
                  refine mm_isub dX3_valueOf_134 ?_
                  refine mm_lald (dpt T a i - 2) dX3_valueOf_135 sh_149 ed2 (by omega) ?_
                  refine mm_aload dX3_valueOf_136 rfl ?_
                  refine mm_iload dX3_valueOf_138 rfl ?_
                  refine mm_lald (dpt T a i - 1) dX3_valueOf_140 sh_149 ed1 (by omega) ?_
                  refine mm_cS (Y1 := YX3_joined) dX3_valueOf_141 lX3_44 sX3_joined (mX3_joined d _ (T (a + i) - 100000) t2 _ _) rfl rfl (by simp [Value.category]) ?_
                  refine mm_last (dpt T a i - 2) dX3_valueOf_144 sh_149 ed2 (by omega) ?_
                  refine ih2 _ (dpt T a i - 1) _ _ ?_ hdp.symm ed1
                  dsimp only
                  rw [mm_upL_row, mm_rowL_s, hev]
              · (try dsimp only at c_84)
                (try rw [ek] at c_84)
                have z1 := nI_inj (a := T (a + i) - 100000) (b := 30) (by omega) (by omega) c_84
                omega
            · refine mm_iload dX3_valueOf_54 rfl ?_
              refine mm_bipush (x := 25) dX3_valueOf_56 (by decide) ?_
              refine mm_icmp_gt 80 dX3_valueOf_58 (by decide) (fun c_58 => ?_) (fun c_58 => ?_)
              · refine mm_iload dX3_valueOf_80 rfl ?_
                refine mm_bipush (x := 30) dX3_valueOf_82 (by decide) ?_
                refine mm_icmp_ne 112 dX3_valueOf_84 (by decide) (fun c_84 => ?_) (fun c_84 => ?_)
                · refine mm_iload dX3_valueOf_112 rfl ?_
                  refine mm_iconst (x := 2) dX3_valueOf_114 (by decide) ?_
                  refine mm_icmp_lt 145 dX3_valueOf_115 (by decide) (fun c_115 => ?_) (fun c_115 => ?_)
                  · exact absurd c_115 (nI_nlt (b := 2) (by omega) (by omega))
                  · refine mm_iinc dX3_valueOf_118 rfl rfl rfl ?_
                    refine mm_aload dX3_valueOf_121 rfl ?_
                    refine mm_iload dX3_valueOf_123 rfl ?_
                    refine mm_iconst (x := 1) dX3_valueOf_125 (by decide) ?_
                    refine mm_isub dX3_valueOf_126 ?_
                    refine mm_iload dX3_valueOf_127 rfl ?_
                    refine mm_aload dX3_valueOf_129 rfl ?_
                    refine mm_iload dX3_valueOf_131 rfl ?_
                    refine mm_iconst (x := 1) dX3_valueOf_133 (by decide) ?_
                    refine mm_isub dX3_valueOf_134 ?_
                    refine mm_lald (dpt T a i - 2) dX3_valueOf_135 sh_149 ed2 (by omega) ?_
                    refine mm_aload dX3_valueOf_136 rfl ?_
                    refine mm_iload dX3_valueOf_138 rfl ?_
                    refine mm_lald (dpt T a i - 1) dX3_valueOf_140 sh_149 ed1 (by omega) ?_
                    refine mm_cS (Y1 := YX3_joined) dX3_valueOf_141 lX3_44 sX3_joined (mX3_joined d _ (T (a + i) - 100000) t2 _ _) rfl rfl (by simp [Value.category]) ?_
                    refine mm_last (dpt T a i - 2) dX3_valueOf_144 sh_149 ed2 (by omega) ?_
                    refine ih2 _ (dpt T a i - 1) _ _ ?_ hdp.symm ed1
                    dsimp only
                    rw [mm_upL_row, mm_rowL_s, hev]
                · (try dsimp only at c_84)
                  (try rw [ek] at c_84)
                  have z1 := nI_inj (a := T (a + i) - 100000) (b := 30) (by omega) (by omega) c_84
                  omega
              · (try dsimp only at c_51 c_58)
                (try rw [ek] at c_51 c_58)
                have z1 : ¬ T (a + i) - 100000 < 16 := fun z => c_51 (nI_lt (b := 16) z (by decide))
                have z2 : ¬ 25 < T (a + i) - 100000 := fun z => c_58 (nI_lt (a := 25) z (by omega))
                omega
          · (try dsimp only at c_24)
            (try rw [ek] at c_24)
            rw [Int32.lt_iff_toInt_lt, e31, ti_0] at c_24
            omega
  refine mm_iconst (x := 0) dX3_valueOf_0 (by decide) ?_
  refine mm_istore dX3_valueOf_1 (by decide) rfl ?_
  refine mm_iload_n dX3_valueOf_3 rfl rfl ?_
  refine mm_istore dX3_valueOf_4 (by decide) rfl ?_
  exact mm_cast rfl rfl (by rw [show evs (h.2.1 148) (h.2.1 149) T a 0 = h.2.1 149 from rfl, mm_rowL_self]) (K6 0 (Nat.zero_le _))
