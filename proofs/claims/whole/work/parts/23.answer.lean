/-! The reference's truth, both, answer, sound. -/
set_option maxRecDepth 100000 in
set_option maxHeartbeats 4000000 in
theorem mX11_truth_1 (d : Nat) (h : mm_H) : mm_M d YX11_truth [.int 1] h (some (.long 1)) h := by
  refine mm_M.of [some (.int 1)] rfl rfl (Nat.le_of_ble_eq_true rfl) ?_
  refine mm_iload_n dX11_truth_0 rfl rfl ?_
  refine mm_if_eq 8 dX11_truth_1 (by decide) (fun c_1 => ?_) (fun c_1 => ?_)
  · exact absurd c_1 (by decide)
  · refine mm_lconst (x := 1) dX11_truth_4 (by decide) ?_
    refine mm_goto 9 dX11_truth_5 (by decide) ?_
    exact mm_lretE dX11_truth_9 rfl rfl rfl
set_option maxRecDepth 100000 in
set_option maxHeartbeats 4000000 in
theorem mX11_truth_0 (d : Nat) (h : mm_H) : mm_M d YX11_truth [.int 0] h (some (.long 0)) h := by
  refine mm_M.of [some (.int 0)] rfl rfl (Nat.le_of_ble_eq_true rfl) ?_
  refine mm_iload_n dX11_truth_0 rfl rfl ?_
  refine mm_if_eq 8 dX11_truth_1 (by decide) (fun c_1 => ?_) (fun c_1 => ?_)
  · refine mm_lconst (x := 0) dX11_truth_8 (by decide) ?_
    exact mm_lretE dX11_truth_9 rfl rfl rfl
  · exact absurd rfl c_1
set_option maxRecDepth 100000 in
set_option maxHeartbeats 4000000 in
theorem mX11_both_2 (d : Nat) (h : mm_H) (a b : Int64) : mm_M (d + 1) YX11_both [.int 2, .long a, .long b] h (some (.long (jn 6 a b))) h := by
  refine mm_M.of [some (.int 2), some (.long a), none, some (.long b), none] rfl rfl (Nat.le_of_ble_eq_true rfl) ?_
  refine mm_iload_n dX11_both_0 rfl rfl ?_
  refine mm_tableIn (off := 71) 72 dX11_both_1 (by decide) (by decide) (by decide) (by decide) ?_
  refine mm_lload_n dX11_both_72 rfl rfl ?_
  refine mm_lload_n dX11_both_73 rfl rfl ?_
  refine mm_ladd dX11_both_74 ?_
  exact mm_lretE dX11_both_75 rfl rfl rfl
set_option maxRecDepth 100000 in
set_option maxHeartbeats 4000000 in
theorem mX11_both_3 (d : Nat) (h : mm_H) (a b : Int64) : mm_M (d + 1) YX11_both [.int 3, .long a, .long b] h (some (.long (jn 7 a b))) h := by
  refine mm_M.of [some (.int 3), some (.long a), none, some (.long b), none] rfl rfl (Nat.le_of_ble_eq_true rfl) ?_
  refine mm_iload_n dX11_both_0 rfl rfl ?_
  refine mm_tableIn (off := 75) 76 dX11_both_1 (by decide) (by decide) (by decide) (by decide) ?_
  refine mm_lload_n dX11_both_76 rfl rfl ?_
  refine mm_lload_n dX11_both_77 rfl rfl ?_
  refine mm_lsub dX11_both_78 ?_
  exact mm_lretE dX11_both_79 rfl rfl rfl
set_option maxRecDepth 100000 in
set_option maxHeartbeats 4000000 in
theorem mX11_both_13 (d : Nat) (h : mm_H) (a b : Int64) : mm_M (d + 1) YX11_both [.int 13, .long a, .long b] h (some (.long (jn 8 a b))) h := by
  refine mm_M.of [some (.int 13), some (.long a), none, some (.long b), none] rfl rfl (Nat.le_of_ble_eq_true rfl) ?_
  refine mm_iload_n dX11_both_0 rfl rfl ?_
  refine mm_tableIn (off := 79) 80 dX11_both_1 (by decide) (by decide) (by decide) (by decide) ?_
  refine mm_lload_n dX11_both_80 rfl rfl ?_
  refine mm_lload_n dX11_both_81 rfl rfl ?_
  refine mm_lmul dX11_both_82 ?_
  exact mm_lretE dX11_both_83 rfl rfl rfl
set_option maxRecDepth 100000 in
set_option maxHeartbeats 4000000 in
theorem mX11_both_14 (d : Nat) (h : mm_H) (a b : Int64) : mm_M (d + 1) YX11_both [.int 14, .long a, .long b] h (some (.long (jn 9 a b))) h := by
  refine mm_M.of [some (.int 14), some (.long a), none, some (.long b), none] rfl rfl (Nat.le_of_ble_eq_true rfl) ?_
  refine mm_iload_n dX11_both_0 rfl rfl ?_
  refine mm_tableIn (off := 83) 84 dX11_both_1 (by decide) (by decide) (by decide) (by decide) ?_
  refine mm_lload_n dX11_both_84 rfl rfl ?_
  refine mm_lconst (x := 0) dX11_both_85 (by decide) ?_
  refine mm_lcmp dX11_both_86 ?_
  refine mm_if_ne 94 dX11_both_87 (by decide) (fun c_87 => ?_) (fun c_87 => ?_)
  · refine mm_lload_n dX11_both_94 rfl rfl ?_
    refine mm_lload_n dX11_both_95 rfl rfl ?_
    refine mm_ldiv dX11_both_96 (fun z => c_87 ((lg_e0 _ _).mpr z)) ?_
    exact mm_lretE dX11_both_97 rfl (by rw [lg_e0] at c_87; first | exact (if_pos c_87).symm | exact (if_neg c_87).symm) rfl
  · refine mm_lconst (x := 0) dX11_both_90 (by decide) ?_
    refine mm_goto 97 dX11_both_91 (by decide) ?_
    exact mm_lretE dX11_both_97 rfl (by rw [lg_e0] at c_87; first | exact (if_pos c_87).symm | exact (if_neg c_87).symm) rfl
set_option maxRecDepth 100000 in
set_option maxHeartbeats 4000000 in
theorem mX11_both_15 (d : Nat) (h : mm_H) (a b : Int64) : mm_M (d + 1) YX11_both [.int 15, .long a, .long b] h (some (.long (jn 10 a b))) h := by
  refine mm_M.of [some (.int 15), some (.long a), none, some (.long b), none] rfl rfl (Nat.le_of_ble_eq_true rfl) ?_
  refine mm_iload_n dX11_both_0 rfl rfl ?_
  refine mm_tableIn (off := 97) 98 dX11_both_1 (by decide) (by decide) (by decide) (by decide) ?_
  refine mm_lload_n dX11_both_98 rfl rfl ?_
  refine mm_lconst (x := 0) dX11_both_99 (by decide) ?_
  refine mm_lcmp dX11_both_100 ?_
  refine mm_if_ne 108 dX11_both_101 (by decide) (fun c_101 => ?_) (fun c_101 => ?_)
  · refine mm_lload_n dX11_both_108 rfl rfl ?_
    refine mm_lload_n dX11_both_109 rfl rfl ?_
    refine mm_lrem dX11_both_110 (fun z => c_101 ((lg_e0 _ _).mpr z)) ?_
    exact mm_lretE dX11_both_111 rfl (by rw [lg_e0] at c_101; first | exact (if_pos c_101).symm | exact (if_neg c_101).symm) rfl
  · refine mm_lconst (x := 0) dX11_both_104 (by decide) ?_
    refine mm_goto 111 dX11_both_105 (by decide) ?_
    exact mm_lretE dX11_both_111 rfl (by rw [lg_e0] at c_101; first | exact (if_pos c_101).symm | exact (if_neg c_101).symm) rfl
set_option maxRecDepth 100000 in
set_option maxHeartbeats 4000000 in
theorem mX11_both_4 (d : Nat) (h : mm_H) (a b : Int64) : mm_M (d + 1) YX11_both [.int 4, .long a, .long b] h (some (.long (jn 11 a b))) h := by
  refine mm_M.of [some (.int 4), some (.long a), none, some (.long b), none] rfl rfl (Nat.le_of_ble_eq_true rfl) ?_
  refine mm_iload_n dX11_both_0 rfl rfl ?_
  refine mm_tableIn (off := 111) 112 dX11_both_1 (by decide) (by decide) (by decide) (by decide) ?_
  refine mm_lload_n dX11_both_112 rfl rfl ?_
  refine mm_lload_n dX11_both_113 rfl rfl ?_
  refine mm_lcmp dX11_both_114 ?_
  refine mm_if_ge 122 dX11_both_115 (by decide) (fun c_115 => ?_) (fun c_115 => ?_)
  · refine mm_iconst (x := 0) dX11_both_122 (by decide) ?_
    refine mm_cS (Y1 := YX11_truth) dX11_both_123 lX11_353 sX11_truth (mX11_truth_0 d h) rfl rfl (by simp [Value.category]) ?_
    exact mm_lretE dX11_both_126 rfl (by rw [lg_ge] at c_115; simp only [jn]; first | rw [if_pos (by simp only [Int64.le_iff_toInt_le, Int64.lt_iff_toInt_lt] at *; omega)] | rw [if_neg (by simp only [Int64.le_iff_toInt_le, Int64.lt_iff_toInt_lt] at *; omega)]) rfl
  · refine mm_iconst (x := 1) dX11_both_118 (by decide) ?_
    refine mm_goto 123 dX11_both_119 (by decide) ?_
    refine mm_cS (Y1 := YX11_truth) dX11_both_123 lX11_353 sX11_truth (mX11_truth_1 d h) rfl rfl (by simp [Value.category]) ?_
    exact mm_lretE dX11_both_126 rfl (by rw [lg_ge] at c_115; simp only [jn]; first | rw [if_pos (by simp only [Int64.le_iff_toInt_le, Int64.lt_iff_toInt_lt] at *; omega)] | rw [if_neg (by simp only [Int64.le_iff_toInt_le, Int64.lt_iff_toInt_lt] at *; omega)]) rfl
set_option maxRecDepth 100000 in
set_option maxHeartbeats 4000000 in
theorem mX11_both_5 (d : Nat) (h : mm_H) (a b : Int64) : mm_M (d + 1) YX11_both [.int 5, .long a, .long b] h (some (.long (jn 12 a b))) h := by
  refine mm_M.of [some (.int 5), some (.long a), none, some (.long b), none] rfl rfl (Nat.le_of_ble_eq_true rfl) ?_
  refine mm_iload_n dX11_both_0 rfl rfl ?_
  refine mm_tableIn (off := 126) 127 dX11_both_1 (by decide) (by decide) (by decide) (by decide) ?_
  refine mm_lload_n dX11_both_127 rfl rfl ?_
  refine mm_lload_n dX11_both_128 rfl rfl ?_
  refine mm_lcmp dX11_both_129 ?_
  refine mm_if_gt 137 dX11_both_130 (by decide) (fun c_130 => ?_) (fun c_130 => ?_)
  · refine mm_iconst (x := 0) dX11_both_137 (by decide) ?_
    refine mm_cS (Y1 := YX11_truth) dX11_both_138 lX11_353 sX11_truth (mX11_truth_0 d h) rfl rfl (by simp [Value.category]) ?_
    exact mm_lretE dX11_both_141 rfl (by rw [lg_gt] at c_130; simp only [jn]; first | rw [if_pos (by simp only [Int64.le_iff_toInt_le, Int64.lt_iff_toInt_lt] at *; omega)] | rw [if_neg (by simp only [Int64.le_iff_toInt_le, Int64.lt_iff_toInt_lt] at *; omega)]) rfl
  · refine mm_iconst (x := 1) dX11_both_133 (by decide) ?_
    refine mm_goto 138 dX11_both_134 (by decide) ?_
    refine mm_cS (Y1 := YX11_truth) dX11_both_138 lX11_353 sX11_truth (mX11_truth_1 d h) rfl rfl (by simp [Value.category]) ?_
    exact mm_lretE dX11_both_141 rfl (by rw [lg_gt] at c_130; simp only [jn]; first | rw [if_pos (by simp only [Int64.le_iff_toInt_le, Int64.lt_iff_toInt_lt] at *; omega)] | rw [if_neg (by simp only [Int64.le_iff_toInt_le, Int64.lt_iff_toInt_lt] at *; omega)]) rfl
set_option maxRecDepth 100000 in
set_option maxHeartbeats 4000000 in
theorem mX11_both_6 (d : Nat) (h : mm_H) (a b : Int64) : mm_M (d + 1) YX11_both [.int 6, .long a, .long b] h (some (.long (jn 13 a b))) h := by
  refine mm_M.of [some (.int 6), some (.long a), none, some (.long b), none] rfl rfl (Nat.le_of_ble_eq_true rfl) ?_
  refine mm_iload_n dX11_both_0 rfl rfl ?_
  refine mm_tableIn (off := 141) 142 dX11_both_1 (by decide) (by decide) (by decide) (by decide) ?_
  refine mm_lload_n dX11_both_142 rfl rfl ?_
  refine mm_lload_n dX11_both_143 rfl rfl ?_
  refine mm_lcmp dX11_both_144 ?_
  refine mm_if_ne 152 dX11_both_145 (by decide) (fun c_145 => ?_) (fun c_145 => ?_)
  · refine mm_iconst (x := 0) dX11_both_152 (by decide) ?_
    refine mm_cS (Y1 := YX11_truth) dX11_both_153 lX11_353 sX11_truth (mX11_truth_0 d h) rfl rfl (by simp [Value.category]) ?_
    exact mm_lretE dX11_both_156 rfl (by rw [lg_e0] at c_145; simp only [jn]; first | rw [if_pos c_145] | rw [if_neg c_145]) rfl
  · refine mm_iconst (x := 1) dX11_both_148 (by decide) ?_
    refine mm_goto 153 dX11_both_149 (by decide) ?_
    refine mm_cS (Y1 := YX11_truth) dX11_both_153 lX11_353 sX11_truth (mX11_truth_1 d h) rfl rfl (by simp [Value.category]) ?_
    exact mm_lretE dX11_both_156 rfl (by rw [lg_e0] at c_145; simp only [jn]; first | rw [if_pos c_145] | rw [if_neg c_145]) rfl
set_option maxRecDepth 100000 in
set_option maxHeartbeats 4000000 in
theorem mX11_both_7 (d : Nat) (h : mm_H) (a b : Int64) : mm_M (d + 1) YX11_both [.int 7, .long a, .long b] h (some (.long (jn 14 a b))) h := by
  refine mm_M.of [some (.int 7), some (.long a), none, some (.long b), none] rfl rfl (Nat.le_of_ble_eq_true rfl) ?_
  refine mm_iload_n dX11_both_0 rfl rfl ?_
  refine mm_tableIn (off := 156) 157 dX11_both_1 (by decide) (by decide) (by decide) (by decide) ?_
  refine mm_lload_n dX11_both_157 rfl rfl ?_
  refine mm_lload_n dX11_both_158 rfl rfl ?_
  refine mm_lcmp dX11_both_159 ?_
  refine mm_if_lt 167 dX11_both_160 (by decide) (fun c_160 => ?_) (fun c_160 => ?_)
  · refine mm_iconst (x := 0) dX11_both_167 (by decide) ?_
    refine mm_cS (Y1 := YX11_truth) dX11_both_168 lX11_353 sX11_truth (mX11_truth_0 d h) rfl rfl (by simp [Value.category]) ?_
    exact mm_lretE dX11_both_171 rfl (by rw [lg_lt] at c_160; simp only [jn]; first | rw [if_pos (by simp only [Int64.le_iff_toInt_le, Int64.lt_iff_toInt_lt] at *; omega)] | rw [if_neg (by simp only [Int64.le_iff_toInt_le, Int64.lt_iff_toInt_lt] at *; omega)]) rfl
  · refine mm_iconst (x := 1) dX11_both_163 (by decide) ?_
    refine mm_goto 168 dX11_both_164 (by decide) ?_
    refine mm_cS (Y1 := YX11_truth) dX11_both_168 lX11_353 sX11_truth (mX11_truth_1 d h) rfl rfl (by simp [Value.category]) ?_
    exact mm_lretE dX11_both_171 rfl (by rw [lg_lt] at c_160; simp only [jn]; first | rw [if_pos (by simp only [Int64.le_iff_toInt_le, Int64.lt_iff_toInt_lt] at *; omega)] | rw [if_neg (by simp only [Int64.le_iff_toInt_le, Int64.lt_iff_toInt_lt] at *; omega)]) rfl
set_option maxRecDepth 100000 in
set_option maxHeartbeats 4000000 in
theorem mX11_both_8 (d : Nat) (h : mm_H) (a b : Int64) : mm_M (d + 1) YX11_both [.int 8, .long a, .long b] h (some (.long (jn 15 a b))) h := by
  refine mm_M.of [some (.int 8), some (.long a), none, some (.long b), none] rfl rfl (Nat.le_of_ble_eq_true rfl) ?_
  refine mm_iload_n dX11_both_0 rfl rfl ?_
  refine mm_tableIn (off := 171) 172 dX11_both_1 (by decide) (by decide) (by decide) (by decide) ?_
  refine mm_lload_n dX11_both_172 rfl rfl ?_
  refine mm_lload_n dX11_both_173 rfl rfl ?_
  refine mm_lcmp dX11_both_174 ?_
  refine mm_if_le 182 dX11_both_175 (by decide) (fun c_175 => ?_) (fun c_175 => ?_)
  · refine mm_iconst (x := 0) dX11_both_182 (by decide) ?_
    refine mm_cS (Y1 := YX11_truth) dX11_both_183 lX11_353 sX11_truth (mX11_truth_0 d h) rfl rfl (by simp [Value.category]) ?_
    exact mm_lretE dX11_both_186 rfl (by rw [lg_le] at c_175; simp only [jn]; first | rw [if_pos (by simp only [Int64.le_iff_toInt_le, Int64.lt_iff_toInt_lt] at *; omega)] | rw [if_neg (by simp only [Int64.le_iff_toInt_le, Int64.lt_iff_toInt_lt] at *; omega)]) rfl
  · refine mm_iconst (x := 1) dX11_both_178 (by decide) ?_
    refine mm_goto 183 dX11_both_179 (by decide) ?_
    refine mm_cS (Y1 := YX11_truth) dX11_both_183 lX11_353 sX11_truth (mX11_truth_1 d h) rfl rfl (by simp [Value.category]) ?_
    exact mm_lretE dX11_both_186 rfl (by rw [lg_le] at c_175; simp only [jn]; first | rw [if_pos (by simp only [Int64.le_iff_toInt_le, Int64.lt_iff_toInt_lt] at *; omega)] | rw [if_neg (by simp only [Int64.le_iff_toInt_le, Int64.lt_iff_toInt_lt] at *; omega)]) rfl
set_option maxRecDepth 100000 in
set_option maxHeartbeats 4000000 in
theorem mX11_both_10 (d : Nat) (h : mm_H) (a b : Int64) : mm_M (d + 1) YX11_both [.int 10, .long a, .long b] h (some (.long (jn 31 a b))) h := by
  refine mm_M.of [some (.int 10), some (.long a), none, some (.long b), none] rfl rfl (Nat.le_of_ble_eq_true rfl) ?_
  refine mm_iload_n dX11_both_0 rfl rfl ?_
  refine mm_tableIn (off := 186) 187 dX11_both_1 (by decide) (by decide) (by decide) (by decide) ?_
  refine mm_lload_n dX11_both_187 rfl rfl ?_
  refine mm_lload_n dX11_both_188 rfl rfl ?_
  refine mm_land dX11_both_189 ?_
  exact mm_lretE dX11_both_190 rfl rfl rfl
set_option maxRecDepth 100000 in
set_option maxHeartbeats 4000000 in
theorem mX11_both_11 (d : Nat) (h : mm_H) (a b : Int64) : mm_M (d + 1) YX11_both [.int 11, .long a, .long b] h (some (.long (jn 32 a b))) h := by
  refine mm_M.of [some (.int 11), some (.long a), none, some (.long b), none] rfl rfl (Nat.le_of_ble_eq_true rfl) ?_
  refine mm_iload_n dX11_both_0 rfl rfl ?_
  refine mm_tableIn (off := 190) 191 dX11_both_1 (by decide) (by decide) (by decide) (by decide) ?_
  refine mm_lload_n dX11_both_191 rfl rfl ?_
  refine mm_lload_n dX11_both_192 rfl rfl ?_
  refine mm_lor dX11_both_193 ?_
  exact mm_lretE dX11_both_194 rfl rfl rfl
theorem mX11_both (d : Nat) (h : mm_H) (t : Nat) (h5 : 100000 ≤ t) (hk : isBin (t - 100000)) (a b : Int64) : mm_M (d + 1) YX11_both [.int (nI (rs t)), .long a, .long b] h (some (.long (jn (t - 100000) a b))) h := by
  rcases (show t = 100006 ∨ t = 100007 ∨ t = 100008 ∨ t = 100009 ∨ t = 100010 ∨ t = 100011 ∨ t = 100012 ∨ t = 100013 ∨ t = 100014 ∨ t = 100015 ∨ t = 100031 ∨ t = 100032 by unfold isBin at hk; omega) with rfl | rfl | rfl | rfl | rfl | rfl | rfl | rfl | rfl | rfl | rfl | rfl
  · exact mX11_both_2 d h a b
  · exact mX11_both_3 d h a b
  · exact mX11_both_13 d h a b
  · exact mX11_both_14 d h a b
  · exact mX11_both_15 d h a b
  · exact mX11_both_4 d h a b
  · exact mX11_both_5 d h a b
  · exact mX11_both_6 d h a b
  · exact mX11_both_7 d h a b
  · exact mX11_both_8 d h a b
  · exact mX11_both_10 d h a b
  · exact mX11_both_11 d h a b
theorem rs_bin {t : Nat} (h5 : 100000 ≤ t) (hk : isBin (t - 100000)) : ¬ rs t = 0 ∧ ¬ rs t = 1 ∧ ¬ rs t = 9 ∧ rs t < 100 := by
  rcases (show t = 100006 ∨ t = 100007 ∨ t = 100008 ∨ t = 100009 ∨ t = 100010 ∨ t = 100011 ∨ t = 100012 ∨ t = 100013 ∨ t = 100014 ∨ t = 100015 ∨ t = 100031 ∨ t = 100032 by unfold isBin at hk; omega) with rfl | rfl | rfl | rfl | rfl | rfl | rfl | rfl | rfl | rfl | rfl | rfl <;> decide
set_option maxRecDepth 100000 in
set_option maxHeartbeats 4000000 in
theorem mX11_answer (d : Nat) (h : mm_H) (Q : LD) (r : Nat) (hr : r < 6) (hQ : lawOK Q) (hM : lawM h.1 r Q) (a e : Nat) (hs : seg (ldT Q) a e) (he : e ≤ ldl Q) : mm_M (d + 2) YX11_answer [.ref 165, .int (nI r), .int (nI a), .int (nI e)] h (some (.long (val (h.2.1 194) (ldT Q) a e))) (h.1, mm_rowL h.2.1 195 (evs (h.2.1 194) (h.2.1 195) (ldT Q) a (e - a)), h.2.2) := by
  refine mm_M.of [some (.ref 165), some (.int (nI r)), some (.int (nI a)), some (.int (nI e)), none, none, none, none] rfl rfl (Nat.le_of_ble_eq_true rfl) ?_
  obtain ⟨q1, q2, q3⟩ := hQ
  obtain ⟨c1, c2, c3⟩ := hM
  have hae := hs.1
  have dle : ∀ k, k ≤ e - a → dpt (ldT Q) a k ≤ 60 := by
    intro k
    induction k with
    | zero => intro _; exact Nat.zero_le _
    | succ k ih =>
      intro hk
      have h1 := ih (by omega)
      have h2 := hs.2.1 k (by omega)
      simp only [dpt]
      split
      · rename_i z
        rcases h2 with y | y | y | y
        · omega
        · omega
        · omega
        · have := y.1; have := y.2.1; unfold isBin at this; omega
      · split <;> omega
  have eix : ∀ i, (300 : Int32) * nI r + nI (a + i) = nI (300 * r + (a + i)) := fun i => by
    have e1 : (300 : Int32) * nI r = nI (300 * r) := pk_mul 300 r
    rw [e1, nI_add]
  have K6 : ∀ i, i ≤ e - a → mm_R (d + 2) YX11_answer 6 [some (.ref 165), some (.int (nI r)), some (.int (nI a)), some (.int (nI e)), some (.int (nI (dpt (ldT Q) a i))), some (.int (nI (a + i))), none, none] [] (h.1, mm_rowL h.2.1 195 (evs (h.2.1 194) (h.2.1 195) (ldT Q) a (i)), h.2.2) (some (.long (val (h.2.1 194) (ldT Q) a e))) (h.1, mm_rowL h.2.1 195 (evs (h.2.1 194) (h.2.1 195) (ldT Q) a (e - a)), h.2.2) := by
    refine mm_down (e - a) ?_ (fun i hi ih => ?_)
    · have e1 : a + (e - a) = e := by omega
      rw [e1, hs.2.2]
      refine mm_iload dX11_answer_6 rfl ?_
      refine mm_iload_n dX11_answer_8 rfl rfl ?_
      refine mm_icmp_ge 153 dX11_answer_9 (by decide) (fun c_9 => ?_) (fun c_9 => ?_)
      · refine mm_aload_n dX11_answer_153 rfl rfl ?_
        refine mm_getS dX11_answer_154 fX11_103 sh_165 rfl gr_165_42 ?_
        refine mm_iconst (x := 0) dX11_answer_157 (by decide) ?_
        refine mm_lald (0) dX11_answer_158 sh_195 rfl (by decide) ?_
        exact mm_lretE dX11_answer_159 rfl (by dsimp only; rw [mm_rowL_s]; exact evs_val hs) rfl
      · exact absurd (nI_le (Nat.le_refl _) (by omega)) c_9
    · have hok := hs.2.1 i hi
      have hd := dle i (by omega)
      obtain ⟨hc1, hc2⟩ := c2 (a + i) (by omega)
      have ih2 : ∀ (g : mm_H) (p : Nat) (q : Int32) (k6 k7 : Option Value), g = (h.1, mm_rowL h.2.1 195 (evs (h.2.1 194) (h.2.1 195) (ldT Q) a (i + 1)), h.2.2) → p = dpt (ldT Q) a (i + 1) → q = nI p → mm_R (d + 2) YX11_answer 147 [some (.ref 165), some (.int (nI r)), some (.int (nI a)), some (.int (nI e)), some (.int q), some (.int (nI (a + i))), k6, k7] [] g (some (.long (val (h.2.1 194) (ldT Q) a e))) (h.1, mm_rowL h.2.1 195 (evs (h.2.1 194) (h.2.1 195) (ldT Q) a (e - a)), h.2.2) := by
        intro g p q k6 k7 hg hp hq
        subst hg; subst hq; subst hp
        refine mm_iinc dX11_answer_147 rfl rfl rfl ?_
        refine mm_goto 6 dX11_answer_150 (by decide) ?_
        refine mm_lessE (ls' := [some (.ref 165), some (.int (nI r)), some (.int (nI a)), some (.int (nI e)), some (.int (nI (dpt (ldT Q) a (i + 1)))), some (.int (nI (a + (i + 1)))), none, none]) ⟨rfl, rfl, rfl, rfl, rfl, ?_, trivial⟩ ih
        rw [← Nat.add_assoc, ← nI_inc]
      have hev : evs (h.2.1 194) (h.2.1 195) (ldT Q) a (i + 1) = evs (h.2.1 194) (h.2.1 195) (ldT Q) a (i + 1) := rfl
      conv at hev => rhs; simp only [evs]
      have hdp : dpt (ldT Q) a (i + 1) = dpt (ldT Q) a (i + 1) := rfl
      conv at hdp => rhs; simp only [dpt]
      rcases hok with ⟨t1, t2⟩ | ⟨t1, t2, t3⟩ | ⟨t1, t2⟩ | ⟨t1, t2, t3⟩
      · rw [if_pos t1] at hev
        rw [if_pos (Or.inl t1)] at hdp
        have es : rs (ldT Q (a + i)) = 0 := by unfold rs; rw [if_pos t1]
        have en : rn (ldT Q (a + i)) = (ldT Q (a + i)) := by unfold rn; rw [if_pos t1]
        refine mm_iload dX11_answer_6 rfl ?_
        refine mm_iload_n dX11_answer_8 rfl rfl ?_
        refine mm_icmp_ge 153 dX11_answer_9 (by decide) (fun c_9 => ?_) (fun c_9 => ?_)
        · exact absurd c_9 (nI_ge (by omega) (by omega))
        · refine mm_aload_n dX11_answer_12 rfl rfl ?_
          refine mm_getS dX11_answer_13 fX11_75 sh_165 rfl gr_165_33 ?_
          refine mm_sipush (x := 300) dX11_answer_16 (by decide) ?_
          refine mm_iload_n dX11_answer_19 rfl rfl ?_
          refine mm_imul dX11_answer_20 ?_
          refine mm_iload dX11_answer_21 rfl ?_
          refine mm_iadd dX11_answer_23 ?_
          refine mm_iald (300 * r + (a + i)) dX11_answer_24 sh_186 (eix i) (by omega) ?_
          refine mm_istore dX11_answer_25 (by decide) rfl ?_
          refine mm_aload_n dX11_answer_27 rfl rfl ?_
          refine mm_getS dX11_answer_28 fX11_78 sh_165 rfl gr_165_34 ?_
          refine mm_sipush (x := 300) dX11_answer_31 (by decide) ?_
          refine mm_iload_n dX11_answer_34 rfl rfl ?_
          refine mm_imul dX11_answer_35 ?_
          refine mm_iload dX11_answer_36 rfl ?_
          refine mm_iadd dX11_answer_38 ?_
          refine mm_iald (300 * r + (a + i)) dX11_answer_39 sh_187 (eix i) (by omega) ?_
          refine mm_istore dX11_answer_40 (by decide) rfl ?_
          refine mm_cast (ls' := [some (.ref 165), some (.int (nI r)), some (.int (nI a)), some (.int (nI e)), some (.int (nI (dpt (ldT Q) a i))), some (.int (nI (a + i))), some (.int 0), some (.int (nI (ldT Q (a + i))))]) (by dsimp only; rw [hc1, hc2, es, en]; rfl) rfl rfl ?_
          refine mm_iload dX11_answer_42 rfl ?_
          refine mm_if_eq 53 dX11_answer_44 (by decide) (fun c_44 => ?_) (fun c_44 => ?_)
          · refine mm_aload_n dX11_answer_53 rfl rfl ?_
            refine mm_getS dX11_answer_54 fX11_103 sh_165 rfl gr_165_42 ?_
            refine mm_iload dX11_answer_57 rfl ?_
            refine mm_iload dX11_answer_59 rfl ?_
            refine mm_if_ne 70 dX11_answer_61 (by decide) (fun c_61 => ?_) (fun c_61 => ?_)
            · exact absurd rfl c_61
            · refine mm_iload dX11_answer_64 rfl ?_
              refine mm_i2l dX11_answer_66 rfl ?_
              refine mm_goto 77 dX11_answer_67 (by decide) ?_
              refine mm_last (dpt (ldT Q) a i) dX11_answer_77 sh_195 rfl (by omega) ?_
              refine mm_iinc dX11_answer_78 rfl rfl rfl ?_
              refine mm_goto 147 dX11_answer_81 (by decide) ?_
              refine ih2 _ (dpt (ldT Q) a i + 1) _ _ _ ?_ hdp.symm (by rw [nI_inc])
              dsimp only
              rw [mm_upL_row, hev]
          · exact absurd rfl c_44
      · have hbn : ¬ (ldT Q (a + i)) < 100000 := by omega
        rw [if_neg hbn, if_pos ⟨t1, t2⟩] at hev
        rw [if_pos (Or.inr ⟨t1, t2⟩)] at hdp
        have es : rs (ldT Q (a + i)) = 1 := by unfold rs; rw [if_neg hbn, if_pos ⟨t1, t2⟩]
        have en : rn (ldT Q (a + i)) = (ldT Q (a + i)) - 100016 := by unfold rn; rw [if_neg hbn, if_pos ⟨t1, t2⟩]
        refine mm_iload dX11_answer_6 rfl ?_
        refine mm_iload_n dX11_answer_8 rfl rfl ?_
        refine mm_icmp_ge 153 dX11_answer_9 (by decide) (fun c_9 => ?_) (fun c_9 => ?_)
        · exact absurd c_9 (nI_ge (by omega) (by omega))
        · refine mm_aload_n dX11_answer_12 rfl rfl ?_
          refine mm_getS dX11_answer_13 fX11_75 sh_165 rfl gr_165_33 ?_
          refine mm_sipush (x := 300) dX11_answer_16 (by decide) ?_
          refine mm_iload_n dX11_answer_19 rfl rfl ?_
          refine mm_imul dX11_answer_20 ?_
          refine mm_iload dX11_answer_21 rfl ?_
          refine mm_iadd dX11_answer_23 ?_
          refine mm_iald (300 * r + (a + i)) dX11_answer_24 sh_186 (eix i) (by omega) ?_
          refine mm_istore dX11_answer_25 (by decide) rfl ?_
          refine mm_aload_n dX11_answer_27 rfl rfl ?_
          refine mm_getS dX11_answer_28 fX11_78 sh_165 rfl gr_165_34 ?_
          refine mm_sipush (x := 300) dX11_answer_31 (by decide) ?_
          refine mm_iload_n dX11_answer_34 rfl rfl ?_
          refine mm_imul dX11_answer_35 ?_
          refine mm_iload dX11_answer_36 rfl ?_
          refine mm_iadd dX11_answer_38 ?_
          refine mm_iald (300 * r + (a + i)) dX11_answer_39 sh_187 (eix i) (by omega) ?_
          refine mm_istore dX11_answer_40 (by decide) rfl ?_
          refine mm_cast (ls' := [some (.ref 165), some (.int (nI r)), some (.int (nI a)), some (.int (nI e)), some (.int (nI (dpt (ldT Q) a i))), some (.int (nI (a + i))), some (.int 1), some (.int (nI ((ldT Q (a + i)) - 100016)))]) (by dsimp only; rw [hc1, hc2, es, en]; rfl) rfl rfl ?_
          refine mm_iload dX11_answer_42 rfl ?_
          refine mm_if_eq 53 dX11_answer_44 (by decide) (fun c_44 => ?_) (fun c_44 => ?_)
          · exact absurd c_44 (by decide)
          · refine mm_iload dX11_answer_47 rfl ?_
            refine mm_iconst (x := 1) dX11_answer_49 (by decide) ?_
            refine mm_icmp_ne 84 dX11_answer_50 (by decide) (fun c_50 => ?_) (fun c_50 => ?_)
            · exact absurd rfl c_50
            · refine mm_aload_n dX11_answer_53 rfl rfl ?_
              refine mm_getS dX11_answer_54 fX11_103 sh_165 rfl gr_165_42 ?_
              refine mm_iload dX11_answer_57 rfl ?_
              refine mm_iload dX11_answer_59 rfl ?_
              refine mm_if_ne 70 dX11_answer_61 (by decide) (fun c_61 => ?_) (fun c_61 => ?_)
              · refine mm_aload_n dX11_answer_70 rfl rfl ?_
                refine mm_getS dX11_answer_71 fX11_99 sh_165 rfl gr_165_41 ?_
                refine mm_iload dX11_answer_74 rfl ?_
                refine mm_lald ((ldT Q (a + i)) - 100016) dX11_answer_76 sh_194 rfl (by omega) ?_
                refine mm_last (dpt (ldT Q) a i) dX11_answer_77 sh_195 rfl (by omega) ?_
                refine mm_iinc dX11_answer_78 rfl rfl rfl ?_
                refine mm_goto 147 dX11_answer_81 (by decide) ?_
                refine ih2 _ (dpt (ldT Q) a i + 1) _ _ _ ?_ hdp.symm (by rw [nI_inc])
                dsimp only
                rw [mm_rowL_n (show 194 ≠ 195 by decide), mm_upL_row, hev]
              · exact absurd c_61 (by decide)
      · have hbn : ¬ (ldT Q (a + i)) < 100000 := by omega
        have hbw : ¬ (100016 ≤ (ldT Q (a + i)) ∧ (ldT Q (a + i)) ≤ 100025) := by omega
        rw [if_neg hbn, if_neg hbw, if_pos t1] at hev
        rw [if_neg (fun z => z.elim hbn hbw), if_pos t1] at hdp
        have es : rs (ldT Q (a + i)) = 9 := by rw [t1]; rfl
        have en : rn (ldT Q (a + i)) = 0 := by unfold rn; rw [if_neg hbn, if_neg hbw]
        refine mm_iload dX11_answer_6 rfl ?_
        refine mm_iload_n dX11_answer_8 rfl rfl ?_
        refine mm_icmp_ge 153 dX11_answer_9 (by decide) (fun c_9 => ?_) (fun c_9 => ?_)
        · exact absurd c_9 (nI_ge (by omega) (by omega))
        · refine mm_aload_n dX11_answer_12 rfl rfl ?_
          refine mm_getS dX11_answer_13 fX11_75 sh_165 rfl gr_165_33 ?_
          refine mm_sipush (x := 300) dX11_answer_16 (by decide) ?_
          refine mm_iload_n dX11_answer_19 rfl rfl ?_
          refine mm_imul dX11_answer_20 ?_
          refine mm_iload dX11_answer_21 rfl ?_
          refine mm_iadd dX11_answer_23 ?_
          refine mm_iald (300 * r + (a + i)) dX11_answer_24 sh_186 (eix i) (by omega) ?_
          refine mm_istore dX11_answer_25 (by decide) rfl ?_
          refine mm_aload_n dX11_answer_27 rfl rfl ?_
          refine mm_getS dX11_answer_28 fX11_78 sh_165 rfl gr_165_34 ?_
          refine mm_sipush (x := 300) dX11_answer_31 (by decide) ?_
          refine mm_iload_n dX11_answer_34 rfl rfl ?_
          refine mm_imul dX11_answer_35 ?_
          refine mm_iload dX11_answer_36 rfl ?_
          refine mm_iadd dX11_answer_38 ?_
          refine mm_iald (300 * r + (a + i)) dX11_answer_39 sh_187 (eix i) (by omega) ?_
          refine mm_istore dX11_answer_40 (by decide) rfl ?_
          refine mm_cast (ls' := [some (.ref 165), some (.int (nI r)), some (.int (nI a)), some (.int (nI e)), some (.int (nI (dpt (ldT Q) a i))), some (.int (nI (a + i))), some (.int 9), some (.int 0)]) (by dsimp only; rw [hc1, hc2, es, en]; rfl) rfl rfl ?_
          refine mm_iload dX11_answer_42 rfl ?_
          refine mm_if_eq 53 dX11_answer_44 (by decide) (fun c_44 => ?_) (fun c_44 => ?_)
          · exact absurd c_44 (by decide)
          · refine mm_iload dX11_answer_47 rfl ?_
            refine mm_iconst (x := 1) dX11_answer_49 (by decide) ?_
            refine mm_icmp_ne 84 dX11_answer_50 (by decide) (fun c_50 => ?_) (fun c_50 => ?_)
            · refine mm_iload dX11_answer_84 rfl ?_
              refine mm_bipush (x := 9) dX11_answer_86 (by decide) ?_
              refine mm_icmp_ne 114 dX11_answer_88 (by decide) (fun c_88 => ?_) (fun c_88 => ?_)
              · exact absurd rfl c_88
              · refine mm_aload_n dX11_answer_91 rfl rfl ?_
                refine mm_getS dX11_answer_92 fX11_103 sh_165 rfl gr_165_42 ?_
                refine mm_iload dX11_answer_95 rfl ?_
                refine mm_iconst (x := 1) dX11_answer_97 (by decide) ?_
                refine mm_isub dX11_answer_98 ?_
                refine mm_lconst (x := 1) dX11_answer_99 (by decide) ?_
                refine mm_aload_n dX11_answer_100 rfl rfl ?_
                refine mm_getS dX11_answer_101 fX11_103 sh_165 rfl gr_165_42 ?_
                refine mm_iload dX11_answer_104 rfl ?_
                refine mm_iconst (x := 1) dX11_answer_106 (by decide) ?_
                refine mm_isub dX11_answer_107 ?_
                refine mm_lald (dpt (ldT Q) a i - 1) dX11_answer_108 sh_195 (pk_sub (a := dpt (ldT Q) a i) (b := 1) t2) (by omega) ?_
                refine mm_lsub dX11_answer_109 ?_
                refine mm_last (dpt (ldT Q) a i - 1) dX11_answer_110 sh_195 (pk_sub (a := dpt (ldT Q) a i) (b := 1) t2) (by omega) ?_
                refine mm_goto 147 dX11_answer_111 (by decide) ?_
                refine ih2 _ (dpt (ldT Q) a i) _ _ _ ?_ hdp.symm rfl
                dsimp only
                rw [mm_upL_row, mm_rowL_s, hev]
            · exact absurd c_50 (by decide)
      · have hbn : ¬ (ldT Q (a + i)) < 100000 := by omega
        have hib := t2
        unfold isBin at hib
        have hbw : ¬ (100016 ≤ (ldT Q (a + i)) ∧ (ldT Q (a + i)) ≤ 100025) := by omega
        have hb3 : ¬ (ldT Q (a + i)) = 100030 := by omega
        rw [if_neg hbn, if_neg hbw, if_neg hb3] at hev
        rw [if_neg (fun z => z.elim hbn hbw), if_neg hb3] at hdp
        have es : rs (ldT Q (a + i)) = rs (ldT Q (a + i)) := rfl
        have en : rn (ldT Q (a + i)) = 0 := by unfold rn; rw [if_neg hbn, if_neg hbw]
        obtain ⟨z1, z2, z3, z4⟩ := rs_bin t1 t2
        have ed1 : nI (dpt (ldT Q) a i) + Int32.ofInt (-1) = nI (dpt (ldT Q) a i - 1) := by
          obtain ⟨w, hw⟩ : ∃ w, dpt (ldT Q) a i = w + 1 := ⟨dpt (ldT Q) a i - 1, by omega⟩
          rw [hw]; exact pk_m1 w
        have ed2 : nI (dpt (ldT Q) a i) + Int32.ofInt (-1) - 1 = nI (dpt (ldT Q) a i - 2) := by
          rw [ed1]; have := pk_sub (a := dpt (ldT Q) a i - 1) (b := 1) (by omega); rw [show dpt (ldT Q) a i - 1 - 1 = dpt (ldT Q) a i - 2 by omega] at this; exact this
        refine mm_iload dX11_answer_6 rfl ?_
        refine mm_iload_n dX11_answer_8 rfl rfl ?_
        refine mm_icmp_ge 153 dX11_answer_9 (by decide) (fun c_9 => ?_) (fun c_9 => ?_)
        · exact absurd c_9 (nI_ge (by omega) (by omega))
        · refine mm_aload_n dX11_answer_12 rfl rfl ?_
          refine mm_getS dX11_answer_13 fX11_75 sh_165 rfl gr_165_33 ?_
          refine mm_sipush (x := 300) dX11_answer_16 (by decide) ?_
          refine mm_iload_n dX11_answer_19 rfl rfl ?_
          refine mm_imul dX11_answer_20 ?_
          refine mm_iload dX11_answer_21 rfl ?_
          refine mm_iadd dX11_answer_23 ?_
          refine mm_iald (300 * r + (a + i)) dX11_answer_24 sh_186 (eix i) (by omega) ?_
          refine mm_istore dX11_answer_25 (by decide) rfl ?_
          refine mm_aload_n dX11_answer_27 rfl rfl ?_
          refine mm_getS dX11_answer_28 fX11_78 sh_165 rfl gr_165_34 ?_
          refine mm_sipush (x := 300) dX11_answer_31 (by decide) ?_
          refine mm_iload_n dX11_answer_34 rfl rfl ?_
          refine mm_imul dX11_answer_35 ?_
          refine mm_iload dX11_answer_36 rfl ?_
          refine mm_iadd dX11_answer_38 ?_
          refine mm_iald (300 * r + (a + i)) dX11_answer_39 sh_187 (eix i) (by omega) ?_
          refine mm_istore dX11_answer_40 (by decide) rfl ?_
          refine mm_cast (ls' := [some (.ref 165), some (.int (nI r)), some (.int (nI a)), some (.int (nI e)), some (.int (nI (dpt (ldT Q) a i))), some (.int (nI (a + i))), some (.int (nI (rs (ldT Q (a + i))))), some (.int 0)]) (by dsimp only; rw [hc1, hc2, es, en]; rfl) rfl rfl ?_
          refine mm_iload dX11_answer_42 rfl ?_
          refine mm_if_eq 53 dX11_answer_44 (by decide) (fun c_44 => ?_) (fun c_44 => ?_)
          · exact absurd (nI_inj (b := 0) (by omega) (by omega) c_44) z1
          · refine mm_iload dX11_answer_47 rfl ?_
            refine mm_iconst (x := 1) dX11_answer_49 (by decide) ?_
            refine mm_icmp_ne 84 dX11_answer_50 (by decide) (fun c_50 => ?_) (fun c_50 => ?_)
            · refine mm_iload dX11_answer_84 rfl ?_
              refine mm_bipush (x := 9) dX11_answer_86 (by decide) ?_
              refine mm_icmp_ne 114 dX11_answer_88 (by decide) (fun c_88 => ?_) (fun c_88 => ?_)
              · refine mm_iinc dX11_answer_114 rfl rfl rfl ?_
                refine mm_aload_n dX11_answer_117 rfl rfl ?_
                refine mm_getS dX11_answer_118 fX11_103 sh_165 rfl gr_165_42 ?_
                refine mm_iload dX11_answer_121 rfl ?_
                refine mm_iconst (x := 1) dX11_answer_123 (by decide) ?_
                refine mm_isub dX11_answer_124 ?_
                refine mm_iload dX11_answer_125 rfl ?_
                refine mm_aload_n dX11_answer_127 rfl rfl ?_
                refine mm_getS dX11_answer_128 fX11_103 sh_165 rfl gr_165_42 ?_
                refine mm_iload dX11_answer_131 rfl ?_
                refine mm_iconst (x := 1) dX11_answer_133 (by decide) ?_
                refine mm_isub dX11_answer_134 ?_
                refine mm_lald (dpt (ldT Q) a i - 2) dX11_answer_135 sh_195 ed2 (by omega) ?_
                refine mm_aload_n dX11_answer_136 rfl rfl ?_
                refine mm_getS dX11_answer_137 fX11_103 sh_165 rfl gr_165_42 ?_
                refine mm_iload dX11_answer_140 rfl ?_
                refine mm_lald (dpt (ldT Q) a i - 1) dX11_answer_142 sh_195 ed1 (by omega) ?_
                refine mm_cS (Y1 := YX11_both) dX11_answer_143 lX11_357 sX11_both (mX11_both d _ (ldT Q (a + i)) t1 t2 _ _) rfl rfl (by simp [Value.category]) ?_
                refine mm_last (dpt (ldT Q) a i - 2) dX11_answer_146 sh_195 ed2 (by omega) ?_
                refine ih2 _ (dpt (ldT Q) a i - 1) _ _ _ ?_ hdp.symm ed1
                dsimp only
                rw [mm_upL_row, mm_rowL_s, hev]
              · exact absurd (nI_inj (b := 9) (by omega) (by omega) c_88) z3
            · exact absurd (nI_inj (b := 1) (by omega) (by omega) c_50) z2
  refine mm_iconst (x := 0) dX11_answer_0 (by decide) ?_
  refine mm_istore dX11_answer_1 (by decide) rfl ?_
  refine mm_iload_n dX11_answer_3 rfl rfl ?_
  refine mm_istore dX11_answer_4 (by decide) rfl ?_
  exact mm_cast rfl rfl (by rw [show evs (h.2.1 194) (h.2.1 195) (ldT Q) a 0 = h.2.1 195 from rfl, mm_rowL_self]) (K6 0 (Nat.zero_le _))
