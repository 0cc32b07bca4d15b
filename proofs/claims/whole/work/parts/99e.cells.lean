/-! The law: both constructors' cells in the numbering of part 03a. Laid by wip/whole/mk99d.py. -/
def en_h0 : mm_H := (fun a => cond (Nat.beq a 165) (fun i => cond (Nat.beq i 29) 10 0) (cond (Nat.beq a 135) (fun i => cond (Nat.beq i 3) (-1) 0) (fun _ => 0)), fun _ _ => 0, fun a => cond (Nat.beq a 18) 19 25)
def en_pL : List Nat := [0, 1, 23, 37, 2, 3, 4, 5, 6, 7, 8, 9, 10, 11, 12, 13, 14, 15, 16, 17, 18, 19, 20, 21, 22, 47, 48, 49, 50, 51, 52, 53, 54, 55, 56, 57, 58, 59, 60, 61, 62, 63, 64, 65, 66, 67, 68, 69, 70, 71, 72, 73, 74, 75, 76, 77, 78, 79, 80, 81, 82, 24, 34, 35, 36, 25, 26, 27, 28, 29, 30, 31, 32, 33, 83, 93, 94, 95, 84, 85, 86, 87, 88, 89, 90, 91, 92, 96, 106, 107, 108, 97, 98, 99, 100, 101, 102, 103, 104, 105, 109, 119, 120, 121, 110, 111, 112, 113, 114, 115, 116, 117, 118, 122, 132, 133, 134, 123, 124, 125, 126, 127, 128, 129, 130, 131, 38, 39, 40, 41, 42, 43, 44, 45, 46, 135, 136, 137, 138, 139, 140, 141, 142, 143, 144, 145, 146, 147, 148, 149, 150, 151, 152, 153, 154, 155, 156, 157, 158, 159, 160, 161, 162, 163, 164, 165, 166, 167, 168, 169, 170, 171, 172, 173, 174, 175, 176, 177, 178, 179, 180, 181, 182, 183, 184, 185, 186, 187, 188, 189, 190, 191, 192, 193, 194, 195, 196, 197, 198, 199, 200, 201, 202, 203, 204, 205, 206, 207, 208, 209, 210, 211, 212, 213, 214, 215]
def en_qL : List Nat := [0, 1, 4, 5, 6, 7, 8, 9, 10, 11, 12, 13, 14, 15, 16, 17, 18, 19, 20, 21, 22, 23, 24, 2, 61, 65, 66, 67, 68, 69, 70, 71, 72, 73, 62, 63, 64, 3, 126, 127, 128, 129, 130, 131, 132, 133, 134, 25, 26, 27, 28, 29, 30, 31, 32, 33, 34, 35, 36, 37, 38, 39, 40, 41, 42, 43, 44, 45, 46, 47, 48, 49, 50, 51, 52, 53, 54, 55, 56, 57, 58, 59, 60, 74, 78, 79, 80, 81, 82, 83, 84, 85, 86, 75, 76, 77, 87, 91, 92, 93, 94, 95, 96, 97, 98, 99, 88, 89, 90, 100, 104, 105, 106, 107, 108, 109, 110, 111, 112, 101, 102, 103, 113, 117, 118, 119, 120, 121, 122, 123, 124, 125, 114, 115, 116, 135, 136, 137, 138, 139, 140, 141, 142, 143, 144, 145, 146, 147, 148, 149, 150, 151, 152, 153, 154, 155, 156, 157, 158, 159, 160, 161, 162, 163, 164, 165, 166, 167, 168, 169, 170, 171, 172, 173, 174, 175, 176, 177, 178, 179, 180, 181, 182, 183, 184, 185, 186, 187, 188, 189, 190, 191, 192, 193, 194, 195, 196, 197, 198, 199, 200, 201, 202, 203, 204, 205, 206, 207, 208, 209, 210, 211, 212, 213, 214, 215]
def en_p (a : Nat) : Nat := en_pL.getD a 0
theorem en_inv : ∀ a, a < 216 → en_qL.getD (en_p a) 999 = a ∧ en_p a < 216 := by decide +kernel
def en_ad (base b : Nat) (K V : Nat → Nat) (r : Nat) : Nat → Nat := fun a => cond (Nat.blt a 216) (base + en_p a) (cond (Nat.blt a 2000) (K (a - 1000)) (cond (Nat.blt a 3000) (V (a - 2000)) (cond (Nat.beq a 3000) r b)))
def en_M : List cc_E := m10_21 ++ kX11 165
theorem en_M_len : en_M.length = 216 := by decide +kernel
section ENC
variable (tC : Nat → ClassId) (base b : Nat) (K V : Nat → Nat) (r : Nat)
theorem en_e0 : mm_ent tC (en_ad base b K V r) en_h0 0 (mm_sh 0) = cc_ent tC base (en_M.getD (en_p 0) (9, 0, [])) := rfl
theorem en_e1 : mm_ent tC (en_ad base b K V r) en_h0 1 (mm_sh 1) = cc_ent tC base (en_M.getD (en_p 1) (9, 0, [])) := rfl
theorem en_e2 : mm_ent tC (en_ad base b K V r) en_h0 2 (mm_sh 2) = cc_ent tC base (en_M.getD (en_p 2) (9, 0, [])) := by
  show (Sum.inl (tC 5, 6, Sum.inr (Sum.inr (Sum.inr (Sum.inr (fun i => (mm_gr 2 i).map (en_ad base b K V r)))))) : va_E) = Sum.inl (tC 5, 6, Sum.inr (Sum.inr (Sum.inr (Sum.inr (fun i => (cc_ref ((en_M.getD (en_p 2) (9, 0, [])).2.2.getD i .null)).map (cc_ad base))))))
  congr 7
  funext i
  match i with
  | 0 => rfl
  | 1 => rfl
  | 2 => rfl
  | 3 => rfl
  | 4 => rfl
  | 5 => rfl
  | n + 6 => rfl
theorem en_e3 : mm_ent tC (en_ad base b K V r) en_h0 3 (mm_sh 3) = cc_ent tC base (en_M.getD (en_p 3) (9, 0, [])) := by
  show (Sum.inl (tC 6, 4, Sum.inr (Sum.inr (Sum.inr (Sum.inr (fun i => (mm_gr 3 i).map (en_ad base b K V r)))))) : va_E) = Sum.inl (tC 6, 4, Sum.inr (Sum.inr (Sum.inr (Sum.inr (fun i => (cc_ref ((en_M.getD (en_p 3) (9, 0, [])).2.2.getD i .null)).map (cc_ad base))))))
  congr 7
  funext i
  match i with
  | 0 => rfl
  | 1 => rfl
  | 2 => rfl
  | 3 => rfl
  | n + 4 => rfl
theorem en_e4 : mm_ent tC (en_ad base b K V r) en_h0 4 (mm_sh 4) = cc_ent tC base (en_M.getD (en_p 4) (9, 0, [])) := rfl
theorem en_e5 : mm_ent tC (en_ad base b K V r) en_h0 5 (mm_sh 5) = cc_ent tC base (en_M.getD (en_p 5) (9, 0, [])) := rfl
theorem en_e6 : mm_ent tC (en_ad base b K V r) en_h0 6 (mm_sh 6) = cc_ent tC base (en_M.getD (en_p 6) (9, 0, [])) := rfl
theorem en_e7 : mm_ent tC (en_ad base b K V r) en_h0 7 (mm_sh 7) = cc_ent tC base (en_M.getD (en_p 7) (9, 0, [])) := rfl
theorem en_e8 : mm_ent tC (en_ad base b K V r) en_h0 8 (mm_sh 8) = cc_ent tC base (en_M.getD (en_p 8) (9, 0, [])) := rfl
theorem en_e9 : mm_ent tC (en_ad base b K V r) en_h0 9 (mm_sh 9) = cc_ent tC base (en_M.getD (en_p 9) (9, 0, [])) := rfl
theorem en_e10 : mm_ent tC (en_ad base b K V r) en_h0 10 (mm_sh 10) = cc_ent tC base (en_M.getD (en_p 10) (9, 0, [])) := rfl
theorem en_e11 : mm_ent tC (en_ad base b K V r) en_h0 11 (mm_sh 11) = cc_ent tC base (en_M.getD (en_p 11) (9, 0, [])) := rfl
theorem en_e12 : mm_ent tC (en_ad base b K V r) en_h0 12 (mm_sh 12) = cc_ent tC base (en_M.getD (en_p 12) (9, 0, [])) := rfl
theorem en_e13 : mm_ent tC (en_ad base b K V r) en_h0 13 (mm_sh 13) = cc_ent tC base (en_M.getD (en_p 13) (9, 0, [])) := rfl
theorem en_e14 : mm_ent tC (en_ad base b K V r) en_h0 14 (mm_sh 14) = cc_ent tC base (en_M.getD (en_p 14) (9, 0, [])) := rfl
theorem en_e15 : mm_ent tC (en_ad base b K V r) en_h0 15 (mm_sh 15) = cc_ent tC base (en_M.getD (en_p 15) (9, 0, [])) := rfl
theorem en_e16 : mm_ent tC (en_ad base b K V r) en_h0 16 (mm_sh 16) = cc_ent tC base (en_M.getD (en_p 16) (9, 0, [])) := rfl
theorem en_e17 : mm_ent tC (en_ad base b K V r) en_h0 17 (mm_sh 17) = cc_ent tC base (en_M.getD (en_p 17) (9, 0, [])) := rfl
theorem en_e18 : mm_ent tC (en_ad base b K V r) en_h0 18 (mm_sh 18) = cc_ent tC base (en_M.getD (en_p 18) (9, 0, [])) := rfl
theorem en_e19 : mm_ent tC (en_ad base b K V r) en_h0 19 (mm_sh 19) = cc_ent tC base (en_M.getD (en_p 19) (9, 0, [])) := rfl
theorem en_e20 : mm_ent tC (en_ad base b K V r) en_h0 20 (mm_sh 20) = cc_ent tC base (en_M.getD (en_p 20) (9, 0, [])) := rfl
theorem en_e21 : mm_ent tC (en_ad base b K V r) en_h0 21 (mm_sh 21) = cc_ent tC base (en_M.getD (en_p 21) (9, 0, [])) := rfl
theorem en_e22 : mm_ent tC (en_ad base b K V r) en_h0 22 (mm_sh 22) = cc_ent tC base (en_M.getD (en_p 22) (9, 0, [])) := rfl
theorem en_e23 : mm_ent tC (en_ad base b K V r) en_h0 23 (mm_sh 23) = cc_ent tC base (en_M.getD (en_p 23) (9, 0, [])) := rfl
theorem en_e24 : mm_ent tC (en_ad base b K V r) en_h0 24 (mm_sh 24) = cc_ent tC base (en_M.getD (en_p 24) (9, 0, [])) := rfl
theorem en_e25 : mm_ent tC (en_ad base b K V r) en_h0 25 (mm_sh 25) = cc_ent tC base (en_M.getD (en_p 25) (9, 0, [])) := rfl
theorem en_e26 : mm_ent tC (en_ad base b K V r) en_h0 26 (mm_sh 26) = cc_ent tC base (en_M.getD (en_p 26) (9, 0, [])) := rfl
theorem en_e27 : mm_ent tC (en_ad base b K V r) en_h0 27 (mm_sh 27) = cc_ent tC base (en_M.getD (en_p 27) (9, 0, [])) := rfl
theorem en_e28 : mm_ent tC (en_ad base b K V r) en_h0 28 (mm_sh 28) = cc_ent tC base (en_M.getD (en_p 28) (9, 0, [])) := rfl
theorem en_e29 : mm_ent tC (en_ad base b K V r) en_h0 29 (mm_sh 29) = cc_ent tC base (en_M.getD (en_p 29) (9, 0, [])) := rfl
theorem en_e30 : mm_ent tC (en_ad base b K V r) en_h0 30 (mm_sh 30) = cc_ent tC base (en_M.getD (en_p 30) (9, 0, [])) := rfl
theorem en_e31 : mm_ent tC (en_ad base b K V r) en_h0 31 (mm_sh 31) = cc_ent tC base (en_M.getD (en_p 31) (9, 0, [])) := rfl
theorem en_e32 : mm_ent tC (en_ad base b K V r) en_h0 32 (mm_sh 32) = cc_ent tC base (en_M.getD (en_p 32) (9, 0, [])) := rfl
theorem en_e33 : mm_ent tC (en_ad base b K V r) en_h0 33 (mm_sh 33) = cc_ent tC base (en_M.getD (en_p 33) (9, 0, [])) := rfl
theorem en_e34 : mm_ent tC (en_ad base b K V r) en_h0 34 (mm_sh 34) = cc_ent tC base (en_M.getD (en_p 34) (9, 0, [])) := rfl
theorem en_e35 : mm_ent tC (en_ad base b K V r) en_h0 35 (mm_sh 35) = cc_ent tC base (en_M.getD (en_p 35) (9, 0, [])) := rfl
theorem en_e36 : mm_ent tC (en_ad base b K V r) en_h0 36 (mm_sh 36) = cc_ent tC base (en_M.getD (en_p 36) (9, 0, [])) := rfl
theorem en_e37 : mm_ent tC (en_ad base b K V r) en_h0 37 (mm_sh 37) = cc_ent tC base (en_M.getD (en_p 37) (9, 0, [])) := rfl
theorem en_e38 : mm_ent tC (en_ad base b K V r) en_h0 38 (mm_sh 38) = cc_ent tC base (en_M.getD (en_p 38) (9, 0, [])) := rfl
theorem en_e39 : mm_ent tC (en_ad base b K V r) en_h0 39 (mm_sh 39) = cc_ent tC base (en_M.getD (en_p 39) (9, 0, [])) := rfl
theorem en_e40 : mm_ent tC (en_ad base b K V r) en_h0 40 (mm_sh 40) = cc_ent tC base (en_M.getD (en_p 40) (9, 0, [])) := rfl
theorem en_e41 : mm_ent tC (en_ad base b K V r) en_h0 41 (mm_sh 41) = cc_ent tC base (en_M.getD (en_p 41) (9, 0, [])) := rfl
theorem en_e42 : mm_ent tC (en_ad base b K V r) en_h0 42 (mm_sh 42) = cc_ent tC base (en_M.getD (en_p 42) (9, 0, [])) := rfl
theorem en_e43 : mm_ent tC (en_ad base b K V r) en_h0 43 (mm_sh 43) = cc_ent tC base (en_M.getD (en_p 43) (9, 0, [])) := rfl
theorem en_e44 : mm_ent tC (en_ad base b K V r) en_h0 44 (mm_sh 44) = cc_ent tC base (en_M.getD (en_p 44) (9, 0, [])) := rfl
theorem en_e45 : mm_ent tC (en_ad base b K V r) en_h0 45 (mm_sh 45) = cc_ent tC base (en_M.getD (en_p 45) (9, 0, [])) := rfl
theorem en_e46 : mm_ent tC (en_ad base b K V r) en_h0 46 (mm_sh 46) = cc_ent tC base (en_M.getD (en_p 46) (9, 0, [])) := rfl
theorem en_e47 : mm_ent tC (en_ad base b K V r) en_h0 47 (mm_sh 47) = cc_ent tC base (en_M.getD (en_p 47) (9, 0, [])) := rfl
theorem en_e48 : mm_ent tC (en_ad base b K V r) en_h0 48 (mm_sh 48) = cc_ent tC base (en_M.getD (en_p 48) (9, 0, [])) := rfl
theorem en_e49 : mm_ent tC (en_ad base b K V r) en_h0 49 (mm_sh 49) = cc_ent tC base (en_M.getD (en_p 49) (9, 0, [])) := rfl
theorem en_e50 : mm_ent tC (en_ad base b K V r) en_h0 50 (mm_sh 50) = cc_ent tC base (en_M.getD (en_p 50) (9, 0, [])) := rfl
theorem en_e51 : mm_ent tC (en_ad base b K V r) en_h0 51 (mm_sh 51) = cc_ent tC base (en_M.getD (en_p 51) (9, 0, [])) := rfl
theorem en_e52 : mm_ent tC (en_ad base b K V r) en_h0 52 (mm_sh 52) = cc_ent tC base (en_M.getD (en_p 52) (9, 0, [])) := rfl
theorem en_e53 : mm_ent tC (en_ad base b K V r) en_h0 53 (mm_sh 53) = cc_ent tC base (en_M.getD (en_p 53) (9, 0, [])) := rfl
theorem en_e54 : mm_ent tC (en_ad base b K V r) en_h0 54 (mm_sh 54) = cc_ent tC base (en_M.getD (en_p 54) (9, 0, [])) := rfl
theorem en_e55 : mm_ent tC (en_ad base b K V r) en_h0 55 (mm_sh 55) = cc_ent tC base (en_M.getD (en_p 55) (9, 0, [])) := rfl
theorem en_e56 : mm_ent tC (en_ad base b K V r) en_h0 56 (mm_sh 56) = cc_ent tC base (en_M.getD (en_p 56) (9, 0, [])) := rfl
theorem en_e57 : mm_ent tC (en_ad base b K V r) en_h0 57 (mm_sh 57) = cc_ent tC base (en_M.getD (en_p 57) (9, 0, [])) := rfl
theorem en_e58 : mm_ent tC (en_ad base b K V r) en_h0 58 (mm_sh 58) = cc_ent tC base (en_M.getD (en_p 58) (9, 0, [])) := rfl
theorem en_e59 : mm_ent tC (en_ad base b K V r) en_h0 59 (mm_sh 59) = cc_ent tC base (en_M.getD (en_p 59) (9, 0, [])) := rfl
theorem en_e60 : mm_ent tC (en_ad base b K V r) en_h0 60 (mm_sh 60) = cc_ent tC base (en_M.getD (en_p 60) (9, 0, [])) := rfl
theorem en_e61 : mm_ent tC (en_ad base b K V r) en_h0 61 (mm_sh 61) = cc_ent tC base (en_M.getD (en_p 61) (9, 0, [])) := rfl
theorem en_e62 : mm_ent tC (en_ad base b K V r) en_h0 62 (mm_sh 62) = cc_ent tC base (en_M.getD (en_p 62) (9, 0, [])) := rfl
theorem en_e63 : mm_ent tC (en_ad base b K V r) en_h0 63 (mm_sh 63) = cc_ent tC base (en_M.getD (en_p 63) (9, 0, [])) := rfl
theorem en_e64 : mm_ent tC (en_ad base b K V r) en_h0 64 (mm_sh 64) = cc_ent tC base (en_M.getD (en_p 64) (9, 0, [])) := rfl
theorem en_e65 : mm_ent tC (en_ad base b K V r) en_h0 65 (mm_sh 65) = cc_ent tC base (en_M.getD (en_p 65) (9, 0, [])) := rfl
theorem en_e66 : mm_ent tC (en_ad base b K V r) en_h0 66 (mm_sh 66) = cc_ent tC base (en_M.getD (en_p 66) (9, 0, [])) := rfl
theorem en_e67 : mm_ent tC (en_ad base b K V r) en_h0 67 (mm_sh 67) = cc_ent tC base (en_M.getD (en_p 67) (9, 0, [])) := rfl
theorem en_e68 : mm_ent tC (en_ad base b K V r) en_h0 68 (mm_sh 68) = cc_ent tC base (en_M.getD (en_p 68) (9, 0, [])) := rfl
theorem en_e69 : mm_ent tC (en_ad base b K V r) en_h0 69 (mm_sh 69) = cc_ent tC base (en_M.getD (en_p 69) (9, 0, [])) := rfl
theorem en_e70 : mm_ent tC (en_ad base b K V r) en_h0 70 (mm_sh 70) = cc_ent tC base (en_M.getD (en_p 70) (9, 0, [])) := rfl
theorem en_e71 : mm_ent tC (en_ad base b K V r) en_h0 71 (mm_sh 71) = cc_ent tC base (en_M.getD (en_p 71) (9, 0, [])) := rfl
theorem en_e72 : mm_ent tC (en_ad base b K V r) en_h0 72 (mm_sh 72) = cc_ent tC base (en_M.getD (en_p 72) (9, 0, [])) := rfl
theorem en_e73 : mm_ent tC (en_ad base b K V r) en_h0 73 (mm_sh 73) = cc_ent tC base (en_M.getD (en_p 73) (9, 0, [])) := rfl
theorem en_e74 : mm_ent tC (en_ad base b K V r) en_h0 74 (mm_sh 74) = cc_ent tC base (en_M.getD (en_p 74) (9, 0, [])) := rfl
theorem en_e75 : mm_ent tC (en_ad base b K V r) en_h0 75 (mm_sh 75) = cc_ent tC base (en_M.getD (en_p 75) (9, 0, [])) := rfl
theorem en_e76 : mm_ent tC (en_ad base b K V r) en_h0 76 (mm_sh 76) = cc_ent tC base (en_M.getD (en_p 76) (9, 0, [])) := rfl
theorem en_e77 : mm_ent tC (en_ad base b K V r) en_h0 77 (mm_sh 77) = cc_ent tC base (en_M.getD (en_p 77) (9, 0, [])) := rfl
theorem en_e78 : mm_ent tC (en_ad base b K V r) en_h0 78 (mm_sh 78) = cc_ent tC base (en_M.getD (en_p 78) (9, 0, [])) := rfl
theorem en_e79 : mm_ent tC (en_ad base b K V r) en_h0 79 (mm_sh 79) = cc_ent tC base (en_M.getD (en_p 79) (9, 0, [])) := rfl
theorem en_e80 : mm_ent tC (en_ad base b K V r) en_h0 80 (mm_sh 80) = cc_ent tC base (en_M.getD (en_p 80) (9, 0, [])) := rfl
theorem en_e81 : mm_ent tC (en_ad base b K V r) en_h0 81 (mm_sh 81) = cc_ent tC base (en_M.getD (en_p 81) (9, 0, [])) := rfl
theorem en_e82 : mm_ent tC (en_ad base b K V r) en_h0 82 (mm_sh 82) = cc_ent tC base (en_M.getD (en_p 82) (9, 0, [])) := rfl
theorem en_e83 : mm_ent tC (en_ad base b K V r) en_h0 83 (mm_sh 83) = cc_ent tC base (en_M.getD (en_p 83) (9, 0, [])) := rfl
theorem en_e84 : mm_ent tC (en_ad base b K V r) en_h0 84 (mm_sh 84) = cc_ent tC base (en_M.getD (en_p 84) (9, 0, [])) := rfl
theorem en_e85 : mm_ent tC (en_ad base b K V r) en_h0 85 (mm_sh 85) = cc_ent tC base (en_M.getD (en_p 85) (9, 0, [])) := rfl
theorem en_e86 : mm_ent tC (en_ad base b K V r) en_h0 86 (mm_sh 86) = cc_ent tC base (en_M.getD (en_p 86) (9, 0, [])) := rfl
theorem en_e87 : mm_ent tC (en_ad base b K V r) en_h0 87 (mm_sh 87) = cc_ent tC base (en_M.getD (en_p 87) (9, 0, [])) := rfl
theorem en_e88 : mm_ent tC (en_ad base b K V r) en_h0 88 (mm_sh 88) = cc_ent tC base (en_M.getD (en_p 88) (9, 0, [])) := rfl
theorem en_e89 : mm_ent tC (en_ad base b K V r) en_h0 89 (mm_sh 89) = cc_ent tC base (en_M.getD (en_p 89) (9, 0, [])) := rfl
theorem en_e90 : mm_ent tC (en_ad base b K V r) en_h0 90 (mm_sh 90) = cc_ent tC base (en_M.getD (en_p 90) (9, 0, [])) := rfl
theorem en_e91 : mm_ent tC (en_ad base b K V r) en_h0 91 (mm_sh 91) = cc_ent tC base (en_M.getD (en_p 91) (9, 0, [])) := rfl
theorem en_e92 : mm_ent tC (en_ad base b K V r) en_h0 92 (mm_sh 92) = cc_ent tC base (en_M.getD (en_p 92) (9, 0, [])) := rfl
theorem en_e93 : mm_ent tC (en_ad base b K V r) en_h0 93 (mm_sh 93) = cc_ent tC base (en_M.getD (en_p 93) (9, 0, [])) := rfl
theorem en_e94 : mm_ent tC (en_ad base b K V r) en_h0 94 (mm_sh 94) = cc_ent tC base (en_M.getD (en_p 94) (9, 0, [])) := rfl
theorem en_e95 : mm_ent tC (en_ad base b K V r) en_h0 95 (mm_sh 95) = cc_ent tC base (en_M.getD (en_p 95) (9, 0, [])) := rfl
theorem en_e96 : mm_ent tC (en_ad base b K V r) en_h0 96 (mm_sh 96) = cc_ent tC base (en_M.getD (en_p 96) (9, 0, [])) := rfl
theorem en_e97 : mm_ent tC (en_ad base b K V r) en_h0 97 (mm_sh 97) = cc_ent tC base (en_M.getD (en_p 97) (9, 0, [])) := rfl
theorem en_e98 : mm_ent tC (en_ad base b K V r) en_h0 98 (mm_sh 98) = cc_ent tC base (en_M.getD (en_p 98) (9, 0, [])) := rfl
theorem en_e99 : mm_ent tC (en_ad base b K V r) en_h0 99 (mm_sh 99) = cc_ent tC base (en_M.getD (en_p 99) (9, 0, [])) := rfl
theorem en_e100 : mm_ent tC (en_ad base b K V r) en_h0 100 (mm_sh 100) = cc_ent tC base (en_M.getD (en_p 100) (9, 0, [])) := rfl
theorem en_e101 : mm_ent tC (en_ad base b K V r) en_h0 101 (mm_sh 101) = cc_ent tC base (en_M.getD (en_p 101) (9, 0, [])) := rfl
theorem en_e102 : mm_ent tC (en_ad base b K V r) en_h0 102 (mm_sh 102) = cc_ent tC base (en_M.getD (en_p 102) (9, 0, [])) := rfl
theorem en_e103 : mm_ent tC (en_ad base b K V r) en_h0 103 (mm_sh 103) = cc_ent tC base (en_M.getD (en_p 103) (9, 0, [])) := rfl
theorem en_e104 : mm_ent tC (en_ad base b K V r) en_h0 104 (mm_sh 104) = cc_ent tC base (en_M.getD (en_p 104) (9, 0, [])) := rfl
theorem en_e105 : mm_ent tC (en_ad base b K V r) en_h0 105 (mm_sh 105) = cc_ent tC base (en_M.getD (en_p 105) (9, 0, [])) := rfl
theorem en_e106 : mm_ent tC (en_ad base b K V r) en_h0 106 (mm_sh 106) = cc_ent tC base (en_M.getD (en_p 106) (9, 0, [])) := rfl
theorem en_e107 : mm_ent tC (en_ad base b K V r) en_h0 107 (mm_sh 107) = cc_ent tC base (en_M.getD (en_p 107) (9, 0, [])) := rfl
theorem en_e108 : mm_ent tC (en_ad base b K V r) en_h0 108 (mm_sh 108) = cc_ent tC base (en_M.getD (en_p 108) (9, 0, [])) := rfl
theorem en_e109 : mm_ent tC (en_ad base b K V r) en_h0 109 (mm_sh 109) = cc_ent tC base (en_M.getD (en_p 109) (9, 0, [])) := rfl
theorem en_e110 : mm_ent tC (en_ad base b K V r) en_h0 110 (mm_sh 110) = cc_ent tC base (en_M.getD (en_p 110) (9, 0, [])) := rfl
theorem en_e111 : mm_ent tC (en_ad base b K V r) en_h0 111 (mm_sh 111) = cc_ent tC base (en_M.getD (en_p 111) (9, 0, [])) := rfl
theorem en_e112 : mm_ent tC (en_ad base b K V r) en_h0 112 (mm_sh 112) = cc_ent tC base (en_M.getD (en_p 112) (9, 0, [])) := rfl
theorem en_e113 : mm_ent tC (en_ad base b K V r) en_h0 113 (mm_sh 113) = cc_ent tC base (en_M.getD (en_p 113) (9, 0, [])) := rfl
theorem en_e114 : mm_ent tC (en_ad base b K V r) en_h0 114 (mm_sh 114) = cc_ent tC base (en_M.getD (en_p 114) (9, 0, [])) := rfl
theorem en_e115 : mm_ent tC (en_ad base b K V r) en_h0 115 (mm_sh 115) = cc_ent tC base (en_M.getD (en_p 115) (9, 0, [])) := rfl
theorem en_e116 : mm_ent tC (en_ad base b K V r) en_h0 116 (mm_sh 116) = cc_ent tC base (en_M.getD (en_p 116) (9, 0, [])) := rfl
theorem en_e117 : mm_ent tC (en_ad base b K V r) en_h0 117 (mm_sh 117) = cc_ent tC base (en_M.getD (en_p 117) (9, 0, [])) := rfl
theorem en_e118 : mm_ent tC (en_ad base b K V r) en_h0 118 (mm_sh 118) = cc_ent tC base (en_M.getD (en_p 118) (9, 0, [])) := rfl
theorem en_e119 : mm_ent tC (en_ad base b K V r) en_h0 119 (mm_sh 119) = cc_ent tC base (en_M.getD (en_p 119) (9, 0, [])) := rfl
theorem en_e120 : mm_ent tC (en_ad base b K V r) en_h0 120 (mm_sh 120) = cc_ent tC base (en_M.getD (en_p 120) (9, 0, [])) := rfl
theorem en_e121 : mm_ent tC (en_ad base b K V r) en_h0 121 (mm_sh 121) = cc_ent tC base (en_M.getD (en_p 121) (9, 0, [])) := rfl
theorem en_e122 : mm_ent tC (en_ad base b K V r) en_h0 122 (mm_sh 122) = cc_ent tC base (en_M.getD (en_p 122) (9, 0, [])) := rfl
theorem en_e123 : mm_ent tC (en_ad base b K V r) en_h0 123 (mm_sh 123) = cc_ent tC base (en_M.getD (en_p 123) (9, 0, [])) := rfl
theorem en_e124 : mm_ent tC (en_ad base b K V r) en_h0 124 (mm_sh 124) = cc_ent tC base (en_M.getD (en_p 124) (9, 0, [])) := rfl
theorem en_e125 : mm_ent tC (en_ad base b K V r) en_h0 125 (mm_sh 125) = cc_ent tC base (en_M.getD (en_p 125) (9, 0, [])) := rfl
theorem en_e126 : mm_ent tC (en_ad base b K V r) en_h0 126 (mm_sh 126) = cc_ent tC base (en_M.getD (en_p 126) (9, 0, [])) := rfl
theorem en_e127 : mm_ent tC (en_ad base b K V r) en_h0 127 (mm_sh 127) = cc_ent tC base (en_M.getD (en_p 127) (9, 0, [])) := rfl
theorem en_e128 : mm_ent tC (en_ad base b K V r) en_h0 128 (mm_sh 128) = cc_ent tC base (en_M.getD (en_p 128) (9, 0, [])) := rfl
theorem en_e129 : mm_ent tC (en_ad base b K V r) en_h0 129 (mm_sh 129) = cc_ent tC base (en_M.getD (en_p 129) (9, 0, [])) := rfl
theorem en_e130 : mm_ent tC (en_ad base b K V r) en_h0 130 (mm_sh 130) = cc_ent tC base (en_M.getD (en_p 130) (9, 0, [])) := rfl
theorem en_e131 : mm_ent tC (en_ad base b K V r) en_h0 131 (mm_sh 131) = cc_ent tC base (en_M.getD (en_p 131) (9, 0, [])) := rfl
theorem en_e132 : mm_ent tC (en_ad base b K V r) en_h0 132 (mm_sh 132) = cc_ent tC base (en_M.getD (en_p 132) (9, 0, [])) := rfl
theorem en_e133 : mm_ent tC (en_ad base b K V r) en_h0 133 (mm_sh 133) = cc_ent tC base (en_M.getD (en_p 133) (9, 0, [])) := rfl
theorem en_e134 : mm_ent tC (en_ad base b K V r) en_h0 134 (mm_sh 134) = cc_ent tC base (en_M.getD (en_p 134) (9, 0, [])) := rfl
theorem en_e135 : mm_ent tC (en_ad base b K V r) en_h0 135 (mm_sh 135) = cc_ent tC base (en_M.getD (en_p 135) (9, 0, [])) := rfl
theorem en_e136 : mm_ent tC (en_ad base b K V r) en_h0 136 (mm_sh 136) = cc_ent tC base (en_M.getD (en_p 136) (9, 0, [])) := rfl
theorem en_e137 : mm_ent tC (en_ad base b K V r) en_h0 137 (mm_sh 137) = cc_ent tC base (en_M.getD (en_p 137) (9, 0, [])) := rfl
theorem en_e138 : mm_ent tC (en_ad base b K V r) en_h0 138 (mm_sh 138) = cc_ent tC base (en_M.getD (en_p 138) (9, 0, [])) := rfl
theorem en_e139 : mm_ent tC (en_ad base b K V r) en_h0 139 (mm_sh 139) = cc_ent tC base (en_M.getD (en_p 139) (9, 0, [])) := rfl
theorem en_e140 : mm_ent tC (en_ad base b K V r) en_h0 140 (mm_sh 140) = cc_ent tC base (en_M.getD (en_p 140) (9, 0, [])) := rfl
theorem en_e141 : mm_ent tC (en_ad base b K V r) en_h0 141 (mm_sh 141) = cc_ent tC base (en_M.getD (en_p 141) (9, 0, [])) := rfl
theorem en_e142 : mm_ent tC (en_ad base b K V r) en_h0 142 (mm_sh 142) = cc_ent tC base (en_M.getD (en_p 142) (9, 0, [])) := rfl
theorem en_e143 : mm_ent tC (en_ad base b K V r) en_h0 143 (mm_sh 143) = cc_ent tC base (en_M.getD (en_p 143) (9, 0, [])) := rfl
theorem en_e144 : mm_ent tC (en_ad base b K V r) en_h0 144 (mm_sh 144) = cc_ent tC base (en_M.getD (en_p 144) (9, 0, [])) := rfl
theorem en_e145 : mm_ent tC (en_ad base b K V r) en_h0 145 (mm_sh 145) = cc_ent tC base (en_M.getD (en_p 145) (9, 0, [])) := rfl
theorem en_e146 : mm_ent tC (en_ad base b K V r) en_h0 146 (mm_sh 146) = cc_ent tC base (en_M.getD (en_p 146) (9, 0, [])) := rfl
theorem en_e147 : mm_ent tC (en_ad base b K V r) en_h0 147 (mm_sh 147) = cc_ent tC base (en_M.getD (en_p 147) (9, 0, [])) := rfl
theorem en_e148 : mm_ent tC (en_ad base b K V r) en_h0 148 (mm_sh 148) = cc_ent tC base (en_M.getD (en_p 148) (9, 0, [])) := rfl
theorem en_e149 : mm_ent tC (en_ad base b K V r) en_h0 149 (mm_sh 149) = cc_ent tC base (en_M.getD (en_p 149) (9, 0, [])) := rfl
theorem en_e150 : mm_ent tC (en_ad base b K V r) en_h0 150 (mm_sh 150) = cc_ent tC base (en_M.getD (en_p 150) (9, 0, [])) := rfl
theorem en_e151 : mm_ent tC (en_ad base b K V r) en_h0 151 (mm_sh 151) = cc_ent tC base (en_M.getD (en_p 151) (9, 0, [])) := rfl
theorem en_e152 : mm_ent tC (en_ad base b K V r) en_h0 152 (mm_sh 152) = cc_ent tC base (en_M.getD (en_p 152) (9, 0, [])) := rfl
theorem en_e153 : mm_ent tC (en_ad base b K V r) en_h0 153 (mm_sh 153) = cc_ent tC base (en_M.getD (en_p 153) (9, 0, [])) := rfl
theorem en_e154 : mm_ent tC (en_ad base b K V r) en_h0 154 (mm_sh 154) = cc_ent tC base (en_M.getD (en_p 154) (9, 0, [])) := rfl
theorem en_e155 : mm_ent tC (en_ad base b K V r) en_h0 155 (mm_sh 155) = cc_ent tC base (en_M.getD (en_p 155) (9, 0, [])) := rfl
theorem en_e156 : mm_ent tC (en_ad base b K V r) en_h0 156 (mm_sh 156) = cc_ent tC base (en_M.getD (en_p 156) (9, 0, [])) := rfl
theorem en_e157 : mm_ent tC (en_ad base b K V r) en_h0 157 (mm_sh 157) = cc_ent tC base (en_M.getD (en_p 157) (9, 0, [])) := rfl
theorem en_e158 : mm_ent tC (en_ad base b K V r) en_h0 158 (mm_sh 158) = cc_ent tC base (en_M.getD (en_p 158) (9, 0, [])) := rfl
theorem en_e159 : mm_ent tC (en_ad base b K V r) en_h0 159 (mm_sh 159) = cc_ent tC base (en_M.getD (en_p 159) (9, 0, [])) := rfl
theorem en_e160 : mm_ent tC (en_ad base b K V r) en_h0 160 (mm_sh 160) = cc_ent tC base (en_M.getD (en_p 160) (9, 0, [])) := rfl
theorem en_e161 : mm_ent tC (en_ad base b K V r) en_h0 161 (mm_sh 161) = cc_ent tC base (en_M.getD (en_p 161) (9, 0, [])) := rfl
theorem en_e162 : mm_ent tC (en_ad base b K V r) en_h0 162 (mm_sh 162) = cc_ent tC base (en_M.getD (en_p 162) (9, 0, [])) := rfl
theorem en_e163 : mm_ent tC (en_ad base b K V r) en_h0 163 (mm_sh 163) = cc_ent tC base (en_M.getD (en_p 163) (9, 0, [])) := rfl
theorem en_e164 : mm_ent tC (en_ad base b K V r) en_h0 164 (mm_sh 164) = cc_ent tC base (en_M.getD (en_p 164) (9, 0, [])) := rfl
set_option maxRecDepth 100000 in
theorem en_e165 : mm_ent tC (en_ad base b K V r) en_h0 165 (mm_sh 165) = cc_ent tC base (en_M.getD (en_p 165) (9, 0, [])) := rfl
theorem en_e166 : mm_ent tC (en_ad base b K V r) en_h0 166 (mm_sh 166) = cc_ent tC base (en_M.getD (en_p 166) (9, 0, [])) := rfl
theorem en_e167 : mm_ent tC (en_ad base b K V r) en_h0 167 (mm_sh 167) = cc_ent tC base (en_M.getD (en_p 167) (9, 0, [])) := rfl
theorem en_e168 : mm_ent tC (en_ad base b K V r) en_h0 168 (mm_sh 168) = cc_ent tC base (en_M.getD (en_p 168) (9, 0, [])) := rfl
theorem en_e169 : mm_ent tC (en_ad base b K V r) en_h0 169 (mm_sh 169) = cc_ent tC base (en_M.getD (en_p 169) (9, 0, [])) := rfl
theorem en_e170 : mm_ent tC (en_ad base b K V r) en_h0 170 (mm_sh 170) = cc_ent tC base (en_M.getD (en_p 170) (9, 0, [])) := rfl
theorem en_e171 : mm_ent tC (en_ad base b K V r) en_h0 171 (mm_sh 171) = cc_ent tC base (en_M.getD (en_p 171) (9, 0, [])) := rfl
theorem en_e172 : mm_ent tC (en_ad base b K V r) en_h0 172 (mm_sh 172) = cc_ent tC base (en_M.getD (en_p 172) (9, 0, [])) := rfl
theorem en_e173 : mm_ent tC (en_ad base b K V r) en_h0 173 (mm_sh 173) = cc_ent tC base (en_M.getD (en_p 173) (9, 0, [])) := rfl
theorem en_e174 : mm_ent tC (en_ad base b K V r) en_h0 174 (mm_sh 174) = cc_ent tC base (en_M.getD (en_p 174) (9, 0, [])) := rfl
theorem en_e175 : mm_ent tC (en_ad base b K V r) en_h0 175 (mm_sh 175) = cc_ent tC base (en_M.getD (en_p 175) (9, 0, [])) := rfl
theorem en_e176 : mm_ent tC (en_ad base b K V r) en_h0 176 (mm_sh 176) = cc_ent tC base (en_M.getD (en_p 176) (9, 0, [])) := rfl
theorem en_e177 : mm_ent tC (en_ad base b K V r) en_h0 177 (mm_sh 177) = cc_ent tC base (en_M.getD (en_p 177) (9, 0, [])) := rfl
theorem en_e178 : mm_ent tC (en_ad base b K V r) en_h0 178 (mm_sh 178) = cc_ent tC base (en_M.getD (en_p 178) (9, 0, [])) := rfl
theorem en_e179 : mm_ent tC (en_ad base b K V r) en_h0 179 (mm_sh 179) = cc_ent tC base (en_M.getD (en_p 179) (9, 0, [])) := rfl
theorem en_e180 : mm_ent tC (en_ad base b K V r) en_h0 180 (mm_sh 180) = cc_ent tC base (en_M.getD (en_p 180) (9, 0, [])) := rfl
theorem en_e181 : mm_ent tC (en_ad base b K V r) en_h0 181 (mm_sh 181) = cc_ent tC base (en_M.getD (en_p 181) (9, 0, [])) := rfl
theorem en_e182 : mm_ent tC (en_ad base b K V r) en_h0 182 (mm_sh 182) = cc_ent tC base (en_M.getD (en_p 182) (9, 0, [])) := rfl
theorem en_e183 : mm_ent tC (en_ad base b K V r) en_h0 183 (mm_sh 183) = cc_ent tC base (en_M.getD (en_p 183) (9, 0, [])) := rfl
theorem en_e184 : mm_ent tC (en_ad base b K V r) en_h0 184 (mm_sh 184) = cc_ent tC base (en_M.getD (en_p 184) (9, 0, [])) := rfl
theorem en_e185 : mm_ent tC (en_ad base b K V r) en_h0 185 (mm_sh 185) = cc_ent tC base (en_M.getD (en_p 185) (9, 0, [])) := rfl
theorem en_e186 : mm_ent tC (en_ad base b K V r) en_h0 186 (mm_sh 186) = cc_ent tC base (en_M.getD (en_p 186) (9, 0, [])) := rfl
theorem en_e187 : mm_ent tC (en_ad base b K V r) en_h0 187 (mm_sh 187) = cc_ent tC base (en_M.getD (en_p 187) (9, 0, [])) := rfl
theorem en_e188 : mm_ent tC (en_ad base b K V r) en_h0 188 (mm_sh 188) = cc_ent tC base (en_M.getD (en_p 188) (9, 0, [])) := rfl
theorem en_e189 : mm_ent tC (en_ad base b K V r) en_h0 189 (mm_sh 189) = cc_ent tC base (en_M.getD (en_p 189) (9, 0, [])) := rfl
theorem en_e190 : mm_ent tC (en_ad base b K V r) en_h0 190 (mm_sh 190) = cc_ent tC base (en_M.getD (en_p 190) (9, 0, [])) := rfl
theorem en_e191 : mm_ent tC (en_ad base b K V r) en_h0 191 (mm_sh 191) = cc_ent tC base (en_M.getD (en_p 191) (9, 0, [])) := rfl
theorem en_e192 : mm_ent tC (en_ad base b K V r) en_h0 192 (mm_sh 192) = cc_ent tC base (en_M.getD (en_p 192) (9, 0, [])) := rfl
theorem en_e193 : mm_ent tC (en_ad base b K V r) en_h0 193 (mm_sh 193) = cc_ent tC base (en_M.getD (en_p 193) (9, 0, [])) := rfl
theorem en_e194 : mm_ent tC (en_ad base b K V r) en_h0 194 (mm_sh 194) = cc_ent tC base (en_M.getD (en_p 194) (9, 0, [])) := rfl
theorem en_e195 : mm_ent tC (en_ad base b K V r) en_h0 195 (mm_sh 195) = cc_ent tC base (en_M.getD (en_p 195) (9, 0, [])) := rfl
theorem en_e196 : mm_ent tC (en_ad base b K V r) en_h0 196 (mm_sh 196) = cc_ent tC base (en_M.getD (en_p 196) (9, 0, [])) := rfl
theorem en_e197 : mm_ent tC (en_ad base b K V r) en_h0 197 (mm_sh 197) = cc_ent tC base (en_M.getD (en_p 197) (9, 0, [])) := rfl
theorem en_e198 : mm_ent tC (en_ad base b K V r) en_h0 198 (mm_sh 198) = cc_ent tC base (en_M.getD (en_p 198) (9, 0, [])) := rfl
theorem en_e199 : mm_ent tC (en_ad base b K V r) en_h0 199 (mm_sh 199) = cc_ent tC base (en_M.getD (en_p 199) (9, 0, [])) := rfl
theorem en_e200 : mm_ent tC (en_ad base b K V r) en_h0 200 (mm_sh 200) = cc_ent tC base (en_M.getD (en_p 200) (9, 0, [])) := rfl
theorem en_e201 : mm_ent tC (en_ad base b K V r) en_h0 201 (mm_sh 201) = cc_ent tC base (en_M.getD (en_p 201) (9, 0, [])) := rfl
theorem en_e202 : mm_ent tC (en_ad base b K V r) en_h0 202 (mm_sh 202) = cc_ent tC base (en_M.getD (en_p 202) (9, 0, [])) := rfl
theorem en_e203 : mm_ent tC (en_ad base b K V r) en_h0 203 (mm_sh 203) = cc_ent tC base (en_M.getD (en_p 203) (9, 0, [])) := rfl
theorem en_e204 : mm_ent tC (en_ad base b K V r) en_h0 204 (mm_sh 204) = cc_ent tC base (en_M.getD (en_p 204) (9, 0, [])) := rfl
theorem en_e205 : mm_ent tC (en_ad base b K V r) en_h0 205 (mm_sh 205) = cc_ent tC base (en_M.getD (en_p 205) (9, 0, [])) := rfl
theorem en_e206 : mm_ent tC (en_ad base b K V r) en_h0 206 (mm_sh 206) = cc_ent tC base (en_M.getD (en_p 206) (9, 0, [])) := rfl
theorem en_e207 : mm_ent tC (en_ad base b K V r) en_h0 207 (mm_sh 207) = cc_ent tC base (en_M.getD (en_p 207) (9, 0, [])) := rfl
theorem en_e208 : mm_ent tC (en_ad base b K V r) en_h0 208 (mm_sh 208) = cc_ent tC base (en_M.getD (en_p 208) (9, 0, [])) := rfl
theorem en_e209 : mm_ent tC (en_ad base b K V r) en_h0 209 (mm_sh 209) = cc_ent tC base (en_M.getD (en_p 209) (9, 0, [])) := rfl
theorem en_e210 : mm_ent tC (en_ad base b K V r) en_h0 210 (mm_sh 210) = cc_ent tC base (en_M.getD (en_p 210) (9, 0, [])) := rfl
theorem en_e211 : mm_ent tC (en_ad base b K V r) en_h0 211 (mm_sh 211) = cc_ent tC base (en_M.getD (en_p 211) (9, 0, [])) := rfl
theorem en_e212 : mm_ent tC (en_ad base b K V r) en_h0 212 (mm_sh 212) = cc_ent tC base (en_M.getD (en_p 212) (9, 0, [])) := rfl
theorem en_e213 : mm_ent tC (en_ad base b K V r) en_h0 213 (mm_sh 213) = cc_ent tC base (en_M.getD (en_p 213) (9, 0, [])) := rfl
theorem en_e214 : mm_ent tC (en_ad base b K V r) en_h0 214 (mm_sh 214) = cc_ent tC base (en_M.getD (en_p 214) (9, 0, [])) := rfl
theorem en_e215 : mm_ent tC (en_ad base b K V r) en_h0 215 (mm_sh 215) = cc_ent tC base (en_M.getD (en_p 215) (9, 0, [])) := rfl
theorem en_ent : ∀ a, a < 216 → mm_ent tC (en_ad base b K V r) en_h0 a (mm_sh a) = cc_ent tC base (en_M.getD (en_p a) (9, 0, [])) := by
  intro a ha
  match a, ha with
  | 0, _ => exact en_e0 tC base b K V r
  | 1, _ => exact en_e1 tC base b K V r
  | 2, _ => exact en_e2 tC base b K V r
  | 3, _ => exact en_e3 tC base b K V r
  | 4, _ => exact en_e4 tC base b K V r
  | 5, _ => exact en_e5 tC base b K V r
  | 6, _ => exact en_e6 tC base b K V r
  | 7, _ => exact en_e7 tC base b K V r
  | 8, _ => exact en_e8 tC base b K V r
  | 9, _ => exact en_e9 tC base b K V r
  | 10, _ => exact en_e10 tC base b K V r
  | 11, _ => exact en_e11 tC base b K V r
  | 12, _ => exact en_e12 tC base b K V r
  | 13, _ => exact en_e13 tC base b K V r
  | 14, _ => exact en_e14 tC base b K V r
  | 15, _ => exact en_e15 tC base b K V r
  | 16, _ => exact en_e16 tC base b K V r
  | 17, _ => exact en_e17 tC base b K V r
  | 18, _ => exact en_e18 tC base b K V r
  | 19, _ => exact en_e19 tC base b K V r
  | 20, _ => exact en_e20 tC base b K V r
  | 21, _ => exact en_e21 tC base b K V r
  | 22, _ => exact en_e22 tC base b K V r
  | 23, _ => exact en_e23 tC base b K V r
  | 24, _ => exact en_e24 tC base b K V r
  | 25, _ => exact en_e25 tC base b K V r
  | 26, _ => exact en_e26 tC base b K V r
  | 27, _ => exact en_e27 tC base b K V r
  | 28, _ => exact en_e28 tC base b K V r
  | 29, _ => exact en_e29 tC base b K V r
  | 30, _ => exact en_e30 tC base b K V r
  | 31, _ => exact en_e31 tC base b K V r
  | 32, _ => exact en_e32 tC base b K V r
  | 33, _ => exact en_e33 tC base b K V r
  | 34, _ => exact en_e34 tC base b K V r
  | 35, _ => exact en_e35 tC base b K V r
  | 36, _ => exact en_e36 tC base b K V r
  | 37, _ => exact en_e37 tC base b K V r
  | 38, _ => exact en_e38 tC base b K V r
  | 39, _ => exact en_e39 tC base b K V r
  | 40, _ => exact en_e40 tC base b K V r
  | 41, _ => exact en_e41 tC base b K V r
  | 42, _ => exact en_e42 tC base b K V r
  | 43, _ => exact en_e43 tC base b K V r
  | 44, _ => exact en_e44 tC base b K V r
  | 45, _ => exact en_e45 tC base b K V r
  | 46, _ => exact en_e46 tC base b K V r
  | 47, _ => exact en_e47 tC base b K V r
  | 48, _ => exact en_e48 tC base b K V r
  | 49, _ => exact en_e49 tC base b K V r
  | 50, _ => exact en_e50 tC base b K V r
  | 51, _ => exact en_e51 tC base b K V r
  | 52, _ => exact en_e52 tC base b K V r
  | 53, _ => exact en_e53 tC base b K V r
  | 54, _ => exact en_e54 tC base b K V r
  | 55, _ => exact en_e55 tC base b K V r
  | 56, _ => exact en_e56 tC base b K V r
  | 57, _ => exact en_e57 tC base b K V r
  | 58, _ => exact en_e58 tC base b K V r
  | 59, _ => exact en_e59 tC base b K V r
  | 60, _ => exact en_e60 tC base b K V r
  | 61, _ => exact en_e61 tC base b K V r
  | 62, _ => exact en_e62 tC base b K V r
  | 63, _ => exact en_e63 tC base b K V r
  | 64, _ => exact en_e64 tC base b K V r
  | 65, _ => exact en_e65 tC base b K V r
  | 66, _ => exact en_e66 tC base b K V r
  | 67, _ => exact en_e67 tC base b K V r
  | 68, _ => exact en_e68 tC base b K V r
  | 69, _ => exact en_e69 tC base b K V r
  | 70, _ => exact en_e70 tC base b K V r
  | 71, _ => exact en_e71 tC base b K V r
  | 72, _ => exact en_e72 tC base b K V r
  | 73, _ => exact en_e73 tC base b K V r
  | 74, _ => exact en_e74 tC base b K V r
  | 75, _ => exact en_e75 tC base b K V r
  | 76, _ => exact en_e76 tC base b K V r
  | 77, _ => exact en_e77 tC base b K V r
  | 78, _ => exact en_e78 tC base b K V r
  | 79, _ => exact en_e79 tC base b K V r
  | 80, _ => exact en_e80 tC base b K V r
  | 81, _ => exact en_e81 tC base b K V r
  | 82, _ => exact en_e82 tC base b K V r
  | 83, _ => exact en_e83 tC base b K V r
  | 84, _ => exact en_e84 tC base b K V r
  | 85, _ => exact en_e85 tC base b K V r
  | 86, _ => exact en_e86 tC base b K V r
  | 87, _ => exact en_e87 tC base b K V r
  | 88, _ => exact en_e88 tC base b K V r
  | 89, _ => exact en_e89 tC base b K V r
  | 90, _ => exact en_e90 tC base b K V r
  | 91, _ => exact en_e91 tC base b K V r
  | 92, _ => exact en_e92 tC base b K V r
  | 93, _ => exact en_e93 tC base b K V r
  | 94, _ => exact en_e94 tC base b K V r
  | 95, _ => exact en_e95 tC base b K V r
  | 96, _ => exact en_e96 tC base b K V r
  | 97, _ => exact en_e97 tC base b K V r
  | 98, _ => exact en_e98 tC base b K V r
  | 99, _ => exact en_e99 tC base b K V r
  | 100, _ => exact en_e100 tC base b K V r
  | 101, _ => exact en_e101 tC base b K V r
  | 102, _ => exact en_e102 tC base b K V r
  | 103, _ => exact en_e103 tC base b K V r
  | 104, _ => exact en_e104 tC base b K V r
  | 105, _ => exact en_e105 tC base b K V r
  | 106, _ => exact en_e106 tC base b K V r
  | 107, _ => exact en_e107 tC base b K V r
  | 108, _ => exact en_e108 tC base b K V r
  | 109, _ => exact en_e109 tC base b K V r
  | 110, _ => exact en_e110 tC base b K V r
  | 111, _ => exact en_e111 tC base b K V r
  | 112, _ => exact en_e112 tC base b K V r
  | 113, _ => exact en_e113 tC base b K V r
  | 114, _ => exact en_e114 tC base b K V r
  | 115, _ => exact en_e115 tC base b K V r
  | 116, _ => exact en_e116 tC base b K V r
  | 117, _ => exact en_e117 tC base b K V r
  | 118, _ => exact en_e118 tC base b K V r
  | 119, _ => exact en_e119 tC base b K V r
  | 120, _ => exact en_e120 tC base b K V r
  | 121, _ => exact en_e121 tC base b K V r
  | 122, _ => exact en_e122 tC base b K V r
  | 123, _ => exact en_e123 tC base b K V r
  | 124, _ => exact en_e124 tC base b K V r
  | 125, _ => exact en_e125 tC base b K V r
  | 126, _ => exact en_e126 tC base b K V r
  | 127, _ => exact en_e127 tC base b K V r
  | 128, _ => exact en_e128 tC base b K V r
  | 129, _ => exact en_e129 tC base b K V r
  | 130, _ => exact en_e130 tC base b K V r
  | 131, _ => exact en_e131 tC base b K V r
  | 132, _ => exact en_e132 tC base b K V r
  | 133, _ => exact en_e133 tC base b K V r
  | 134, _ => exact en_e134 tC base b K V r
  | 135, _ => exact en_e135 tC base b K V r
  | 136, _ => exact en_e136 tC base b K V r
  | 137, _ => exact en_e137 tC base b K V r
  | 138, _ => exact en_e138 tC base b K V r
  | 139, _ => exact en_e139 tC base b K V r
  | 140, _ => exact en_e140 tC base b K V r
  | 141, _ => exact en_e141 tC base b K V r
  | 142, _ => exact en_e142 tC base b K V r
  | 143, _ => exact en_e143 tC base b K V r
  | 144, _ => exact en_e144 tC base b K V r
  | 145, _ => exact en_e145 tC base b K V r
  | 146, _ => exact en_e146 tC base b K V r
  | 147, _ => exact en_e147 tC base b K V r
  | 148, _ => exact en_e148 tC base b K V r
  | 149, _ => exact en_e149 tC base b K V r
  | 150, _ => exact en_e150 tC base b K V r
  | 151, _ => exact en_e151 tC base b K V r
  | 152, _ => exact en_e152 tC base b K V r
  | 153, _ => exact en_e153 tC base b K V r
  | 154, _ => exact en_e154 tC base b K V r
  | 155, _ => exact en_e155 tC base b K V r
  | 156, _ => exact en_e156 tC base b K V r
  | 157, _ => exact en_e157 tC base b K V r
  | 158, _ => exact en_e158 tC base b K V r
  | 159, _ => exact en_e159 tC base b K V r
  | 160, _ => exact en_e160 tC base b K V r
  | 161, _ => exact en_e161 tC base b K V r
  | 162, _ => exact en_e162 tC base b K V r
  | 163, _ => exact en_e163 tC base b K V r
  | 164, _ => exact en_e164 tC base b K V r
  | 165, _ => exact en_e165 tC base b K V r
  | 166, _ => exact en_e166 tC base b K V r
  | 167, _ => exact en_e167 tC base b K V r
  | 168, _ => exact en_e168 tC base b K V r
  | 169, _ => exact en_e169 tC base b K V r
  | 170, _ => exact en_e170 tC base b K V r
  | 171, _ => exact en_e171 tC base b K V r
  | 172, _ => exact en_e172 tC base b K V r
  | 173, _ => exact en_e173 tC base b K V r
  | 174, _ => exact en_e174 tC base b K V r
  | 175, _ => exact en_e175 tC base b K V r
  | 176, _ => exact en_e176 tC base b K V r
  | 177, _ => exact en_e177 tC base b K V r
  | 178, _ => exact en_e178 tC base b K V r
  | 179, _ => exact en_e179 tC base b K V r
  | 180, _ => exact en_e180 tC base b K V r
  | 181, _ => exact en_e181 tC base b K V r
  | 182, _ => exact en_e182 tC base b K V r
  | 183, _ => exact en_e183 tC base b K V r
  | 184, _ => exact en_e184 tC base b K V r
  | 185, _ => exact en_e185 tC base b K V r
  | 186, _ => exact en_e186 tC base b K V r
  | 187, _ => exact en_e187 tC base b K V r
  | 188, _ => exact en_e188 tC base b K V r
  | 189, _ => exact en_e189 tC base b K V r
  | 190, _ => exact en_e190 tC base b K V r
  | 191, _ => exact en_e191 tC base b K V r
  | 192, _ => exact en_e192 tC base b K V r
  | 193, _ => exact en_e193 tC base b K V r
  | 194, _ => exact en_e194 tC base b K V r
  | 195, _ => exact en_e195 tC base b K V r
  | 196, _ => exact en_e196 tC base b K V r
  | 197, _ => exact en_e197 tC base b K V r
  | 198, _ => exact en_e198 tC base b K V r
  | 199, _ => exact en_e199 tC base b K V r
  | 200, _ => exact en_e200 tC base b K V r
  | 201, _ => exact en_e201 tC base b K V r
  | 202, _ => exact en_e202 tC base b K V r
  | 203, _ => exact en_e203 tC base b K V r
  | 204, _ => exact en_e204 tC base b K V r
  | 205, _ => exact en_e205 tC base b K V r
  | 206, _ => exact en_e206 tC base b K V r
  | 207, _ => exact en_e207 tC base b K V r
  | 208, _ => exact en_e208 tC base b K V r
  | 209, _ => exact en_e209 tC base b K V r
  | 210, _ => exact en_e210 tC base b K V r
  | 211, _ => exact en_e211 tC base b K V r
  | 212, _ => exact en_e212 tC base b K V r
  | 213, _ => exact en_e213 tC base b K V r
  | 214, _ => exact en_e214 tC base b K V r
  | 215, _ => exact en_e215 tC base b K V r
  | n + 216, h => exact absurd h (by omega)
theorem en_ad_lo {a : Nat} (h : a < 216) : en_ad base b K V r a = base + en_p a := by
  have : Nat.blt a 216 = true := Nat.blt_eq.mpr h
  unfold en_ad; rw [this]; rfl
variable {tC base b K V r}
theorem en_P {D : va_G} {H : Heap} (hP : va_P D vwCl (cc_w tC base (cc_L en_M)) H) : va_P D vwCl (mm_w tC (en_ad base b K V r) en_h0) H := by
  intro k q hk
  by_cases hn : k < 216
  · rw [mm_w_at tC _ _ (show k < mm_N from hn)] at hk
    cases hk
    have h1 := (en_inv k hn).2
    have h2 := hP (en_p k) _ (cc_w_at tC base (cc_L en_M) (show en_p k < en_M.length by rw [en_M_len]; exact h1))
    rw [en_ent tC base b K V r k hn, en_ad_lo base b K V r hn]
    exact h2
  · rw [mm_w_out tC _ _ (show ¬ k < mm_N from hn)] at hk
    cases hk
theorem en_Dd {A : Nat → Prop} (hA : ∀ q, base ≤ q → A q) : va_D A (mm_w tC (en_ad base b K V r) mm_h0) := by
  have key : ∀ (k : Nat) (q : Nat × va_E), (mm_w tC (en_ad base b K V r) mm_h0)[k]? = some q → k < 216 ∧ q.1 = base + en_p k := by
    intro k q hk
    by_cases hn : k < 216
    · rw [mm_w_at tC _ _ (show k < mm_N from hn)] at hk
      cases hk
      exact ⟨hn, en_ad_lo base b K V r hn⟩
    · rw [mm_w_out tC _ _ (show ¬ k < mm_N from hn)] at hk
      cases hk
  refine ⟨fun i j p q hi hj e => ?_, fun k q hk => ?_⟩
  · obtain ⟨i1, i2⟩ := key i p hi
    obtain ⟨j1, j2⟩ := key j q hj
    have e2 : en_p i = en_p j := by omega
    have z1 := (en_inv i i1).1
    have z2 := (en_inv j j1).1
    rw [e2] at z1
    exact z1.symm.trans z2
  · obtain ⟨k1, k2⟩ := key k q hk
    rw [k2]
    exact hA _ (by omega)
end ENC
theorem en_IV : IV 0 en_h0 := by
  refine ⟨(fun _ _ => 0, 0, 0, 0, 0), fun _ => (fun _ => 0, fun _ => 0, fun _ => 0, fun _ => 0, fun _ => 0, 0, 0), 0, fun _ => 0, 0, 0, [], (0, fun _ => 0, fun _ => 0), fun _ => none, 0, ⟨⟨⟨by decide, by decide, fun c hc => absurd hc (Nat.not_lt_zero _)⟩, ⟨rfl, rfl, rfl, rfl, fun c hc => absurd hc (Nat.not_lt_zero _), fun c hc => absurd hc (Nat.not_lt_zero _)⟩, rfl, by decide, fun r hr => absurd hr (Nat.not_lt_zero _), ⟨rfl, 0, by decide, rfl, Or.inl rfl⟩, ⟨rfl, fun i _ => ⟨⟨0, Nat.le_refl _, rfl⟩, 0, Nat.le_refl _, rfl⟩⟩⟩, ⟨rfl, fun i hi => absurd hi (Nat.not_lt_zero _)⟩, rfl, ⟨rfl, fun i hi => absurd hi (Nat.not_lt_zero _)⟩, ⟨rfl, fun i hi => absurd hi (Nat.not_lt_zero _)⟩, ?_⟩, ⟨⟨⟨by decide, by decide, fun c hc => absurd hc (Nat.not_lt_zero _)⟩, ⟨rfl, rfl, rfl, rfl, fun c hc => absurd hc (Nat.not_lt_zero _), fun c hc => absurd hc (Nat.not_lt_zero _)⟩, rfl, by decide, fun r hr => absurd hr (Nat.not_lt_zero _)⟩, rfl, ⟨rfl, fun i hi => absurd hi (Nat.not_lt_zero _)⟩, rfl, ⟨rfl, fun i hi => absurd hi (Nat.not_lt_zero _)⟩, ⟨rfl, fun i hi => absurd hi (Nat.not_lt_zero _)⟩, ?_⟩, ⟨fun c hc => absurd hc (Nat.not_lt_zero _), ⟨by decide, fun i => ?_⟩, by decide, ⟨by decide, fun i j h1 h2 => absurd h2 (Nat.not_lt_zero _)⟩, ⟨by decide, fun i hi => absurd hi (Nat.not_lt_zero _)⟩, fun k q hq => by cases hq⟩, by decide⟩
  · intro k hk
    match k, hk with
    | 0, _ => rfl
    | 1, _ => rfl
    | 2, _ => rfl
    | 3, _ => rfl
    | n + 4, h => exact absurd h (by omega)
  · intro k hk
    match k, hk with
    | 0, _ => rfl
    | 1, _ => rfl
    | 2, _ => rfl
    | 3, _ => rfl
    | n + 4, h => exact absurd h (by omega)
  · show -128 ≤ (0 : Int32).toInt ∧ (0 : Int32).toInt ≤ 127
    decide
