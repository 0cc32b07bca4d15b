/-- how many of the first twelve bits are set -/
def pc (a : Nat) : Nat := (List.range 12).foldl (fun s i => s + a / 2 ^ i % 2) 0
def sp_us (x k : Int32) : Int32 := (x.toUInt32 >>> (k.toUInt32 &&& Int32.toUInt32 31)).toInt32
def sp_bc1 (x : Int32) : Int32 := x - (sp_us x 1 &&& 1431655765)
def sp_bc2 (x : Int32) : Int32 := (x &&& 858993459) + (sp_us x 2 &&& 858993459)
def sp_bc3 (x : Int32) : Int32 := (x + sp_us x 4) &&& 252645135
def sp_bc (x : Int32) : Int32 := let y := sp_bc3 (sp_bc2 (sp_bc1 x)); let z := y + sp_us y 8; (z + sp_us z 16) &&& 63
set_option maxRecDepth 100000 in
theorem sp_bc_pc {a : Nat} (ha : a < 4096) : sp_bc (nI a) = nI (pc a) := co_dec (N := 4096) (P := fun a => sp_bc (nI a) = nI (pc a)) (by decide +kernel) ha
set_option maxRecDepth 100000 in
theorem pc_le {a : Nat} (ha : a < 4096) : pc a ≤ 12 := co_dec (N := 4096) (P := fun a => pc a ≤ 12) (by decide +kernel) ha
set_option maxRecDepth 100000 in
theorem pc_cl {a : Nat} (ha : a < 4096) : a = 0 ∨ (nI a &&& (nI a - 1) = nI (a &&& (a - 1)) ∧ a &&& (a - 1) < a ∧ pc (a &&& (a - 1)) + 1 = pc a) := co_dec (N := 4096) (P := fun a => a = 0 ∨ (nI a &&& (nI a - 1) = nI (a &&& (a - 1)) ∧ a &&& (a - 1) < a ∧ pc (a &&& (a - 1)) + 1 = pc a)) (by decide +kernel) ha
