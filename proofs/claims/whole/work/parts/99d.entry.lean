/-! The law: its entry. Laid by wip/whole/mk99d.py. -/
def en_F : List Cond := flatC (Jvm.Cond.and given_1 narrow_1)
def en_tm (i : Nat) : Term := match mm_so[i]? with
  | some q => .string q.1 q.2.1
  | none => .arg 0
def en_val (i : Nat) : Term := .field (en_tm i) "java/lang/String" "value" "[B"
theorem en_of {ws : List Cond} {args : Array Value} {s : State} (T : List Cond) (ps : List Nat) (h : ∀ w ∈ T, w.before args s = true) (hp : ws = ps.filterMap (fun i => T[i]?)) : ∀ w ∈ ws, w.before args s = true := by
  intro w hw
  rw [hp] at hw
  obtain ⟨i, -, hi⟩ := List.mem_filterMap.mp hw
  exact h w (List.mem_of_getElem? hi)
def en_ex : List Cond := (List.range 18).map (fun i => Cond.exactly (en_tm i) "java/lang/String")
def en_co : List Cond := (List.range 18).map (fun i => Cond.eq (.field (en_tm i) "java/lang/String" "coder" "B") (.int 0))
def en_ar : List Cond := (List.range 18).map (fun i => Cond.arrayOf (en_val i) .byte)
def en_le : List Cond := (List.range 18).map (fun i => Cond.eq (.length (en_val i)) (.int (Int32.ofNat (mm_sl.getD i 0))))
def en_el : List Cond := (List.range 18).flatMap (fun i => (List.range (mm_sl.getD i 0)).map (fun j => Cond.eq (.elem (en_val i) (.int (Int32.ofNat j))) (.int ((mm_sb.getD i []).getD j 0))))
def en_prs : List (Nat × Nat) := [(0, 1), (0, 2), (0, 3), (0, 4), (0, 5), (0, 6), (0, 7), (0, 8), (0, 9), (0, 10), (0, 11), (0, 12), (0, 13), (0, 14), (0, 15), (0, 16), (0, 17), (1, 3), (1, 4), (1, 5), (1, 7), (1, 8), (1, 9), (1, 10), (1, 14), (1, 15), (1, 16), (1, 17), (2, 1), (2, 3), (2, 4), (2, 5), (2, 7), (2, 8), (2, 9), (2, 10), (2, 14), (2, 15), (2, 16), (2, 17), (3, 4), (3, 5), (3, 7), (3, 8), (3, 9), (3, 10), (3, 14), (3, 15), (3, 16), (3, 17), (4, 5), (4, 7), (4, 8), (4, 9), (4, 10), (4, 14), (4, 15), (4, 16), (4, 17), (5, 7), (5, 8), (5, 9), (5, 10), (5, 14), (5, 15), (5, 16), (5, 17), (6, 1), (6, 2), (6, 3), (6, 4), (6, 5), (6, 7), (6, 8), (6, 9), (6, 10), (6, 11), (6, 12), (6, 13), (6, 14), (6, 15), (6, 16), (6, 17), (7, 8), (7, 9), (7, 10), (7, 14), (7, 15), (7, 16), (7, 17), (8, 9), (8, 10), (8, 14), (8, 15), (8, 16), (8, 17), (9, 10), (9, 14), (9, 15), (9, 16), (9, 17), (10, 14), (10, 15), (10, 16), (10, 17), (11, 1), (11, 2), (11, 3), (11, 4), (11, 5), (11, 7), (11, 8), (11, 9), (11, 10), (11, 12), (11, 13), (11, 14), (11, 15), (11, 16), (11, 17), (12, 1), (12, 2), (12, 3), (12, 4), (12, 5), (12, 7), (12, 8), (12, 9), (12, 10), (12, 13), (12, 14), (12, 15), (12, 16), (12, 17), (13, 1), (13, 2), (13, 3), (13, 4), (13, 5), (13, 7), (13, 8), (13, 9), (13, 10), (13, 14), (13, 15), (13, 16), (13, 17), (14, 15), (14, 16), (15, 16), (17, 14), (17, 15), (17, 16)]
def en_ne : List Cond := en_prs.map (fun q => Cond.not (Cond.eq (en_tm q.1) (en_tm q.2)))
set_option maxRecDepth 100000 in
theorem en_ex_p : en_ex = ([33, 192, 175, 206, 222, 239, 130, 258, 276, 295, 315, 139, 152, 163, 359, 381, 404, 339] : List Nat).filterMap (fun i => en_F[i]?) := by decide +kernel
set_option maxRecDepth 100000 in
theorem en_co_p : en_co = ([34, 193, 176, 207, 223, 240, 131, 259, 277, 296, 316, 140, 153, 164, 360, 382, 405, 340] : List Nat).filterMap (fun i => en_F[i]?) := by decide +kernel
set_option maxRecDepth 100000 in
theorem en_ar_p : en_ar = ([35, 194, 177, 208, 224, 241, 132, 260, 278, 297, 317, 141, 154, 165, 361, 383, 406, 341] : List Nat).filterMap (fun i => en_F[i]?) := by decide +kernel
set_option maxRecDepth 100000 in
theorem en_le_p : en_le = ([36, 195, 178, 209, 225, 242, 133, 261, 279, 298, 318, 142, 155, 166, 362, 384, 407, 342] : List Nat).filterMap (fun i => en_F[i]?) := by decide +kernel
set_option maxRecDepth 100000 in
theorem en_el_p : en_el = ([37, 38, 39, 40, 41, 42, 43, 44, 45, 46, 47, 48, 49, 50, 51, 52, 53, 54, 55, 56, 57, 58, 59, 60, 61, 62, 63, 64, 65, 66, 67, 68, 69, 70, 71, 72, 73, 74, 75, 76, 77, 78, 79, 80, 81, 82, 83, 84, 85, 86, 87, 88, 89, 90, 91, 92, 93, 94, 95, 96, 97, 98, 99, 100, 101, 102, 103, 104, 105, 106, 107, 108, 109, 110, 111, 112, 113, 114, 115, 116, 117, 118, 119, 120, 121, 122, 123, 124, 125, 126, 127, 128, 129, 196, 197, 198, 199, 179, 180, 181, 182, 183, 184, 185, 186, 210, 211, 212, 213, 214, 226, 227, 228, 229, 230, 243, 244, 245, 246, 247, 248, 134, 135, 136, 137, 262, 263, 264, 265, 280, 281, 282, 283, 299, 300, 301, 302, 319, 320, 321, 322, 323, 324, 325, 143, 144, 145, 146, 147, 148, 149, 156, 157, 158, 159, 167, 168, 169, 170, 363, 364, 365, 385, 386, 387, 408, 409, 343, 344] : List Nat).filterMap (fun i => en_F[i]?) := by decide +kernel
set_option maxRecDepth 100000 in
theorem en_ne_p : en_ne = ([200, 187, 215, 231, 249, 138, 266, 284, 303, 326, 150, 160, 171, 366, 388, 410, 345, 221, 237, 255, 272, 290, 309, 332, 372, 394, 416, 351, 205, 220, 236, 254, 271, 289, 308, 331, 371, 393, 415, 350, 238, 256, 273, 291, 310, 333, 373, 395, 417, 352, 257, 274, 292, 311, 334, 374, 396, 418, 353, 275, 293, 312, 335, 375, 397, 419, 354, 201, 188, 216, 232, 250, 267, 285, 304, 327, 151, 161, 172, 367, 389, 411, 346, 294, 313, 336, 376, 398, 420, 355, 314, 337, 377, 399, 421, 356, 338, 378, 400, 422, 357, 379, 401, 423, 358, 202, 189, 217, 233, 251, 268, 286, 305, 328, 162, 173, 368, 390, 412, 347, 203, 190, 218, 234, 252, 269, 287, 306, 329, 174, 369, 391, 413, 348, 204, 191, 219, 235, 253, 270, 288, 307, 330, 370, 392, 414, 349, 403, 425, 426, 380, 402, 424] : List Nat).filterMap (fun i => en_F[i]?) := by decide +kernel
def en_sr : List Cond := mm_so.map (fun q => Cond.stringRef q.1 q.2.1 q.2.2)
theorem en_sr_p : en_sr = ([588, 1458, 1457, 1482, 1483, 1484, 1402, 1485, 1486, 1487, 1488, 1403, 1404, 1405, 1502, 1519, 1520, 1489] : List Nat).filterMap (fun i => lw_tbl[i]?) := by decide +kernel
theorem en_prs_b : (List.range 18).all (fun i => (List.range 18).all (fun j => Nat.beq i j || (en_prs.contains (i, j) || en_prs.contains (j, i)))) = true := by decide +kernel
theorem en_prs_all : ∀ i, i < 18 → ∀ j, j < 18 → i ≠ j → (i, j) ∈ en_prs ∨ (j, i) ∈ en_prs := by
  intro i hi j hj hne
  have h := List.all_eq_true.mp (List.all_eq_true.mp en_prs_b i (List.mem_range.mpr hi)) j (List.mem_range.mpr hj)
  rcases Bool.or_eq_true_iff.mp h with q | q
  · exact absurd (Nat.eq_of_beq_eq_true q) hne
  · rcases Bool.or_eq_true_iff.mp q with z | z
    · exact Or.inl (List.contains_iff_mem.mp z)
    · exact Or.inr (List.contains_iff_mem.mp z)
theorem en_S {args : Array Value} {s : State} {A : Nat → Prop} (h : (Jvm.Cond.and given_1 narrow_1).before args s = true) (hA : ∀ a : Nat, a < s.heap.size → ¬ A a) : ∃ adK adV : Nat → Nat, vk_S 18 mm_sl mm_sb adK adV A s s.heap ∧ ∀ i : Nat, i < 18 → (en_tm i).eval args s none [] s = some (.ref (adK i)) := by
  have hf : ∀ w ∈ en_F, w.before args s = true := flat_of_before _ h
  refine vk_Sof (N := 18) (tm := en_tm) (len := mm_sl) (byt := mm_sb) (by decide) (fun i hi => ?_) (fun i hi => ?_) (fun i hi => ?_) (fun i hi => ?_) (fun i hi j hj => ?_) (fun i j hi hj hne => ?_) hA
  · exact en_of en_F _ hf en_ex_p _ (List.mem_map.mpr ⟨i, List.mem_range.mpr hi, rfl⟩)
  · exact en_of en_F _ hf en_co_p _ (List.mem_map.mpr ⟨i, List.mem_range.mpr hi, rfl⟩)
  · exact en_of en_F _ hf en_ar_p _ (List.mem_map.mpr ⟨i, List.mem_range.mpr hi, rfl⟩)
  · exact en_of en_F _ hf en_le_p _ (List.mem_map.mpr ⟨i, List.mem_range.mpr hi, rfl⟩)
  · exact en_of en_F _ hf en_el_p _ (List.mem_flatMap.mpr ⟨i, List.mem_range.mpr hi, List.mem_map.mpr ⟨j, List.mem_range.mpr hj, rfl⟩⟩)
  · rcases en_prs_all i hi j hj hne with q | q
    · exact Or.inl (en_of en_F _ hf en_ne_p _ (List.mem_map.mpr ⟨(i, j), q, rfl⟩))
    · exact Or.inr (en_of en_F _ hf en_ne_p _ (List.mem_map.mpr ⟨(j, i), q, rfl⟩))
theorem en_CS {args : Array Value} {s : State} {A : Nat → Prop} (hts : ∀ w ∈ lw_tbl, w.before args s = true) (h : (Jvm.Cond.and given_1 narrow_1).before args s = true) (hA : ∀ a : Nat, a < s.heap.size → ¬ A a) : va_Z "java/lang/String" "COMPACT_STRINGS" "Z" (.int 1) A s s.heap :=
  va_Zof (hts _ (List.mem_of_getElem? (i := 598) (by decide +kernel))) (hts _ (List.mem_of_getElem? (i := 105) (by decide +kernel))) (va_eqt (flat_of_before _ h _ (List.mem_of_getElem? (i := 4) (by decide +kernel)))) hA
theorem en_SF {args : Array Value} {s : State} {A : Nat → Prop} (hts : ∀ w ∈ lw_tbl, w.before args s = true) (h : (Jvm.Cond.and given_1 narrow_1).before args s = true) (hA : ∀ a : Nat, a < s.heap.size → ¬ A a) : va_Zq "jdk/internal/util/Preconditions" "SIOOBE_FORMATTER" "Ljava/util/function/BiFunction;" A s s.heap :=
  va_Zqof (hts _ (List.mem_of_getElem? (i := 614) (by decide +kernel))) (hts _ (List.mem_of_getElem? (i := 107) (by decide +kernel))) (flat_of_before _ h _ (List.mem_of_getElem? (i := 5) (by decide +kernel))) hA
theorem en_nn_p : mm_nest.map (fun q => Cond.methodLinkNest q.1 q.2.1 q.2.2 "RingingCoins") = ([964, 975, 1023] : List Nat).filterMap (fun i => lw_tbl[i]?) := by decide +kernel
theorem en_cn_p : cc_nest.map (fun q => Cond.methodLinkNest q.1 q.2.1 q.2.2 "RingingCoins") = ([121, 156, 246, 287, 292, 332, 333] : List Nat).filterMap (fun i => lw_tbl[i]?) := by decide +kernel
theorem en_ty {s : State} {args : Array Value} {ty : FieldType} (h : (Cond.arrayClass ty).before args s = true) : ∃ cA, ArrOfT s cA ty ∧ s.vm.findClass ("[" ++ ty.toString) = some cA := by
  obtain ⟨cA, k, comp, h1, h2, h3⟩ := Cond.arrayClass_spec h
  exact ⟨cA, fun n z => ⟨fun q y => (by cases y), k, h2, comp, h3⟩, h1⟩
theorem en_tq {s : State} {args : Array Value} {C : String} (h : (Cond.arrayOver (.object C)).before args s = true) : ∃ cA, ArrOfT s cA (.object C) ∧ va_RA s cA (.object C) := by
  obtain ⟨comp, cA, k, h1, -, h2, h3, h4⟩ := Cond.arrayOver_spec h
  exact ⟨cA, fun n z => ⟨fun q y => (by cases y), k, h2, comp, h3⟩, k, comp, h2, h3, h1, h4⟩
theorem en_cl : ∀ (i : Nat) (r : vw_C), vwCl[i]? = some r → (∀ w ∈ u_ws r.1 r.2.1 r.2.2, w ∈ mm_T0) ∧ ∃ n, Cond.instantiable r.1 n ∈ mm_T0 := by
  intro i r hr
  match i, hr with
  | 0, hr => cases hr; exact ⟨inT0, 15, mm_in 335 (by decide +kernel) rfl⟩
  | 1, hr => cases hr; exact ⟨inT1, 14, mm_in 341 (by decide +kernel) rfl⟩
  | 2, hr => cases hr; exact ⟨inT2, 7, mm_in 475 (by decide +kernel) rfl⟩
  | 3, hr => cases hr; exact ⟨inT3, 7, mm_in 245 (by decide +kernel) rfl⟩
  | 4, hr => cases hr; exact ⟨inT4, 3, mm_in 239 (by decide +kernel) rfl⟩
  | 5, hr => cases hr; exact ⟨inT5, 12, mm_in 155 (by decide +kernel) rfl⟩
  | 6, hr => cases hr; exact ⟨inT6, 4, mm_in 149 (by decide +kernel) rfl⟩
  | 7, hr => cases hr; exact ⟨inT7, 8, mm_in 286 (by decide +kernel) rfl⟩
  | 8, hr => cases hr; exact ⟨inT8, 6, mm_in 120 (by decide +kernel) rfl⟩
  | 9, hr => cases hr; exact ⟨inT9, 7, mm_in 444 (by decide +kernel) rfl⟩
  | 10, hr => cases hr; exact ⟨inT10, 13, mm_in 112 (by decide +kernel) rfl⟩
  | 11, hr => cases hr; exact ⟨inT11, 68, mm_in 1157 (by decide +kernel) rfl⟩
  | n + 12, hr => exact absurd hr (fun z => by cases z)
theorem en_K {args : Array Value} {s : State} (hts : ∀ w ∈ lw_tbl, w.before args s = true) : ∃ (D : va_G) (tC : Nat → ClassId), cc_B D tC s := by
  have words : ∀ w ∈ mm_T0, w.before args s = true := fun w hw => hts w (List.mem_filter.mp hw).1
  have k0 : ∀ i : Nat, ∃ q : ClassId × (Nat → Nat), ∀ r, vwCl[i]? = some r → u_Kn s r.1 r.2.1 r.2.2 q.1 q.2 := by
    intro i
    cases hr : vwCl[i]? with
    | none => exact ⟨(0, fun _ => 0), fun r z => by cases z⟩
    | some r =>
      obtain ⟨h1, n, h2⟩ := en_cl i r hr
      obtain ⟨cC, iS, hk⟩ := u_known (C := r.1) (T := r.2.1) (N := r.2.2) (n := n) words h1 (words _ h2)
      exact ⟨(cC, iS), fun r' z => by cases z; exact hk⟩
  obtain ⟨dq, hdq⟩ := Classical.axiomOfChoice k0
  have ol : (Cond.arrayOver (.object "RingingCoins$Law")).before args s = true := hts _ (List.mem_of_getElem? (i := 284) (by decide +kernel))
  have os : (Cond.arrayOver (.object "RingingCoins$State")).before args s = true := hts _ (List.mem_of_getElem? (i := 330) (by decide +kernel))
  obtain ⟨t1, a1, b1⟩ := en_ty (words _ wA_int)
  obtain ⟨t2, a2, b2⟩ := en_ty (words _ wA_byte)
  obtain ⟨t3, a3, b3⟩ := en_ty (words _ wA_boolean)
  obtain ⟨t4, a4, b4⟩ := en_ty (words _ wA_long)
  obtain ⟨t5, a5, b5⟩ := en_tq ol
  obtain ⟨t6, a6, b6⟩ := en_tq os
  refine ⟨(fun c => (dq c).1, fun c => (dq c).2), fun k => match k with | 1 => t1 | 2 => t2 | 3 => t3 | 4 => t4 | 5 => t5 | _ => t6, ⟨fun c q hq => hdq c q hq, fun k q hq => ?_⟩, ⟨va_AO.of ol, va_AO.of os⟩, fun q hq => ?_⟩
  · match k, hq with
    | 0, hq => cases hq; exact ⟨a1, b1⟩
    | 1, hq => cases hq; exact ⟨a2, b2⟩
    | 2, hq => cases hq; exact ⟨a3, b3⟩
    | 3, hq => cases hq; exact ⟨a4, b4⟩
    | 4, hq => cases hq; exact ⟨a5, b5⟩
    | 5, hq => cases hq; exact ⟨a6, b6⟩
    | n + 6, hq => exact absurd hq (fun z => by cases z)
  · exact va_Nw.of rfl (en_of lw_tbl _ hts en_cn_p _ (List.mem_map.mpr ⟨q, hq, rfl⟩))
