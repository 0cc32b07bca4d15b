/-! Chords as lists of notes; what the class keeps of them. -/
noncomputable def chd (A : MD) (Q : LD) (k a : Nat) : List Int32 := (tL A Q k a).reverse.map (fun t => t.1)
theorem chd_len (A : MD) (Q : LD) (k a : Nat) : (chd A Q k a).length = (tL A Q k a).length := by simp [chd]
theorem chd_at {fn fs fl : Nat → Int32} {A : MD} {Q : LD} {k a : Nat} (h : trep fn fs fl (tL A Q k a)) {i : Nat} (hi : i < (tL A Q k a).length) : fn i = (chd A Q k a).getD i 0 := by
  rw [(h i hi).1]
  unfold chd
  generalize tL A Q k a = t at *
  rw [List.getD_eq_getElem?_getD, List.getD_eq_getElem?_getD, List.getElem?_map, List.getElem?_reverse hi, List.getElem?_eq_getElem (show t.length - 1 - i < t.length by omega)]
  rfl
theorem list_ext_getD {l q : List Int32} (hl : l.length = q.length) (h : ∀ j, j < l.length → l.getD j 0 = q.getD j 0) : l = q := by
  apply List.ext_getElem hl
  intro i h1 h2
  have := h i h1
  rw [List.getD_eq_getElem?_getD, List.getD_eq_getElem?_getD, List.getElem?_eq_getElem h1, List.getElem?_eq_getElem h2] at this
  exact this
/-- sums over the first numbers -/
def sm (f : Nat → Nat) : Nat → Nat
  | 0 => 0
  | n + 1 => sm f n + f n
theorem sm_upd {g : Nat → Nat} {i0 x : Nat} : ∀ m, i0 < m → sm (fun j => if j = i0 then x else g j) m + g i0 = sm g m + x := by
  intro m
  induction m with
  | zero => intro h; omega
  | succ m ih =>
    intro h
    simp only [sm]
    by_cases e : i0 = m
    · subst e
      rw [if_pos rfl]
      have : sm (fun j => if j = i0 then x else g j) i0 = sm g i0 := by
        have key : ∀ q, q ≤ i0 → sm (fun j => if j = i0 then x else g j) q = sm g q := by
          intro q
          induction q with
          | zero => intro _; rfl
          | succ q ih => intro hq; simp only [sm]; rw [ih (by omega), if_neg (by omega)]
        exact key i0 (Nat.le_refl _)
      omega
    · rw [if_neg (by omega)]
      have := ih (by omega)
      omega
theorem sm_le {f g : Nat → Nat} : ∀ n, (∀ i, i < n → f i ≤ g i) → sm f n ≤ sm g n := by
  intro n
  induction n with
  | zero => intro _; exact Nat.le_refl _
  | succ n ih => intro h; simp only [sm]; have := ih (fun i hi => h i (by omega)); have := h n (by omega); omega
theorem sm_c {f g : Nat → Nat} : ∀ n, (∀ i, i < n → f i = g i) → sm f n = sm g n := by
  intro n
  induction n with
  | zero => intro _; rfl
  | succ n ih => intro h; simp only [sm]; rw [ih (fun i hi => h i (by omega)), h n (by omega)]
theorem sm_mono {f : Nat → Nat} {a b : Nat} (h : a ≤ b) : sm f a ≤ sm f b := by
  induction b with
  | zero => have : a = 0 := by omega
            subst this; exact Nat.le_refl _
  | succ b ih =>
    by_cases e : a = b + 1
    · subst e; exact Nat.le_refl _
    · have := ih (by omega); simp only [sm]; omega
/-- different numbers below N sum up to no more than all of them -/
theorem sm_inj {f : Nat → Nat} : ∀ N m (W : Nat → Nat), (∀ i, i < m → W i < N) → (∀ i j, i < m → j < m → W i = W j → i = j) → sm (fun i => f (W i)) m ≤ sm f N := by
  intro N
  induction N with
  | zero => intro m W h1 _; cases m with
    | zero => exact Nat.le_refl _
    | succ m => exact absurd (h1 0 (by omega)) (by omega)
  | succ N ih =>
    intro m W h1 h2
    by_cases e : ∃ i, i < m ∧ W i = N
    · obtain ⟨i0, hi0, hW⟩ := e
      cases m with
      | zero => omega
      | succ m =>
        have q := ih m (fun j => if j = i0 then W m else W j) (fun i hi => by
          by_cases z : i = i0
          · rw [if_pos z]
            have h3 := h1 m (by omega)
            by_cases z2 : W m = N
            · have := h2 m i0 (by omega) (by omega) (z2.trans hW.symm); omega
            · omega
          · rw [if_neg z]
            have h3 := h1 i (by omega)
            by_cases z2 : W i = N
            · have := h2 i i0 (by omega) (by omega) (z2.trans hW.symm); omega
            · omega) (fun i j hi hj hij => by
          by_cases zi : i = i0
          · by_cases zj : j = i0
            · omega
            · rw [if_pos zi, if_neg zj] at hij
              have := h2 m j (by omega) (by omega) hij; omega
          · by_cases zj : j = i0
            · rw [if_neg zi, if_pos zj] at hij
              have := h2 i m (by omega) (by omega) hij; omega
            · rw [if_neg zi, if_neg zj] at hij
              exact h2 i j (by omega) (by omega) hij)
        simp only [sm]
        by_cases z : i0 = m
        · subst z
          rw [hW]
          have : sm (fun i => f (if i = i0 then W i0 else W i)) i0 = sm (fun i => f (W i)) i0 := sm_c i0 (fun i hi => by rw [if_neg (by omega)])
          rw [this] at q
          omega
        · have e2 : sm (fun i => f (if i = i0 then W m else W i)) m = sm (fun j => if j = i0 then f (W m) else f (W j)) m := sm_c m (fun i hi => by split <;> rfl)
          rw [e2] at q
          have := sm_upd (g := fun i => f (W i)) (i0 := i0) (x := f (W m)) m (by omega)
          rw [hW] at this
          omega
    · have := ih m W (fun i hi => by
        have := h1 i hi
        have : W i ≠ N := fun z => e ⟨i, hi, z⟩
        omega) h2
      simp only [sm]
      omega
theorem sm_1 : ∀ n, sm (fun _ => 1) n = n := by
  intro n
  induction n with
  | zero => rfl
  | succ n ih => simp only [sm, ih]
/-- the bits of a set below i -/
def cbt (set : Int32) : Nat → Nat
  | 0 => 0
  | i + 1 => cbt set i + (if sp_bit set i = 1 then 1 else 0)
theorem cbt_mono {set : Int32} {a b : Nat} (h : a ≤ b) : cbt set a ≤ cbt set b := by
  induction b with
  | zero => have : a = 0 := by omega
            subst this; exact Nat.le_refl _
  | succ b ih =>
    by_cases e : a = b + 1
    · subst e; exact Nat.le_refl _
    · have := ih (by omega); simp only [cbt]; omega
theorem ordL_cbt {key str : Nat → Int32} {deaf set : Int32} (n : Nat) : (ordL key str deaf set n).length ≤ cbt set n := by
  induction n with
  | zero => simp [ordL]
  | succ i ih =>
    by_cases h : sp_bit set i = 1 ∧ aud str deaf i
    · rw [ordL_y h, insO_len]; simp only [cbt]; rw [if_pos h.1]; omega
    · rw [ordL_n h]; simp only [cbt]; omega
set_option maxRecDepth 100000 in
theorem cbt_pc {a : Nat} (ha : a < 4096) : cbt (nI a) 12 = pc a := co_dec (N := 4096) (P := fun a => cbt (nI a) 12 = pc a) (by decide +kernel) ha
set_option maxRecDepth 100000 in
theorem sm_pc : sm pc 4096 = 24576 := by decide +kernel
theorem chd_pc {A : MD} (h12 : mn A ≤ 12) (Q : LD) (k : Nat) {a : Nat} (ha : a < 4096) : (chd A Q k a).length ≤ pc a := by
  rw [chd_len]
  have h1 := tonL_len (kN A Q k a) (kS A Q k a) (mb A) (oL A Q k a)
  have h2 := ordL_cbt (key := kN A Q k a) (str := kS A Q k a) (deaf := mf A) (set := nI a) (mn A)
  have h3 := cbt_mono (set := nI a) h12
  rw [cbt_pc ha] at h3
  exact Nat.le_trans h1 (Nat.le_trans h2 h3)
def hsh (l : List Int32) : Int32 := l.foldl (fun h x => h * 31 + x + 1) 0
def plI (n : Nat) (l : List Int32) : Int32 := (hsh l ^^^ sp_us (hsh l) 12) &&& (nI (2 ^ n) - 1)
def pl (n : Nat) (l : List Int32) : Nat := (plI n l).toNatClampNeg
theorem and_nI (x : Int32) {m : Nat} (hm : m < 2 ^ 31) : ∃ j, j ≤ m ∧ x &&& nI m = nI j := by
  refine ⟨x.toBitVec.toNat &&& m, Nat.and_le_right, ?_⟩
  apply Int32.toBitVec_inj.mp
  apply BitVec.eq_of_toNat_eq
  have h1 : (nI m).toBitVec = BitVec.ofNat 32 m := rfl
  have h2 : (nI (x.toBitVec.toNat &&& m)).toBitVec = BitVec.ofNat 32 (x.toBitVec.toNat &&& m) := rfl
  rw [Int32.toBitVec_and, h1, h2, BitVec.toNat_and, BitVec.toNat_ofNat, BitVec.toNat_ofNat, Nat.mod_eq_of_lt (show m < 2 ^ 32 by omega)]
  have : x.toBitVec.toNat &&& m ≤ m := Nat.and_le_right
  rw [Nat.mod_eq_of_lt (by omega)]
theorem pl_lt {n : Nat} (hn : n ≤ 12) (l : List Int32) : pl n l < 2 ^ n ∧ plI n l = nI (pl n l) := by
  have hp := p2_lt hn
  have hq : 0 < 2 ^ n := Nat.pos_of_ne_zero (by simp)
  have e : nI (2 ^ n) - 1 = nI (2 ^ n - 1) := by
    have := nI_pred (2 ^ n - 1)
    rwa [show 2 ^ n - 1 + 1 = 2 ^ n by omega] at this
  obtain ⟨j, hj, ej⟩ := and_nI (hsh l ^^^ sp_us (hsh l) 12) (m := 2 ^ n - 1) (by omega)
  have e2 : plI n l = nI j := by unfold plI; rw [e, ej]
  have e3 : pl n l = j := by unfold pl; rw [e2]; exact nI_clamp (by omega)
  rw [e3, e2]
  exact ⟨by omega, rfl⟩
/-- the last chord in a bucket among the first m, numbered from 1 -/
def lastP (n : Nat) (cw : Nat → List Int32) (p : Nat) : Nat → Nat
  | 0 => 0
  | m + 1 => if pl n (cw m) = p then m + 1 else lastP n cw p m
theorem lastP_le {n : Nat} {cw : Nat → List Int32} {p : Nat} : ∀ m, lastP n cw p m ≤ m := by
  intro m
  induction m with
  | zero => exact Nat.le_refl _
  | succ m ih => simp only [lastP]; split <;> omega
theorem lastP_at {n : Nat} {cw : Nat → List Int32} {p c : Nat} : ∀ m, lastP n cw p m = c + 1 → pl n (cw c) = p := by
  intro m
  induction m with
  | zero => intro h; simp [lastP] at h
  | succ m ih =>
    intro h
    simp only [lastP] at h
    split at h
    · rename_i z; have : c = m := by omega
      subst this; exact z
    · exact ih h
theorem lastP_gap {n : Nat} {cw : Nat → List Int32} {p : Nat} : ∀ m j, lastP n cw p m ≤ j → j < m → ¬ pl n (cw j) = p := by
  intro m
  induction m with
  | zero => intro j _ h; omega
  | succ m ih =>
    intro j h1 h2
    simp only [lastP] at h1
    split at h1
    · omega
    · rename_i z
      by_cases e : j = m
      · subst e; exact z
      · exact ih j h1 (by omega)
theorem lastP_c {n : Nat} {cw cw' : Nat → List Int32} {p : Nat} : ∀ m, (∀ i, i < m → cw i = cw' i) → lastP n cw p m = lastP n cw' p m := by
  intro m
  induction m with
  | zero => intro _; rfl
  | succ m ih => intro h; simp only [lastP]; rw [ih (fun i hi => h i (by omega)), h m (by omega)]
/-- where a chord's notes begin -/
def offs (cw : Nat → List Int32) : Nat → Nat := sm (fun i => (cw i).length)
/-- what the class keeps of the chords: the first set of each, their notes, their buckets, the numbers of the sets that are learnt -/
def cinv (n : Nat) (ch : Nat → List Int32) (wt : Nat → Int32) (h : mm_H) (m : Nat) (W : Nat → Nat) : Prop :=
  (∀ i, i < m → W i < 2 ^ n) ∧ (∀ i j, i < m → j < m → ch (W i) = ch (W j) → i = j) ∧ m ≤ 4096 ∧ offs (fun i => ch (W i)) m ≤ 24576 ∧
  h.1 135 6 = nI m ∧ (∀ i, i ≤ m → h.1 138 (i + 1) = nI (offs (fun i => ch (W i)) i)) ∧ (∀ i, i < m → ∀ j, j < (ch (W i)).length → h.1 139 (offs (fun i => ch (W i)) i + j) = (ch (W i)).getD j 0) ∧
  (∀ a, a < 2 ^ n → h.1 136 a = 0 ∨ ∃ i, i < m ∧ h.1 136 a = nI (i + 1) ∧ ch (W i) = ch a ∧ h.1 137 a = wt a) ∧
  (∀ p, p < 2 ^ n → h.1 140 p = nI (lastP n (fun i => ch (W i)) p m)) ∧ (∀ i, i < m → h.1 141 (i + 1) = nI (lastP n (fun i => ch (W i)) (pl n (ch (W i))) i))
def wtA (A : MD) (a : Nat) : Int32 := sp_worth (mr A 2) (nI a) (mn A)
theorem sp_wth_c {f g : Nat → Int32} {set : Int32} : ∀ n, (∀ c, c < n → f c = g c) → sp_worth f set n = sp_worth g set n := by
  intro n
  induction n with
  | zero => intro _; rfl
  | succ i ih => intro h; simp only [sp_worth, ih (fun c hc => h c (by omega)), h i (by omega)]
/-- the class is turned to a law and a counter -/
def aimed (A : MD) (Q : LD) (r k : Nat) (h : mm_H) : Prop := viewC h A ∧ lawC h.1 (25 + 6 * r) Q ∧ h.2.2 145 = 25 + 6 * r ∧ h.1 145 2 = nI k ∧ kinv A Q k h ∧ ∃ m W, cinv (mn A) (chd A Q k) (wtA A) h m W
theorem offs_s (cw : Nat → List Int32) (i : Nat) : offs cw (i + 1) = offs cw i + (cw i).length := rfl
theorem offs_le {cw : Nat → List Int32} {a b : Nat} (h : a ≤ b) : offs cw a ≤ offs cw b := sm_mono h
