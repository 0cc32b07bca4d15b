/-! Runs by what holds at their end; what a run leaves as it was. -/
/-- from this place the method ends, with an answer and a memory of which P holds -/
def mm_E (d : Nat) (Y : mm_Y) (pc : Nat) (ls : List (Option Value)) (st : List Value) (h : mm_H) (P : Option Value → mm_H → Prop) : Prop := ∃ v h', mm_R d Y pc ls st h v h' ∧ P v h'
section MME
variable {d d2 : Nat} {Y Y2 : mm_Y} {pc pc2 pc3 : Nat} {ls ls2 ls3 : List (Option Value)} {st st2 st3 : List Value} {h h2 h3 : mm_H} {P : Option Value → mm_H → Prop}
theorem mm_Es (f : ∀ v h', mm_R d2 Y2 pc2 ls2 st2 h2 v h' → mm_R d Y pc ls st h v h') (k : mm_E d2 Y2 pc2 ls2 st2 h2 P) : mm_E d Y pc ls st h P := by
  obtain ⟨v, h', hR, hP⟩ := k
  exact ⟨v, h', f v h' hR, hP⟩
theorem mm_Eb {C : Prop} (f : ∀ v h', (C → mm_R d2 Y2 pc2 ls2 st2 h2 v h') → (¬ C → mm_R d2 Y2 pc3 ls3 st3 h3 v h') → mm_R d Y pc ls st h v h') (k : C → mm_E d2 Y2 pc2 ls2 st2 h2 P) (n : ¬ C → mm_E d2 Y2 pc3 ls3 st3 h3 P) : mm_E d Y pc ls st h P := by
  by_cases c : C
  · obtain ⟨v, h', hR, hP⟩ := k c
    exact ⟨v, h', f v h' (fun _ => hR) (fun z => absurd c z), hP⟩
  · obtain ⟨v, h', hR, hP⟩ := n c
    exact ⟨v, h', f v h' (fun z => absurd z c) (fun _ => hR), hP⟩
theorem mm_Ebn {C : Prop} (f : ∀ v h', (¬ C → mm_R d2 Y2 pc2 ls2 st2 h2 v h') → (C → mm_R d2 Y2 pc3 ls3 st3 h3 v h') → mm_R d Y pc ls st h v h') (n : ¬ C → mm_E d2 Y2 pc2 ls2 st2 h2 P) (k : C → mm_E d2 Y2 pc3 ls3 st3 h3 P) : mm_E d Y pc ls st h P := by
  by_cases c : C
  · obtain ⟨v, h', hR, hP⟩ := k c
    exact ⟨v, h', f v h' (fun z => absurd c z) (fun _ => hR), hP⟩
  · obtain ⟨v, h', hR, hP⟩ := n c
    exact ⟨v, h', f v h' (fun _ => hR) (fun z => absurd z c), hP⟩
theorem mm_Er {v : Option Value} {h' : mm_H} (f : mm_R d Y pc ls st h v h') (k : P v h') : mm_E d Y pc ls st h P := ⟨v, h', f, k⟩
theorem mm_E.imp {Q : Option Value → mm_H → Prop} (k : mm_E d Y pc ls st h P) (f : ∀ v g, P v g → Q v g) : mm_E d Y pc ls st h Q := by
  obtain ⟨v, h', hR, hP⟩ := k
  exact ⟨v, h', hR, f v h' hP⟩
theorem mm_Ec {ls' : List (Option Value)} {st' : List Value} {g : mm_H} (hl : ls = ls') (hs : st = st') (hg : h = g) (k : mm_E d Y pc ls' st' g P) : mm_E d Y pc ls st h P := by subst hl; subst hs; subst hg; exact k
theorem mm_El {ls' : List (Option Value)} (hl : mm_leq ls' ls) (k : mm_E d Y pc ls' st h P) : mm_E d Y pc ls st h P := mm_Es (fun _ _ => mm_lessE hl) k
end MME
/-- a method's contract: an answer and a memory of which P holds -/
def mm_EM (d : Nat) (Y : mm_Y) (av : List Value) (h : mm_H) (P : Option Value → mm_H → Prop) : Prop := ∃ v h', mm_M d Y av h v h' ∧ P v h'
theorem mm_EM.of {d : Nat} {Y : mm_Y} {av : List Value} {h : mm_H} {P : Option Value → mm_H → Prop} (ls : List (Option Value)) (hy : plainName Y.1.cls = true) (hls : mm_lo av ++ List.replicate (Y.2.2.1 - (mm_lo av).length) none = ls) (hle : (mm_lo av).length ≤ Y.2.2.1) (k : mm_E d Y 0 ls [] h P) : mm_EM d Y av h P := by
  obtain ⟨v, h', hR, hP⟩ := k
  exact ⟨v, h', mm_M.of ls hy hls hle hR, hP⟩
theorem mm_EM.v {d : Nat} {Y : mm_Y} {av : List Value} {h : mm_H} {P : mm_H → Prop} (k : mm_EM d Y av h (fun v g => v = none ∧ P g)) : ∃ g, mm_M d Y av h none g ∧ P g := by
  obtain ⟨v, g, hM, rfl, hP⟩ := k
  exact ⟨g, hM, hP⟩
theorem mm_EM.i {d : Nat} {Y : mm_Y} {av : List Value} {h : mm_H} {P : Int32 → mm_H → Prop} (k : mm_EM d Y av h (fun v g => ∃ x, v = some (.int x) ∧ P x g)) : ∃ x g, mm_M d Y av h (some (.int x)) g ∧ P x g := by
  obtain ⟨v, g, hM, x, rfl, hP⟩ := k
  exact ⟨x, g, hM, hP⟩
/-- what lies outside p is as it was -/
def frm (p : Nat → Bool) (h g : mm_H) : Prop := (∀ c, p c = false → g.1 c = h.1 c ∧ g.2.1 c = h.2.1 c) ∧ g.2.2 = h.2.2
theorem frm.refl (p : Nat → Bool) (h : mm_H) : frm p h h := ⟨fun _ _ => ⟨rfl, rfl⟩, rfl⟩
theorem frm.trans {p : Nat → Bool} {h g k : mm_H} (a : frm p h g) (b : frm p g k) : frm p h k := ⟨fun c hc => ⟨(b.1 c hc).1.trans (a.1 c hc).1, (b.1 c hc).2.trans (a.1 c hc).2⟩, b.2.trans a.2⟩
theorem frm.mono {p q : Nat → Bool} {h g : mm_H} (a : frm p h g) (hm : ∀ c, q c = false → p c = false) : frm q h g := ⟨fun c hc => a.1 c (hm c hc), a.2⟩
theorem frm.up {p : Nat → Bool} {h g : mm_H} (a : frm p h g) {c k : Nat} {x : Int32} (hc : p c = true) : frm p h (mm_up g.1 c k x, g.2.1, g.2.2) := by
  refine ⟨fun b hb => ?_, a.2⟩
  have : b ≠ c := fun z => by rw [z, hc] at hb; cases hb
  refine ⟨?_, (a.1 b hb).2⟩
  dsimp only
  rw [mm_up_n this]
  exact (a.1 b hb).1
theorem frm.row {p : Nat → Bool} {h g : mm_H} (a : frm p h g) {c : Nat} {x : Nat → Int32} (hc : p c = true) : frm p h (mm_row g.1 c x, g.2.1, g.2.2) := by
  refine ⟨fun b hb => ?_, a.2⟩
  have : b ≠ c := fun z => by rw [z, hc] at hb; cases hb
  refine ⟨?_, (a.1 b hb).2⟩
  dsimp only
  rw [mm_row_n this]
  exact (a.1 b hb).1
theorem frm.rowL {p : Nat → Bool} {h g : mm_H} (a : frm p h g) {c : Nat} {x : Nat → Int64} (hc : p c = true) : frm p h (g.1, mm_rowL g.2.1 c x, g.2.2) := by
  refine ⟨fun b hb => ?_, a.2⟩
  have : b ≠ c := fun z => by rw [z, hc] at hb; cases hb
  refine ⟨(a.1 b hb).1, ?_⟩
  dsimp only
  rw [mm_rowL_n this]
  exact (a.1 b hb).2
theorem frm.upL {p : Nat → Bool} {h g : mm_H} (a : frm p h g) {c k : Nat} {x : Int64} (hc : p c = true) : frm p h (g.1, mm_upL g.2.1 c k x, g.2.2) := frm.rowL a hc
theorem frm.i {p : Nat → Bool} {h g : mm_H} (a : frm p h g) {c : Nat} (hc : p c = false) : g.1 c = h.1 c := (a.1 c hc).1
theorem frm.l {p : Nat → Bool} {h g : mm_H} (a : frm p h g) {c : Nat} (hc : p c = false) : g.2.1 c = h.2.1 c := (a.1 c hc).2
/-- cells from a to b -/
def rg (a b : Nat) : Nat → Bool := fun c => decide (a ≤ c ∧ c ≤ b)
def orp (p q : Nat → Bool) : Nat → Bool := fun c => p c || q c
def onep (a : Nat) : Nat → Bool := fun c => c == a
