/-! What the class hears: Ear.aim, listen. -/
theorem mm_acmp_ne {d : Nat} {Y : mm_Y} {pc : Nat} {ls : List (Option Value)} {st : List Value} {h : mm_H} {v : Option Value} {h' : mm_H} {x y : Nat} {off : Int} (tgt : Nat) (hd : decode Y.2.1 pc = .ok (.if_acmp .ne off, 3)) (ht : (pc : Int) + off = (tgt : Int)) (hx : x < mm_N ∧ y < mm_N) (kt : ¬ x = y → mm_R d Y tgt ls st h v h') (kf : x = y → mm_R d Y (pc + 3) ls st h v h') : mm_R d Y pc ls (.ref y :: .ref x :: st) h v h' := by
  intro p l e s m args below meth c D tC ad A C H locs la hP hS hL
  have hD : va_D A (mm_w tC ad mm_h0) := C.2.2.2.2.2.2.2.2.2.1
  refine lv_acmp_ne (rx := some (ad x)) (ry := some (ad y)) C.1 C.2.1 hd ht (fun z => ?_) (fun z => ?_)
  · exact kt (fun q => z (by rw [q])) p l e s m args below meth c D tC ad A C H locs la hP hS hL
  · have : x = y := hD.1 x y _ _ (mm_w_at tC ad mm_h0 hx.1) (mm_w_at tC ad mm_h0 hx.2) (Option.some.inj z)
    exact kf this p l e s m args below meth c D tC ad A C H locs la hP hS hL
theorem nI_mul (a b : Nat) : nI a * nI b = nI (a * b) := (Int32.ofNat_mul a b).symm
/-- what a coin sounds hangs on how many fall, and on the loudest -/
def swO (A : MD) (k o l c : Nat) : Nat → Int64 := wds (mr A 0) (mr A 1) (mr A 2) (mr A 5) (mr A 3) (mr A 6 k) (mr A 7 k) (nI (o + 1)) (mr A 1 l) c
def slO (A : MD) (o l c : Nat) : Nat := (o * mn A + l) * mn A + c
/-- what the ear knows is right -/
def kinv (A : MD) (Q : LD) (k : Nat) (h : mm_H) : Prop := ∀ o l c, o < mn A → l < mn A → c < mn A → h.1 146 (slO A o l c) = -20000 ∨ (h.1 146 (slO A o l c) = snd_ Q (swO A k o l c) 0 ∧ h.1 147 (slO A o l c) = snd_ Q (swO A k o l c) 1)
theorem slO_lt {A : MD} (h12 : mn A ≤ 12) {o l c : Nat} (ho : o < mn A) (hl : l < mn A) (hc : c < mn A) : slO A o l c < mn A * mn A * mn A := by
  unfold slO
  generalize mn A = n at *
  have h1 : o * n + l < n * n := by
    have : (o + 1) * n ≤ n * n := Nat.mul_le_mul_right n (by omega)
    rw [Nat.add_mul] at this
    omega
  have h2 : (o * n + l + 1) * n ≤ n * n * n := Nat.mul_le_mul_right n h1
  rw [Nat.add_mul] at h2
  omega
theorem cube_le {n : Nat} (h : n ≤ 12) : n * n * n ≤ 1728 := Nat.mul_le_mul (Nat.mul_le_mul h h) h
theorem slO_inj {A : MD} {o l c o' l' c' : Nat} (hl : l < mn A) (hc : c < mn A) (hl' : l' < mn A) (hc' : c' < mn A) (e : slO A o l c = slO A o' l' c') : o = o' ∧ l = l' ∧ c = c' := by
  unfold slO at e
  generalize mn A = n at *
  have hn : 0 < n := by omega
  have e1 : c = c' := by
    have := congrArg (· % n) e
    simp only [Nat.mul_add_mod_self_right, Nat.mod_eq_of_lt hc, Nat.mod_eq_of_lt hc'] at this
    exact this
  subst e1
  have e2 : o * n + l = o' * n + l' := Nat.eq_of_mul_eq_mul_right hn (by omega)
  have e3 : l = l' := by
    have := congrArg (· % n) e2
    simp only [Nat.mul_add_mod_self_right, Nat.mod_eq_of_lt hl, Nat.mod_eq_of_lt hl'] at this
    exact this
  subst e3
  exact ⟨Nat.eq_of_mul_eq_mul_right hn (by omega), rfl, rfl⟩
theorem hold_ne (x : Int64) : ¬ (hold 0 x).toInt32 = -20000 := by
  intro e
  have h1 : -9999 ≤ (hold 0 x).toInt ∧ (hold 0 x).toInt ≤ 9999 := by
    have eh : hold 0 x = if x < -9999 then -9999 else if 9999 < x then 9999 else x := rfl
    rw [eh]
    simp only [Int64.lt_iff_toInt_lt]
    have a1 : (-9999 : Int64).toInt = -9999 := by decide
    have a2 : (9999 : Int64).toInt = 9999 := by decide
    split
    · rw [a1]; omega
    · split
      · rw [a2]; omega
      · omega
  have h2 : (hold 0 x).toInt32.toInt = (hold 0 x).toInt := by
    rw [Int64.toInt_toInt32, Int.bmod_eq_of_le (by simp; omega) (by simp; omega)]
  rw [e] at h2
  have : (-20000 : Int32).toInt = -20000 := by decide
  omega
/-- the place of a coin's sounds, if a set falls -/
def slt (A : MD) (a c : Nat) : Nat := slO A (pc a - 1) ((sp_lo (mr A 1) (nI a) (mn A)).getD 0) c
set_option maxRecDepth 100000 in
theorem pc_n {n a : Nat} (hn : n ≤ 12) (ha : a < 2 ^ n) : pc a ≤ n := by
  have H : ∀ n, n < 13 → ∀ a, a < 2 ^ n → pc a ≤ n := by decide +kernel
  exact H n (by omega) a ha
set_option maxRecDepth 100000 in
theorem pc_pos {a c : Nat} (ha : a < 4096) (hc : c < 12) (hb : sp_bit (nI a) c = 1) : 1 ≤ pc a := by
  rcases Nat.eq_zero_or_pos a with z | z
  · subst z
    have : ∀ c, c < 12 → ¬ sp_bit (nI 0) c = 1 := by decide +kernel
    exact absurd hb (this c hc)
  · rcases pc_cl ha with q | q
    · omega
    · omega
theorem p2_le {n : Nat} (h : n ≤ 12) : 2 ^ n ≤ 4096 := Nat.pow_le_pow_right (n := 2) (by decide) h
/-- the coin's words by the slot are the coin's words -/
theorem sw_swO {A : MD} (hA : mdOK A) {k a c : Nat} (ha : a < 2 ^ mn A) (hc : c < mn A) (hb : sp_bit (nI a) c = 1) : ∃ l, sp_lo (mr A 1) (nI a) (mn A) = some l ∧ l < mn A ∧ 1 ≤ pc a ∧ pc a - 1 < mn A ∧ sw A k a c = swO A k (pc a - 1) l c := by
  obtain ⟨l, hl⟩ := sp_lo_some (st := mr A 1) hc hb
  have h12 := hA.1
  have hp := pc_pos (by have := p2_le h12; omega) (by omega) hb
  have hp2 := pc_n h12 ha
  refine ⟨l, hl, sp_lo_lt hl, hp, by omega, ?_⟩
  unfold sw swO
  rw [(sp_lo_lm (mn A) (fun j hj => (hA.2.2 j hj).1)).2 l hl]
  have : pc a - 1 + 1 = pc a := by omega
  rw [this]
def pL : Nat → Bool := rg 145 151
/-- after the first coins -/
def lst_st (A : MD) (Q : LD) (k a : Nat) (h g : mm_H) (i : Nat) : Prop := frm pL h g ∧ (∀ j, j ≠ 9 → g.1 145 j = h.1 145 j) ∧ g.1 145 9 = nI (ordL (kN A Q k a) (kS A Q k a) (mf A) (nI a) i).length ∧ rrep (g.1 151) (ordL (kN A Q k a) (kS A Q k a) (mf A) (nI a) i) ∧ kinv A Q k g ∧ ∀ j, j < i → sp_bit (nI a) j = 1 → g.1 150 j = nI (slt A a j) ∧ g.1 146 (slt A a j) = kN A Q k a j ∧ g.1 147 (slt A a j) = kS A Q k a j
set_option maxRecDepth 100000 in
set_option maxHeartbeats 4000000 in
theorem mX1_aim (d : Nat) (h : mm_H) (A : MD) (hA : mdOK A) (hV : viewC h A) (Q : LD) (b k : Nat) : ∃ g, mm_M d YX1_aim [.ref 145, .ref b, .int (nI k)] h none g ∧ frm (rg 145 146) (h.1, h.2.1, mm_upR h.2.2 145 b) g ∧ (∀ j, j ≠ 2 → g.1 145 j = h.1 145 j) ∧ g.1 145 2 = nI k ∧ kinv A Q k g := by
  refine mm_EM.v (mm_EM.of [some (.ref 145), some (.ref b), some (.int (nI k)), none, none] rfl rfl (Nat.le_of_ble_eq_true rfl) ?_)
  have h12 := hA.1
  have hcu := cube_le h12
  obtain ⟨N, eN⟩ : ∃ N, N = mn A * mn A * mn A := ⟨_, rfl⟩
  have K37 : ∀ m i, i + m = N → ∀ g, frm (rg 145 146) (h.1, h.2.1, mm_upR h.2.2 145 b) g ∧ (∀ j, j ≠ 2 → g.1 145 j = h.1 145 j) ∧ g.1 145 2 = nI k → (∀ j, j < i → g.1 146 j = -20000) → mm_E d YX1_aim 37 [some (.ref 145), some (.ref b), some (.int (nI k)), some (.int (nI N)), some (.int (nI i))] [] g (fun v g => v = none ∧ frm (rg 145 146) (h.1, h.2.1, mm_upR h.2.2 145 b) g ∧ (∀ j, j ≠ 2 → g.1 145 j = h.1 145 j) ∧ g.1 145 2 = nI k ∧ kinv A Q k g) := by
    intro m
    induction m with
    | zero =>
      intro i hi g S hz
      have hi : i = N := by omega
      subst hi
      refine mm_Es (fun _ _ => mm_iload dX1_aim_37 rfl) ?_
      refine mm_Es (fun _ _ => mm_iload_n dX1_aim_39 rfl rfl) ?_
      refine mm_Eb (fun _ _ => mm_icmp_ge 59 dX1_aim_40 (by decide)) (fun c_40 => ?_) (fun c_40 => ?_)
      · refine mm_Er (mm_return dX1_aim_59 rfl) ?_
        refine ⟨rfl, S.1, S.2.1, S.2.2, fun o l c ho hl hc => Or.inl (hz _ ?_)⟩
        rw [eN]
        exact slO_lt h12 ho hl hc
      · exact absurd (Int32.le_refl _) c_40
    | succ m ih =>
      intro i hi g S hz
      have K := ih (i + 1) (by omega) (mm_up g.1 146 i (-20000), g.2.1, g.2.2) ⟨S.1.up rfl, fun j hj => by dsimp only; rw [mm_up_n (by decide)]; exact S.2.1 j hj, by dsimp only; rw [mm_up_n (by decide)]; exact S.2.2⟩ (fun j hj => by
        dsimp only
        rw [mm_up_s]
        unfold upd
        by_cases z : j = i
        · rw [if_pos z]
        · rw [if_neg z]; exact hz j (by omega))
      refine mm_Es (fun _ _ => mm_iload dX1_aim_37 rfl) ?_
      refine mm_Es (fun _ _ => mm_iload_n dX1_aim_39 rfl rfl) ?_
      refine mm_Eb (fun _ _ => mm_icmp_ge 59 dX1_aim_40 (by decide)) (fun c_40 => ?_) (fun c_40 => ?_)
      · exact absurd c_40 (nI_ge (by omega) (by omega))
      · refine mm_Es (fun _ _ => mm_aload_n dX1_aim_43 rfl rfl) ?_
        refine mm_Es (fun _ _ => mm_getS dX1_aim_44 fX1_13 sh_145 rfl gr_145_3) ?_
        refine mm_Es (fun _ _ => mm_iload dX1_aim_47 rfl) ?_
        refine mm_Es (fun _ _ => mm_sipush (x := (-20000)) dX1_aim_49 (by decide)) ?_
        refine mm_Es (fun _ _ => mm_iast (i) dX1_aim_52 sh_146 rfl (by omega)) ?_
        refine mm_Es (fun _ _ => mm_iinc dX1_aim_53 rfl rfl rfl) ?_
        refine mm_Es (fun _ _ => mm_goto 37 dX1_aim_56 (by decide)) ?_
        exact mm_Ec (by rw [nI_succ]; rfl) rfl rfl K
  have K := K37 N 0 (by omega) (mm_up h.1 145 2 (nI k), h.2.1, mm_upR h.2.2 145 b) ⟨(frm.refl _ (h.1, h.2.1, mm_upR h.2.2 145 b)).up rfl, fun j hj => by dsimp only; rw [mm_up_k hj], by dsimp only; rw [mm_up_e]⟩ (fun j hj => by omega)
  refine mm_Es (fun _ _ => mm_aload_n dX1_aim_0 rfl rfl) ?_
  refine mm_Es (fun _ _ => mm_aload_n dX1_aim_1 rfl rfl) ?_
  refine mm_Es (fun _ _ => mm_putR dX1_aim_2 fX1_48 sh_145 rfl (by decide) (by decide)) ?_
  refine mm_Es (fun _ _ => mm_aload_n dX1_aim_5 rfl rfl) ?_
  refine mm_Es (fun _ _ => mm_iload_n dX1_aim_6 rfl rfl) ?_
  refine mm_Es (fun _ _ => mm_putI dX1_aim_7 fX1_52 sh_145 rfl rfl rfl) ?_
  refine mm_Es (fun _ _ => mm_aload_n dX1_aim_10 rfl rfl) ?_
  refine mm_Es (fun _ _ => mm_getS dX1_aim_11 fX1_44 sh_145 rfl gr_145_0) ?_
  refine mm_Es (fun _ _ => mm_getI dX1_aim_14 fX1_56 sh_65 rfl) ?_
  refine mm_Es (fun _ _ => mm_aload_n dX1_aim_17 rfl rfl) ?_
  refine mm_Es (fun _ _ => mm_getS dX1_aim_18 fX1_44 sh_145 rfl gr_145_0) ?_
  refine mm_Es (fun _ _ => mm_getI dX1_aim_21 fX1_56 sh_65 rfl) ?_
  refine mm_Es (fun _ _ => mm_imul dX1_aim_24) ?_
  refine mm_Es (fun _ _ => mm_aload_n dX1_aim_25 rfl rfl) ?_
  refine mm_Es (fun _ _ => mm_getS dX1_aim_26 fX1_44 sh_145 rfl gr_145_0) ?_
  refine mm_Es (fun _ _ => mm_getI dX1_aim_29 fX1_56 sh_65 rfl) ?_
  refine mm_Es (fun _ _ => mm_imul dX1_aim_32) ?_
  refine mm_Es (fun _ _ => mm_istore_n dX1_aim_33 rfl (by decide) rfl) ?_
  refine mm_Es (fun _ _ => mm_iconst (x := 0) dX1_aim_34 (by decide)) ?_
  refine mm_Es (fun _ _ => mm_istore dX1_aim_35 (by decide) rfl) ?_
  refine mm_Ec ?_ rfl rfl K
  dsimp only
  rw [mm_up_n (by decide), hV.1, nI_mul, nI_mul, ← eN]
  rfl
theorem lawC_c {I J : Nat → Nat → Int32} {b : Nat} {Q : LD} (h : lawC I b Q) (e : ∀ c, b ≤ c → c ≤ b + 5 → J c = I c) : lawC J b Q := by
  unfold lawC at *
  rw [e b (by omega) (by omega), e (b + 1) (by omega) (by omega), e (b + 2) (by omega) (by omega), e (b + 3) (by omega) (by omega), e (b + 4) (by omega) (by omega), e (b + 5) (by omega) (by omega)]
  exact h
theorem lawC_f {p : Nat → Bool} {h g : mm_H} {b : Nat} {Q : LD} (hm : lawC h.1 b Q) (e : frm p h g) (hp : ∀ c, b ≤ c → c ≤ b + 5 → p c = false) : lawC g.1 b Q := lawC_c hm (fun c h1 h2 => e.i (hp c h1 h2))
theorem tell_w {h : mm_H} {A : MD} (hV : viewC h A) {k c : Nat} {many ld : Int32} (hk : k < mk A) (hc : c < mn A) : wds (h.1 66) (h.1 67) (h.1 68) (h.1 71) (h.1 69) (h.1 72 k) (h.1 73 k) many ld c = wds (mr A 0) (mr A 1) (mr A 2) (mr A 5) (mr A 3) (mr A 6 k) (mr A 7 k) many ld c := by
  obtain ⟨-, -, -, -, v5, v6⟩ := hV
  obtain ⟨w1, w2, w3, w4, -, w6⟩ := v5 c hc
  rw [(v6 k hk).1, (v6 k hk).2]
  exact wds_c w1 w2 w3 w6 w4
set_option maxRecDepth 100000 in
set_option maxHeartbeats 4000000 in
theorem listen_1 (d : Nat) (h : mm_H) (A : MD) (hA : mdOK A) (hV : viewC h A) (Q : LD) (r : Nat) (hr : r < 6) (hQ : lawOK Q) (hC : lawC h.1 (25 + 6 * r) Q) (hR : h.2.2 145 = 25 + 6 * r) (k : Nat) (hk : k < mk A) (hK : h.1 145 2 = nI k) (a : Nat) (ha : a < 2 ^ mn A) : ∀ m i, i + m = mn A → ∀ g, lst_st A Q k a h g i → mm_E (d + 3) YX1_listen 21 [some (.ref 145), some (.int (nI a)), some (.int (nI ((sp_lo (mr A 1) (nI a) (mn A)).getD 0))), some (.int (nI (pc a) - 1)), some (.int (nI i)), none] [] g (fun v g => v = none ∧ lst_st A Q k a h g (mn A)) := by
  intro m
  induction m with
  | zero =>
    intro i hi g S
    have hi : i = mn A := by omega
    subst hi
    have hVg := viewC_f hV S.1 (fun c hc => rg_f (by omega))
    refine mm_Es (fun _ _ => mm_iload dX1_listen_21 rfl) ?_
    refine mm_Es (fun _ _ => mm_aload_n dX1_listen_23 rfl rfl) ?_
    refine mm_Es (fun _ _ => mm_getS dX1_listen_24 fX1_44 sh_145 rfl gr_145_0) ?_
    refine mm_Es (fun _ _ => mm_getI dX1_listen_27 fX1_56 sh_65 rfl) ?_
    refine mm_Eb (fun _ _ => mm_icmp_ge 228 dX1_listen_30 (by decide)) (fun c_30 => ?_) (fun c_30 => ?_)
    · refine mm_Er (mm_return dX1_listen_228 rfl) ?_
      exact ⟨rfl, S⟩
    · exact absurd (by rw [hVg.1]; exact Int32.le_refl _) c_30
  | succ m ih =>
    intro i hi g S
    have hin : i < mn A := by omega
    have h12 := hA.1
    have hk4 := hA.2.1
    obtain ⟨fS, s2, s3, s4, s5, s6⟩ := S
    have hVg := viewC_f hV fS (fun c hc => rg_f (by omega))
    have hCg := lawC_f hC fS (fun c h1 h2 => rg_f (by omega))
    have hRg : g.2.2 145 = 25 + 6 * r := by rw [fS.2]; exact hR
    have hKg : g.1 145 2 = nI k := by rw [s2 2 (by decide)]; exact hK
    have hol := ordL_len (key := kN A Q k a) (str := kS A Q k a) (deaf := mf A) (set := nI a) i
    have K222 : ∀ g2, lst_st A Q k a h g2 (i + 1) → ∀ x5, mm_E (d + 3) YX1_listen 222 [some (.ref 145), some (.int (nI a)), some (.int (nI ((sp_lo (mr A 1) (nI a) (mn A)).getD 0))), some (.int (nI (pc a) - 1)), some (.int (nI i)), x5] [] g2 (fun v g => v = none ∧ lst_st A Q k a h g (mn A)) := by
      intro g2 S2 x5
      have K := ih (i + 1) (by omega) g2 S2
      refine mm_Es (fun _ _ => mm_iinc dX1_listen_222 rfl rfl rfl) ?_
      refine mm_Es (fun _ _ => mm_goto 21 dX1_listen_225 (by decide)) ?_
      refine mm_El ?_ K
      exact ⟨rfl, rfl, rfl, rfl, by rw [nI_succ]; rfl, trivial⟩
    by_cases hb : sp_bit (nI a) i = 1
    · obtain ⟨l, hl, hln, hp, hp2, hw⟩ := sw_swO (k := k) hA ha hin hb
      have esl : slt A a i = slO A (pc a - 1) l i := by unfold slt; rw [hl]; rfl
      have hsl := slO_lt h12 hp2 hln hin
      have hcu := cube_le h12
      obtain ⟨s, es⟩ : ∃ s, s = slO A (pc a - 1) l i := ⟨_, rfl⟩
      rw [← es] at hsl esl
      have hs : s < 1728 := by omega
      have eN : kN A Q k a i = snd_ Q (swO A k (pc a - 1) l i) 0 := by unfold kN; rw [hw]
      have eS : kS A Q k a i = snd_ Q (swO A k (pc a - 1) l i) 1 := by unfold kS; rw [hw]
      have eslot : (nI (pc a) - 1) * nI (mn A) + nI l = nI ((pc a - 1) * mn A + l) := by
        have : nI (pc a) - 1 = nI (pc a - 1) := by
          have := nI_pred (pc a - 1)
          rwa [show pc a - 1 + 1 = pc a by omega] at this
        rw [this, nI_mul, nI_add]
      have K180 : ∀ g2, lst_st A Q k a h g2 i → g2.1 146 s = kN A Q k a i → g2.1 147 s = kS A Q k a i → mm_E (d + 3) YX1_listen 180 [some (.ref 145), some (.int (nI a)), some (.int (nI ((sp_lo (mr A 1) (nI a) (mn A)).getD 0))), some (.int (nI (pc a) - 1)), some (.int (nI i)), some (.int (nI s))] [] g2 (fun v g => v = none ∧ lst_st A Q k a h g (mn A)) := by
        intro g2 S2 e146 e147
        obtain ⟨fS2, t2, t3, t4, t5, t6⟩ := S2
        have hVg2 := viewC_f hV fS2 (fun c hc => rg_f (by omega))
        obtain ⟨G, hG⟩ : ∃ G : mm_H, G = (mm_up g2.1 150 i (nI s), g2.2.1, g2.2.2) := ⟨_, rfl⟩
        have G150 : ∀ j, G.1 150 j = if j = i then nI s else g2.1 150 j := by intro j; rw [hG]; dsimp only; rw [mm_up_s]; rfl
        have Gn : ∀ c, c ≠ 150 → G.1 c = g2.1 c := by intro c hc; rw [hG]; dsimp only; rw [mm_up_n hc]
        have fG : frm pL h G := by rw [hG]; exact fS2.up rfl
        have t6' : ∀ j, j < i + 1 → sp_bit (nI a) j = 1 → G.1 150 j = nI (slt A a j) ∧ G.1 146 (slt A a j) = kN A Q k a j ∧ G.1 147 (slt A a j) = kS A Q k a j := by
          intro j hj hbj
          rw [G150, Gn 146 (by decide), Gn 147 (by decide)]
          by_cases z : j = i
          · subst z; rw [if_pos rfl, esl]; exact ⟨rfl, e146, e147⟩
          · rw [if_neg z]; exact t6 j (by omega) hbj
        have t5' : kinv A Q k G := by unfold kinv; rw [Gn 146 (by decide), Gn 147 (by decide)]; exact t5
        have e147' : G.1 147 s = kS A Q k a i := by rw [Gn 147 (by decide)]; exact e147
        have e65 : G.1 65 11 = mf A := by rw [Gn 65 (by decide)]; exact hVg2.2.2.2.1
        by_cases hau : aud (kS A Q k a) (mf A) i
        · have hO := ordL_y (key := kN A Q k a) (str := kS A Q k a) (deaf := mf A) (set := nI a) (i := i) ⟨hb, hau⟩
          have M := mX1_putInOrder (d + 1) G (kN A Q k a) i (by omega) (ordL (kN A Q k a) (kS A Q k a) (mf A) (nI a) i) (by omega) (by rw [Gn 145 (by decide)]; exact t3) (by rw [Gn 151 (by decide)]; exact t4) (fun j hj => by
            have q : j < i + 1 ∧ sp_bit (nI a) j = 1 := by
              rcases hj with hj | hj
              · have := ordL_mem i j hj; exact ⟨by omega, this.2.1⟩
              · subst hj; exact ⟨by omega, hb⟩
            obtain ⟨l2, hl2, hln2, hp2', hp22, -⟩ := sw_swO (k := k) hA ha (show j < mn A by omega) q.2
            have hsl2 := slO_lt h12 hp22 hln2 (show j < mn A by omega)
            refine ⟨by omega, slt A a j, ?_, (t6' j q.1 q.2).1, (t6' j q.1 q.2).2.1⟩
            unfold slt; rw [hl2]; exact Nat.lt_of_lt_of_le hsl2 hcu)
          have K := K222 _ (show lst_st A Q k a h (mm_up (mm_row G.1 151 (sp_ins (G.1 151) (posD (kN A Q k a) (kN A Q k a i) (ordL (kN A Q k a) (kS A Q k a) (mf A) (nI a) i) (ordL (kN A Q k a) (kS A Q k a) (mf A) (nI a) i).length) (nI i) (ordL (kN A Q k a) (kS A Q k a) (mf A) (nI a) i).length)) 145 9 (nI ((ordL (kN A Q k a) (kS A Q k a) (mf A) (nI a) i).length + 1)), G.2.1, G.2.2) (i + 1) from by
            refine ⟨(fG.row rfl).up rfl, fun j hj => ?_, ?_, ?_, ?_, fun j hj hbj => ?_⟩
            · dsimp only; rw [mm_up_k hj, mm_row_n (by decide), Gn 145 (by decide)]; exact t2 j hj
            · dsimp only; rw [mm_up_e, hO, insO_len]
            · dsimp only; rw [mm_up_n (by decide), mm_row_s, hO]; exact insO_rrep (by rw [Gn 151 (by decide)]; exact t4)
            · unfold kinv; dsimp only; rw [mm_up_n (by decide), mm_row_n (by decide), mm_up_n (by decide), mm_row_n (by decide)]; exact t5'
            · dsimp only; rw [mm_up_n (by decide), mm_row_n (by decide), mm_up_n (by decide), mm_row_n (by decide), mm_up_n (by decide), mm_row_n (by decide)]; exact t6' j hj hbj)
          refine mm_Es (fun _ _ => mm_aload_n dX1_listen_180 rfl rfl) ?_
          refine mm_Es (fun _ _ => mm_getS dX1_listen_181 fX1_29 sh_145 rfl gr_145_7) ?_
          refine mm_Es (fun _ _ => mm_iload dX1_listen_184 rfl) ?_
          refine mm_Es (fun _ _ => mm_iload dX1_listen_186 rfl) ?_
          refine mm_Es (fun _ _ => mm_iast (i) dX1_listen_188 sh_150 rfl (by omega)) ?_
          refine mm_Es (fun _ _ => mm_cast (g := G) rfl rfl hG.symm) ?_
          refine mm_Es (fun _ _ => mm_aload_n dX1_listen_189 rfl rfl) ?_
          refine mm_Es (fun _ _ => mm_getS dX1_listen_190 fX1_17 sh_145 rfl gr_145_4) ?_
          refine mm_Es (fun _ _ => mm_iload dX1_listen_193 rfl) ?_
          refine mm_Es (fun _ _ => mm_iald (s) dX1_listen_195 sh_147 rfl (by omega)) ?_
          refine mm_Es (fun _ _ => mm_cast (st' := [.int (kS A Q k a i)]) rfl (by rw [e147']) rfl) ?_
          refine mm_Eb (fun _ _ => mm_if_le 222 dX1_listen_196 (by decide)) (fun c_196 => ?_) (fun c_196 => ?_)
          · exact absurd c_196 hau.1
          · refine mm_Es (fun _ _ => mm_aload_n dX1_listen_199 rfl rfl) ?_
            refine mm_Es (fun _ _ => mm_getS dX1_listen_200 fX1_17 sh_145 rfl gr_145_4) ?_
            refine mm_Es (fun _ _ => mm_iload dX1_listen_203 rfl) ?_
            refine mm_Es (fun _ _ => mm_iald (s) dX1_listen_205 sh_147 rfl (by omega)) ?_
            refine mm_Es (fun _ _ => mm_aload_n dX1_listen_206 rfl rfl) ?_
            refine mm_Es (fun _ _ => mm_getS dX1_listen_207 fX1_44 sh_145 rfl gr_145_0) ?_
            refine mm_Es (fun _ _ => mm_getI dX1_listen_210 fX1_91 sh_65 rfl) ?_
            refine mm_Es (fun _ _ => mm_cast (st' := [.int (mf A), .int (kS A Q k a i)]) rfl (by rw [e147', e65]) rfl) ?_
            refine mm_Eb (fun _ _ => mm_icmp_lt 222 dX1_listen_213 (by decide)) (fun c_213 => ?_) (fun c_213 => ?_)
            · exact absurd c_213 hau.2
            · refine mm_Es (fun _ _ => mm_aload_n dX1_listen_216 rfl rfl) ?_
              refine mm_Es (fun _ _ => mm_iload dX1_listen_217 rfl) ?_
              refine mm_Es (fun _ _ => mm_cV (Y1 := YX1_putInOrder) dX1_listen_219 lX1_94 vX1_putInOrder (M) sh_145 rfl rfl (by simp [Value.category])) ?_
              exact K _
        · have hO := ordL_n (key := kN A Q k a) (str := kS A Q k a) (deaf := mf A) (set := nI a) (i := i) (fun z => hau z.2)
          have K := K222 G ⟨fG, fun j hj => by rw [Gn 145 (by decide)]; exact t2 j hj, by rw [Gn 145 (by decide), hO]; exact t3, by rw [Gn 151 (by decide), hO]; exact t4, t5', t6'⟩
          refine mm_Es (fun _ _ => mm_aload_n dX1_listen_180 rfl rfl) ?_
          refine mm_Es (fun _ _ => mm_getS dX1_listen_181 fX1_29 sh_145 rfl gr_145_7) ?_
          refine mm_Es (fun _ _ => mm_iload dX1_listen_184 rfl) ?_
          refine mm_Es (fun _ _ => mm_iload dX1_listen_186 rfl) ?_
          refine mm_Es (fun _ _ => mm_iast (i) dX1_listen_188 sh_150 rfl (by omega)) ?_
          refine mm_Es (fun _ _ => mm_cast (g := G) rfl rfl hG.symm) ?_
          refine mm_Es (fun _ _ => mm_aload_n dX1_listen_189 rfl rfl) ?_
          refine mm_Es (fun _ _ => mm_getS dX1_listen_190 fX1_17 sh_145 rfl gr_145_4) ?_
          refine mm_Es (fun _ _ => mm_iload dX1_listen_193 rfl) ?_
          refine mm_Es (fun _ _ => mm_iald (s) dX1_listen_195 sh_147 rfl (by omega)) ?_
          refine mm_Es (fun _ _ => mm_cast (st' := [.int (kS A Q k a i)]) rfl (by rw [e147']) rfl) ?_
          refine mm_Eb (fun _ _ => mm_if_le 222 dX1_listen_196 (by decide)) (fun c_196 => ?_) (fun c_196 => ?_)
          · exact K _
          · refine mm_Es (fun _ _ => mm_aload_n dX1_listen_199 rfl rfl) ?_
            refine mm_Es (fun _ _ => mm_getS dX1_listen_200 fX1_17 sh_145 rfl gr_145_4) ?_
            refine mm_Es (fun _ _ => mm_iload dX1_listen_203 rfl) ?_
            refine mm_Es (fun _ _ => mm_iald (s) dX1_listen_205 sh_147 rfl (by omega)) ?_
            refine mm_Es (fun _ _ => mm_aload_n dX1_listen_206 rfl rfl) ?_
            refine mm_Es (fun _ _ => mm_getS dX1_listen_207 fX1_44 sh_145 rfl gr_145_0) ?_
            refine mm_Es (fun _ _ => mm_getI dX1_listen_210 fX1_91 sh_65 rfl) ?_
            refine mm_Es (fun _ _ => mm_cast (st' := [.int (mf A), .int (kS A Q k a i)]) rfl (by rw [e147', e65]) rfl) ?_
            refine mm_Eb (fun _ _ => mm_icmp_lt 222 dX1_listen_213 (by decide)) (fun c_213 => ?_) (fun c_213 => ?_)
            · exact K _
            · exact absurd ⟨c_196, c_213⟩ hau
      rw [hl] at K180 K222 ⊢
      simp only [Option.getD_some] at K180 K222 ⊢
      have BS : ∀ (c : Nat → Prop), True := fun _ => True.intro
      by_cases hkn : g.1 146 s = -20000
      · have e67 : g.1 67 l = mr A 1 l := (hVg.2.2.2.2.1 l hln).2.1
        obtain ⟨w, M1, W1⟩ := mX1_tellWords (d + 1) g k i (nI (pc a)) (mr A 1 l) hKg (by omega) (by omega)
        rw [tell_w hVg hk hin] at W1
        have W1 : wat w (swO A k (pc a - 1) l i) := by
          unfold swO; rw [show pc a - 1 + 1 = pc a by omega]; exact W1
        obtain ⟨w2, M2⟩ := mX3_told d (g.1, mm_rowL g.2.1 148 w, g.2.2) (25 + 6 * r) (law_i r hr) Q hQ hCg 0 (by decide) (w 0 - w 6)
        obtain ⟨w3, M3⟩ := mX3_told d (mm_up g.1 146 s (kN A Q k a i), mm_rowL (mm_rowL g.2.1 148 w) 149 w2, g.2.2) (25 + 6 * r) (law_i r hr) Q hQ (lawC_c hCg (fun c h1 h2 => mm_up_n (by omega))) 1 (by decide) (w 1 - w 7)
        dsimp only at M2 M3
        rw [mm_rowL_s] at M2
        rw [mm_rowL_n (show 148 ≠ 149 by decide), mm_rowL_s] at M3
        have q2 : (hold 0 (tell Q w 0 (w 0 - w 6))).toInt32 = kN A Q k a i := by rw [eN, ← snd_wat W1]; rfl
        have q3 : (hold 1 (tell Q w 1 (w 1 - w 7))).toInt32 = kS A Q k a i := by rw [eS, ← snd_wat W1]; rfl
        have N2 := mX1_heldNote (d + 1) (g.1, mm_rowL (mm_rowL g.2.1 148 w) 149 w2, g.2.2) (tell Q w 0 (w 0 - w 6))
        have N3 := mX1_heldStrength (d + 1) (mm_up g.1 146 s (kN A Q k a i), mm_rowL (mm_rowL (mm_rowL g.2.1 148 w) 149 w2) 149 w3, g.2.2) (tell Q w 1 (w 1 - w 7))
        rw [q2] at N2
        rw [q3] at N3
        obtain ⟨G, hG⟩ : ∃ G : mm_H, G = (mm_up (mm_up g.1 146 s (kN A Q k a i)) 147 s (kS A Q k a i), mm_rowL (mm_rowL (mm_rowL g.2.1 148 w) 149 w2) 149 w3, g.2.2) := ⟨_, rfl⟩
        have fG : frm pL h G := by
          rw [hG]
          exact ((((fS.rowL (c := 148) rfl).rowL (c := 149) rfl).rowL (c := 149) rfl).up (c := 146) rfl).up (c := 147) rfl
        have G146 : ∀ j, G.1 146 j = if j = s then kN A Q k a i else g.1 146 j := by
          intro j; rw [hG]; dsimp only; rw [mm_up_n (by decide), mm_up_s]; rfl
        have G147 : ∀ j, G.1 147 j = if j = s then kS A Q k a i else g.1 147 j := by
          intro j; rw [hG]; dsimp only; rw [mm_up_s, mm_up_n (by decide)]; rfl
        have Gn : ∀ c, c ≠ 146 → c ≠ 147 → G.1 c = g.1 c := by intro c h1 h2; rw [hG]; dsimp only; rw [mm_up_n h2, mm_up_n h1]
        have K := K180 G (by
          refine ⟨fG, fun j hj => ?_, ?_, ?_, fun o' l' c' ho' hl' hc' => ?_, fun j hj hbj => ?_⟩
          · rw [Gn 145 (by decide) (by decide)]; exact s2 j hj
          · rw [Gn 145 (by decide) (by decide)]; exact s3
          · rw [Gn 151 (by decide) (by decide)]; exact s4
          · rw [G146, G147]
            by_cases z : slO A o' l' c' = s
            · rw [if_pos z, if_pos z]
              obtain ⟨z1, z2, z3⟩ := slO_inj hl' hc' hln hin (z.trans es)
              subst z1; subst z2; subst z3
              exact Or.inr ⟨eN, eS⟩
            · rw [if_neg z, if_neg z]; exact s5 o' l' c' ho' hl' hc'
          · rw [Gn 150 (by decide) (by decide), G146, G147]
            have z : slt A a j ≠ s := by
              intro z
              obtain ⟨l2, hl2, hln2, -, -, -⟩ := sw_swO (k := k) hA ha (show j < mn A by omega) hbj
              have q : slt A a j = slO A (pc a - 1) l2 j := by unfold slt; rw [hl2]; rfl
              rw [q, es] at z
              have := (slO_inj hln2 (by omega) hln hin z).2.2
              omega
            rw [if_neg z, if_neg z]
            exact s6 j hj hbj) (by rw [G146, if_pos rfl]) (by rw [G147, if_pos rfl])
        refine mm_Es (fun _ _ => mm_iload dX1_listen_21 rfl) ?_
        refine mm_Es (fun _ _ => mm_aload_n dX1_listen_23 rfl rfl) ?_
        refine mm_Es (fun _ _ => mm_getS dX1_listen_24 fX1_44 sh_145 rfl gr_145_0) ?_
        refine mm_Es (fun _ _ => mm_getI dX1_listen_27 fX1_56 sh_65 rfl) ?_
        refine mm_Eb (fun _ _ => mm_icmp_ge 228 dX1_listen_30 (by decide)) (fun c_30 => ?_) (fun c_30 => ?_)
        · exact absurd (by rw [hVg.1] at c_30; exact c_30) (nI_ge hin (by omega))
        · refine mm_Es (fun _ _ => mm_iload_n dX1_listen_33 rfl rfl) ?_
          refine mm_Es (fun _ _ => mm_iload dX1_listen_34 rfl) ?_
          refine mm_Es (fun _ _ => mm_ishr dX1_listen_36) ?_
          refine mm_Es (fun _ _ => mm_iconst (x := 1) dX1_listen_37 (by decide)) ?_
          refine mm_Es (fun _ _ => mm_iand dX1_listen_38) ?_
          refine mm_Es (fun _ _ => mm_iconst (x := 1) dX1_listen_39 (by decide)) ?_
          refine mm_Ebn (fun _ _ => mm_icmp_ne 222 dX1_listen_40 (by decide)) (fun c_40 => ?_) (fun c_40 => ?_)
          · exact absurd hb c_40
          · refine mm_Es (fun _ _ => mm_iload_n dX1_listen_43 rfl rfl) ?_
            refine mm_Es (fun _ _ => mm_aload_n dX1_listen_44 rfl rfl) ?_
            refine mm_Es (fun _ _ => mm_getS dX1_listen_45 fX1_44 sh_145 rfl gr_145_0) ?_
            refine mm_Es (fun _ _ => mm_getI dX1_listen_48 fX1_56 sh_65 rfl) ?_
            refine mm_Es (fun _ _ => mm_imul dX1_listen_51) ?_
            refine mm_Es (fun _ _ => mm_iload_n dX1_listen_52 rfl rfl) ?_
            refine mm_Es (fun _ _ => mm_iadd dX1_listen_53) ?_
            refine mm_Es (fun _ _ => mm_aload_n dX1_listen_54 rfl rfl) ?_
            refine mm_Es (fun _ _ => mm_getS dX1_listen_55 fX1_44 sh_145 rfl gr_145_0) ?_
            refine mm_Es (fun _ _ => mm_getI dX1_listen_58 fX1_56 sh_65 rfl) ?_
            refine mm_Es (fun _ _ => mm_imul dX1_listen_61) ?_
            refine mm_Es (fun _ _ => mm_iload dX1_listen_62 rfl) ?_
            refine mm_Es (fun _ _ => mm_iadd dX1_listen_64) ?_
            refine mm_Es (fun _ _ => mm_istore dX1_listen_65 (by decide) rfl) ?_
            refine mm_Es (fun _ _ => mm_cast (ls' := [some (.ref 145), some (.int (nI a)), some (.int (nI l)), some (.int (nI (pc a) - 1)), some (.int (nI i)), some (.int (nI s))]) (by rw [hVg.1, eslot, nI_mul, nI_add]; rw [es]; rfl) rfl rfl) ?_
            refine mm_Es (fun _ _ => mm_aload_n dX1_listen_67 rfl rfl) ?_
            refine mm_Es (fun _ _ => mm_getS dX1_listen_68 fX1_13 sh_145 rfl gr_145_3) ?_
            refine mm_Es (fun _ _ => mm_iload dX1_listen_71 rfl) ?_
            refine mm_Es (fun _ _ => mm_iald (s) dX1_listen_73 sh_146 rfl hs) ?_
            refine mm_Es (fun _ _ => mm_sipush (x := (-20000)) dX1_listen_74 (by decide)) ?_
            refine mm_Ebn (fun _ _ => mm_icmp_ne 180 dX1_listen_77 (by decide)) (fun c_77 => ?_) (fun c_77 => ?_)
            · exact absurd hkn c_77
            · refine mm_Es (fun _ _ => mm_aload_n dX1_listen_80 rfl rfl) ?_
              refine mm_Es (fun _ _ => mm_iload dX1_listen_81 rfl) ?_
              refine mm_Es (fun _ _ => mm_iload_n dX1_listen_83 rfl rfl) ?_
              refine mm_Es (fun _ _ => mm_iconst (x := 1) dX1_listen_84 (by decide)) ?_
              refine mm_Es (fun _ _ => mm_iadd dX1_listen_85) ?_
              refine mm_Es (fun _ _ => mm_aload_n dX1_listen_86 rfl rfl) ?_
              refine mm_Es (fun _ _ => mm_getS dX1_listen_87 fX1_44 sh_145 rfl gr_145_0) ?_
              refine mm_Es (fun _ _ => mm_getS dX1_listen_90 fX1_73 sh_65 rfl gr_65_2) ?_
              refine mm_Es (fun _ _ => mm_iload_n dX1_listen_93 rfl rfl) ?_
              refine mm_Es (fun _ _ => mm_iald (l) dX1_listen_94 sh_67 rfl (by omega)) ?_
              refine mm_Es (fun _ _ => mm_cast (st' := [.int (mr A 1 l), .int (nI (pc a)), .int (nI i), .ref 145]) rfl (by rw [e67]; simp only [Int32.sub_add_cancel]) rfl) ?_
              refine mm_Es (fun _ _ => mm_cV (Y1 := YX1_tellWords) dX1_listen_95 lX1_76 vX1_tellWords (M1) sh_145 rfl rfl (by simp [Value.category])) ?_
              refine mm_Es (fun _ _ => mm_aload_n dX1_listen_98 rfl rfl) ?_
              refine mm_Es (fun _ _ => mm_getS dX1_listen_99 fX1_13 sh_145 rfl gr_145_3) ?_
              refine mm_Es (fun _ _ => mm_iload dX1_listen_102 rfl) ?_
              refine mm_Es (fun _ _ => mm_aload_n dX1_listen_104 rfl rfl) ?_
              refine mm_Es (fun _ _ => mm_getR dX1_listen_105 fX1_48 sh_145 rfl hRg) ?_
              refine mm_Es (fun _ _ => mm_bipush (x := 16) dX1_listen_108 (by decide)) ?_
              refine mm_Es (fun _ _ => mm_aload_n dX1_listen_110 rfl rfl) ?_
              refine mm_Es (fun _ _ => mm_getS dX1_listen_111 fX1_20 sh_145 rfl gr_145_5) ?_
              refine mm_Es (fun _ _ => mm_aload_n dX1_listen_114 rfl rfl) ?_
              refine mm_Es (fun _ _ => mm_getS dX1_listen_115 fX1_26 sh_145 rfl gr_145_6) ?_
              refine mm_Es (fun _ _ => mm_aload_n dX1_listen_118 rfl rfl) ?_
              refine mm_Es (fun _ _ => mm_getS dX1_listen_119 fX1_20 sh_145 rfl gr_145_5) ?_
              refine mm_Es (fun _ _ => mm_iconst (x := 0) dX1_listen_122 (by decide)) ?_
              refine mm_Es (fun _ _ => mm_lald (0) dX1_listen_123 sh_148 rfl (by decide)) ?_
              refine mm_Es (fun _ _ => mm_aload_n dX1_listen_124 rfl rfl) ?_
              refine mm_Es (fun _ _ => mm_getS dX1_listen_125 fX1_20 sh_145 rfl gr_145_5) ?_
              refine mm_Es (fun _ _ => mm_bipush (x := 6) dX1_listen_128 (by decide)) ?_
              refine mm_Es (fun _ _ => mm_lald (6) dX1_listen_130 sh_148 rfl (by decide)) ?_
              refine mm_Es (fun _ _ => mm_lsub dX1_listen_131) ?_
              refine mm_Es (fun _ _ => mm_cast (st' := [.long (w 0 - w 6), .ref 149, .ref 148, .int 16, .ref (25 + 6 * r), .int (nI s), .ref 146]) rfl (by dsimp only; rw [mm_rowL_s]; rfl) rfl) ?_
              refine mm_Es (fun _ _ => mm_cV (Y1 := YX3_told) dX1_listen_132 lX1_80 vX3_told (M2) (law_i r hr).1 rfl rfl (by simp [Value.category])) ?_
              refine mm_Es (fun _ _ => mm_cS (Y1 := YX1_heldNote) dX1_listen_135 lX1_84 sX1_heldNote (N2) rfl rfl (by simp [Value.category])) ?_
              refine mm_Es (fun _ _ => mm_iast (s) dX1_listen_138 sh_146 rfl hs) ?_
              refine mm_Es (fun _ _ => mm_aload_n dX1_listen_139 rfl rfl) ?_
              refine mm_Es (fun _ _ => mm_getS dX1_listen_140 fX1_17 sh_145 rfl gr_145_4) ?_
              refine mm_Es (fun _ _ => mm_iload dX1_listen_143 rfl) ?_
              refine mm_Es (fun _ _ => mm_aload_n dX1_listen_145 rfl rfl) ?_
              refine mm_Es (fun _ _ => mm_getR dX1_listen_146 fX1_48 sh_145 rfl hRg) ?_
              refine mm_Es (fun _ _ => mm_bipush (x := 17) dX1_listen_149 (by decide)) ?_
              refine mm_Es (fun _ _ => mm_aload_n dX1_listen_151 rfl rfl) ?_
              refine mm_Es (fun _ _ => mm_getS dX1_listen_152 fX1_20 sh_145 rfl gr_145_5) ?_
              refine mm_Es (fun _ _ => mm_aload_n dX1_listen_155 rfl rfl) ?_
              refine mm_Es (fun _ _ => mm_getS dX1_listen_156 fX1_26 sh_145 rfl gr_145_6) ?_
              refine mm_Es (fun _ _ => mm_aload_n dX1_listen_159 rfl rfl) ?_
              refine mm_Es (fun _ _ => mm_getS dX1_listen_160 fX1_20 sh_145 rfl gr_145_5) ?_
              refine mm_Es (fun _ _ => mm_iconst (x := 1) dX1_listen_163 (by decide)) ?_
              refine mm_Es (fun _ _ => mm_lald (1) dX1_listen_164 sh_148 rfl (by decide)) ?_
              refine mm_Es (fun _ _ => mm_aload_n dX1_listen_165 rfl rfl) ?_
              refine mm_Es (fun _ _ => mm_getS dX1_listen_166 fX1_20 sh_145 rfl gr_145_5) ?_
              refine mm_Es (fun _ _ => mm_bipush (x := 7) dX1_listen_169 (by decide)) ?_
              refine mm_Es (fun _ _ => mm_lald (7) dX1_listen_171 sh_148 rfl (by decide)) ?_
              refine mm_Es (fun _ _ => mm_lsub dX1_listen_172) ?_
              refine mm_Es (fun _ _ => mm_cast (st' := [.long (w 1 - w 7), .ref 149, .ref 148, .int 17, .ref (25 + 6 * r), .int (nI s), .ref 147]) rfl (by dsimp only; rw [mm_rowL_n (show 148 ≠ 149 by decide), mm_rowL_s]) rfl) ?_
              refine mm_Es (fun _ _ => mm_cV (Y1 := YX3_told) dX1_listen_173 lX1_80 vX3_told (M3) (law_i r hr).1 rfl rfl (by simp [Value.category])) ?_
              refine mm_Es (fun _ _ => mm_cS (Y1 := YX1_heldStrength) dX1_listen_176 lX1_88 sX1_heldStrength (N3) rfl rfl (by simp [Value.category])) ?_
              refine mm_Es (fun _ _ => mm_iast (s) dX1_listen_179 sh_147 rfl hs) ?_
              exact mm_Ec rfl rfl hG.symm K
      · have kk := (s5 (pc a - 1) l i hp2 hln hin).resolve_left (by rw [← es]; exact hkn)
        rw [← es, ← eN, ← eS] at kk
        have K := K180 g ⟨fS, s2, s3, s4, s5, s6⟩ kk.1 kk.2
        refine mm_Es (fun _ _ => mm_iload dX1_listen_21 rfl) ?_
        refine mm_Es (fun _ _ => mm_aload_n dX1_listen_23 rfl rfl) ?_
        refine mm_Es (fun _ _ => mm_getS dX1_listen_24 fX1_44 sh_145 rfl gr_145_0) ?_
        refine mm_Es (fun _ _ => mm_getI dX1_listen_27 fX1_56 sh_65 rfl) ?_
        refine mm_Eb (fun _ _ => mm_icmp_ge 228 dX1_listen_30 (by decide)) (fun c_30 => ?_) (fun c_30 => ?_)
        · exact absurd (by rw [hVg.1] at c_30; exact c_30) (nI_ge hin (by omega))
        · refine mm_Es (fun _ _ => mm_iload_n dX1_listen_33 rfl rfl) ?_
          refine mm_Es (fun _ _ => mm_iload dX1_listen_34 rfl) ?_
          refine mm_Es (fun _ _ => mm_ishr dX1_listen_36) ?_
          refine mm_Es (fun _ _ => mm_iconst (x := 1) dX1_listen_37 (by decide)) ?_
          refine mm_Es (fun _ _ => mm_iand dX1_listen_38) ?_
          refine mm_Es (fun _ _ => mm_iconst (x := 1) dX1_listen_39 (by decide)) ?_
          refine mm_Ebn (fun _ _ => mm_icmp_ne 222 dX1_listen_40 (by decide)) (fun c_40 => ?_) (fun c_40 => ?_)
          · exact absurd hb c_40
          · refine mm_Es (fun _ _ => mm_iload_n dX1_listen_43 rfl rfl) ?_
            refine mm_Es (fun _ _ => mm_aload_n dX1_listen_44 rfl rfl) ?_
            refine mm_Es (fun _ _ => mm_getS dX1_listen_45 fX1_44 sh_145 rfl gr_145_0) ?_
            refine mm_Es (fun _ _ => mm_getI dX1_listen_48 fX1_56 sh_65 rfl) ?_
            refine mm_Es (fun _ _ => mm_imul dX1_listen_51) ?_
            refine mm_Es (fun _ _ => mm_iload_n dX1_listen_52 rfl rfl) ?_
            refine mm_Es (fun _ _ => mm_iadd dX1_listen_53) ?_
            refine mm_Es (fun _ _ => mm_aload_n dX1_listen_54 rfl rfl) ?_
            refine mm_Es (fun _ _ => mm_getS dX1_listen_55 fX1_44 sh_145 rfl gr_145_0) ?_
            refine mm_Es (fun _ _ => mm_getI dX1_listen_58 fX1_56 sh_65 rfl) ?_
            refine mm_Es (fun _ _ => mm_imul dX1_listen_61) ?_
            refine mm_Es (fun _ _ => mm_iload dX1_listen_62 rfl) ?_
            refine mm_Es (fun _ _ => mm_iadd dX1_listen_64) ?_
            refine mm_Es (fun _ _ => mm_istore dX1_listen_65 (by decide) rfl) ?_
            refine mm_Es (fun _ _ => mm_cast (ls' := [some (.ref 145), some (.int (nI a)), some (.int (nI l)), some (.int (nI (pc a) - 1)), some (.int (nI i)), some (.int (nI s))]) (by rw [hVg.1, eslot, nI_mul, nI_add]; rw [es]; rfl) rfl rfl) ?_
            refine mm_Es (fun _ _ => mm_aload_n dX1_listen_67 rfl rfl) ?_
            refine mm_Es (fun _ _ => mm_getS dX1_listen_68 fX1_13 sh_145 rfl gr_145_3) ?_
            refine mm_Es (fun _ _ => mm_iload dX1_listen_71 rfl) ?_
            refine mm_Es (fun _ _ => mm_iald (s) dX1_listen_73 sh_146 rfl hs) ?_
            refine mm_Es (fun _ _ => mm_sipush (x := (-20000)) dX1_listen_74 (by decide)) ?_
            refine mm_Ebn (fun _ _ => mm_icmp_ne 180 dX1_listen_77 (by decide)) (fun c_77 => ?_) (fun c_77 => ?_)
            · exact K
            · exact absurd c_77 hkn
    · have hO := ordL_n (key := kN A Q k a) (str := kS A Q k a) (deaf := mf A) (set := nI a) (i := i) (fun z => hb z.1)
      have K := K222 g ⟨fS, s2, by rw [hO]; exact s3, by rw [hO]; exact s4, s5, fun j hj hbj => by
        by_cases z : j = i
        · subst z; exact absurd hbj hb
        · exact s6 j (by omega) hbj⟩
      refine mm_Es (fun _ _ => mm_iload dX1_listen_21 rfl) ?_
      refine mm_Es (fun _ _ => mm_aload_n dX1_listen_23 rfl rfl) ?_
      refine mm_Es (fun _ _ => mm_getS dX1_listen_24 fX1_44 sh_145 rfl gr_145_0) ?_
      refine mm_Es (fun _ _ => mm_getI dX1_listen_27 fX1_56 sh_65 rfl) ?_
      refine mm_Eb (fun _ _ => mm_icmp_ge 228 dX1_listen_30 (by decide)) (fun c_30 => ?_) (fun c_30 => ?_)
      · exact absurd (by rw [hVg.1] at c_30; exact c_30) (nI_ge hin (by omega))
      · refine mm_Es (fun _ _ => mm_iload_n dX1_listen_33 rfl rfl) ?_
        refine mm_Es (fun _ _ => mm_iload dX1_listen_34 rfl) ?_
        refine mm_Es (fun _ _ => mm_ishr dX1_listen_36) ?_
        refine mm_Es (fun _ _ => mm_iconst (x := 1) dX1_listen_37 (by decide)) ?_
        refine mm_Es (fun _ _ => mm_iand dX1_listen_38) ?_
        refine mm_Es (fun _ _ => mm_iconst (x := 1) dX1_listen_39 (by decide)) ?_
        refine mm_Ebn (fun _ _ => mm_icmp_ne 222 dX1_listen_40 (by decide)) (fun c_40 => ?_) (fun c_40 => ?_)
        · exact K _
        · exact absurd c_40 hb
/-- what listen leaves -/
def heardC (A : MD) (Q : LD) (k a : Nat) (h g : mm_H) : Prop := lst_st A Q k a h g (mn A)
set_option maxRecDepth 100000 in
set_option maxHeartbeats 4000000 in
theorem mX1_listen (d : Nat) (h : mm_H) (A : MD) (hA : mdOK A) (hV : viewC h A) (Q : LD) (r : Nat) (hr : r < 6) (hQ : lawOK Q) (hC : lawC h.1 (25 + 6 * r) Q) (hR : h.2.2 145 = 25 + 6 * r) (k : Nat) (hk : k < mk A) (hK : h.1 145 2 = nI k) (a : Nat) (ha : a < 2 ^ mn A) (hI : kinv A Q k h) : ∃ g, mm_M (d + 3) YX1_listen [.ref 145, .int (nI a)] h none g ∧ heardC A Q k a h g := by
  refine mm_EM.v (mm_EM.of [some (.ref 145), some (.int (nI a)), none, none, none, none] rfl rfl (Nat.le_of_ble_eq_true rfl) ?_)
  have h12 := hA.1
  have ha' : a < 4096 := Nat.lt_of_lt_of_le ha (p2_le h12)
  have M1 := mX1_loudestOf (d + 1) h (mn A) hV.1 h12 (nI a)
  rw [sp_lo_c (mn A) (fun c hc => (hV.2.2.2.2.1 c hc).2.1)] at M1
  have K := listen_1 d h A hA hV Q r hr hQ hC hR k hk hK a ha (mn A) 0 (by omega) (mm_up h.1 145 9 0, h.2.1, h.2.2) ⟨(frm.refl _ h).up rfl, fun j hj => by dsimp only; rw [mm_up_k hj], by dsimp only; rw [mm_up_e]; rfl, fun k hk0 => by simp [ordL] at hk0, by unfold kinv; dsimp only; rw [mm_up_n (by decide), mm_up_n (by decide)]; exact hI, fun j hj => by omega⟩
  refine mm_Es (fun _ _ => mm_aload_n dX1_listen_0 rfl rfl) ?_
  refine mm_Es (fun _ _ => mm_iload_n dX1_listen_1 rfl rfl) ?_
  refine mm_Es (fun _ _ => mm_cV (Y1 := YX1_loudestOf) dX1_listen_2 lX1_61 vX1_loudestOf (M1) sh_145 rfl rfl (by simp [Value.category])) ?_
  refine mm_Es (fun _ _ => mm_istore_n dX1_listen_5 rfl (by decide) rfl) ?_
  refine mm_Es (fun _ _ => mm_iload_n dX1_listen_6 rfl rfl) ?_
  refine mm_Es (fun _ _ => mm_cS (Y1 := YJ6_bitCount_0f7a4) dX1_listen_7 lX1_65 sJ6_bitCount_0f7a4 (mJ6_bitCount_0f7a4 (d + 2) h a ha') rfl rfl (by simp [Value.category])) ?_
  refine mm_Es (fun _ _ => mm_iconst (x := 1) dX1_listen_10 (by decide)) ?_
  refine mm_Es (fun _ _ => mm_isub dX1_listen_11) ?_
  refine mm_Es (fun _ _ => mm_istore_n dX1_listen_12 rfl (by decide) rfl) ?_
  refine mm_Es (fun _ _ => mm_aload_n dX1_listen_13 rfl rfl) ?_
  refine mm_Es (fun _ _ => mm_iconst (x := 0) dX1_listen_14 (by decide)) ?_
  refine mm_Es (fun _ _ => mm_putI dX1_listen_15 fX1_70 sh_145 rfl rfl rfl) ?_
  refine mm_Es (fun _ _ => mm_iconst (x := 0) dX1_listen_18 (by decide)) ?_
  refine mm_Es (fun _ _ => mm_istore dX1_listen_19 (by decide) rfl) ?_
  exact K
