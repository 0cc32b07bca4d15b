/-! The reference's mintClause, goesOn. -/
theorem viewN_f {p : Nat → Bool} {h g : mm_H} {A : MD} (hV : viewN h A) (e : frm p h g) (hp : ∀ c, 173 ≤ c ∧ c ≤ 179 → p c = false) : viewN g A := by
  unfold viewN at *
  rw [e.i (hp 173 (by decide)), e.i (hp 174 (by decide)), e.i (hp 175 (by decide)), e.i (hp 176 (by decide)), e.i (hp 177 (by decide)), e.i (hp 178 (by decide)), e.i (hp 179 (by decide))]
  exact hV
theorem en_w {B : Nat → Int32} {n p i : Nat} (hp : p ≤ n) (h1 : 1 ≤ i) (h2 : i < 18) (h : kd B n p = ki i) : p < n ∧ en B n p = p + mm_sl.getD i 0 := by
  obtain ⟨a1, a2, a3, a4, a5, a6⟩ := ki_wd h1 h2
  have hm := (kd_w hp h1 h2).mp h
  obtain ⟨b1, -⟩ := mtb_iff.mp hm
  rw [a4] at b1
  have hbd := rE_bd2 (P := bL) (B := B) hp
  have hpn : p < n := by omega
  refine ⟨hpn, ?_⟩
  have hl : isLt (B p) := of_decide_eq_true (rE_all (P := bL) (B := B) (n := n) (n - p) p (by omega) p (Nat.le_refl _) (by omega))
  have h2 : ¬ two B n p := fun z => by
    rcases z.1 with w | w <;> (rw [w] at hl; exact absurd hl (by decide))
  unfold en
  rw [if_neg h2, if_pos hl]
  omega
set_option maxRecDepth 100000 in
set_option maxHeartbeats 4000000 in
theorem mX11_isFull_0 (d : Nat) (h : mm_H) (A : MD) (hV : viewN h A) (bt dt : Nat) (hb : h.1 165 30 = nI bt) (hd : h.1 165 31 = nI dt) (h12 : mn A ≤ 12) (h4 : mk A ≤ 4) (hb1 : bt ≤ 1) (hd1 : dt ≤ 1) (q : Nat) (hq : q < 24) : mm_M d YX11_isFull [.ref 165, .int 0, .int (nI q)] h (some (.int (pI (12 ≤ mn A)))) h := by
  refine mm_M.of [some (.ref 165), some (.int 0), some (.int (nI q))] rfl rfl (Nat.le_of_ble_eq_true rfl) ?_
  obtain ⟨v1, v2, v3, v4, v5, v6⟩ := hV
  refine mm_iload_n dX11_isFull_0 rfl rfl ?_
  refine mm_bipush (x := 24) dX11_isFull_1 (by decide) ?_
  refine mm_icmp_ne 8 dX11_isFull_3 (by decide) (fun c_3 => ?_) (fun c_3 => ?_)
  · refine mm_iload_n dX11_isFull_8 rfl rfl ?_
    refine mm_tableIn (off := 27) 36 dX11_isFull_9 (by decide) (by decide) (by decide) (by decide) ?_
    refine mm_aload_n dX11_isFull_36 rfl rfl ?_
    refine mm_getS dX11_isFull_37 fX11_31 sh_165 rfl gr_165_8 ?_
    refine mm_iconst (x := 0) dX11_isFull_40 (by decide) ?_
    refine mm_iald (0) dX11_isFull_41 sh_173 rfl (by decide) ?_
    refine mm_bipush (x := 12) dX11_isFull_42 (by decide) ?_
    refine mm_icmp_ne 51 dX11_isFull_44 (by decide) (fun c_44 => ?_) (fun c_44 => ?_)
    · refine mm_iconst (x := 0) dX11_isFull_51 (by decide) ?_
      exact mm_zretE dX11_isFull_52 rfl (pI_nar _) (by first | exact (pI_1 (by rw [v1] at c_44; have := (nI_eq (b := 12) (by omega) (by omega)).mp c_44; omega)).symm | exact (pI_0 (fun z => c_44 (by rw [v1, show mn A = 12 by omega]; rfl))).symm) rfl
    · refine mm_iconst (x := 1) dX11_isFull_47 (by decide) ?_
      refine mm_goto 52 dX11_isFull_48 (by decide) ?_
      exact mm_zretE dX11_isFull_52 rfl (pI_nar _) (by first | exact (pI_1 (by rw [v1] at c_44; have := (nI_eq (b := 12) (by omega) (by omega)).mp c_44; omega)).symm | exact (pI_0 (fun z => c_44 (by rw [v1, show mn A = 12 by omega]; rfl))).symm) rfl
  · exact absurd ((nI_eq (b := 24) (by omega) (by omega)).mp c_3) (by omega)
set_option maxRecDepth 100000 in
set_option maxHeartbeats 4000000 in
theorem mX11_isFull_1 (d : Nat) (h : mm_H) (A : MD) (hV : viewN h A) (bt dt : Nat) (hb : h.1 165 30 = nI bt) (hd : h.1 165 31 = nI dt) (h12 : mn A ≤ 12) (h4 : mk A ≤ 4) (hb1 : bt ≤ 1) (hd1 : dt ≤ 1) (q : Nat) (hq : q < 24) : mm_M d YX11_isFull [.ref 165, .int 1, .int (nI q)] h (some (.int (pI (4 ≤ mk A)))) h := by
  refine mm_M.of [some (.ref 165), some (.int 1), some (.int (nI q))] rfl rfl (Nat.le_of_ble_eq_true rfl) ?_
  obtain ⟨v1, v2, v3, v4, v5, v6⟩ := hV
  refine mm_iload_n dX11_isFull_0 rfl rfl ?_
  refine mm_bipush (x := 24) dX11_isFull_1 (by decide) ?_
  refine mm_icmp_ne 8 dX11_isFull_3 (by decide) (fun c_3 => ?_) (fun c_3 => ?_)
  · refine mm_iload_n dX11_isFull_8 rfl rfl ?_
    refine mm_tableIn (off := 44) 53 dX11_isFull_9 (by decide) (by decide) (by decide) (by decide) ?_
    refine mm_aload_n dX11_isFull_53 rfl rfl ?_
    refine mm_getS dX11_isFull_54 fX11_31 sh_165 rfl gr_165_8 ?_
    refine mm_iconst (x := 1) dX11_isFull_57 (by decide) ?_
    refine mm_iald (1) dX11_isFull_58 sh_173 rfl (by decide) ?_
    refine mm_iconst (x := 4) dX11_isFull_59 (by decide) ?_
    refine mm_icmp_ne 67 dX11_isFull_60 (by decide) (fun c_60 => ?_) (fun c_60 => ?_)
    · refine mm_iconst (x := 0) dX11_isFull_67 (by decide) ?_
      exact mm_zretE dX11_isFull_68 rfl (pI_nar _) (by first | exact (pI_1 (by rw [v2] at c_60; have := (nI_eq (b := 4) (by omega) (by omega)).mp c_60; omega)).symm | exact (pI_0 (fun z => c_60 (by rw [v2, show mk A = 4 by omega]; rfl))).symm) rfl
    · refine mm_iconst (x := 1) dX11_isFull_63 (by decide) ?_
      refine mm_goto 68 dX11_isFull_64 (by decide) ?_
      exact mm_zretE dX11_isFull_68 rfl (pI_nar _) (by first | exact (pI_1 (by rw [v2] at c_60; have := (nI_eq (b := 4) (by omega) (by omega)).mp c_60; omega)).symm | exact (pI_0 (fun z => c_60 (by rw [v2, show mk A = 4 by omega]; rfl))).symm) rfl
  · exact absurd ((nI_eq (b := 24) (by omega) (by omega)).mp c_3) (by omega)
set_option maxRecDepth 100000 in
set_option maxHeartbeats 4000000 in
theorem mX11_isFull_2 (d : Nat) (h : mm_H) (A : MD) (hV : viewN h A) (bt dt : Nat) (hb : h.1 165 30 = nI bt) (hd : h.1 165 31 = nI dt) (h12 : mn A ≤ 12) (h4 : mk A ≤ 4) (hb1 : bt ≤ 1) (hd1 : dt ≤ 1) (q : Nat) (hq : q < 24) : mm_M d YX11_isFull [.ref 165, .int 2, .int (nI q)] h (some (.int (nI bt))) h := by
  refine mm_M.of [some (.ref 165), some (.int 2), some (.int (nI q))] rfl rfl (Nat.le_of_ble_eq_true rfl) ?_
  obtain ⟨v1, v2, v3, v4, v5, v6⟩ := hV
  refine mm_iload_n dX11_isFull_0 rfl rfl ?_
  refine mm_bipush (x := 24) dX11_isFull_1 (by decide) ?_
  refine mm_icmp_ne 8 dX11_isFull_3 (by decide) (fun c_3 => ?_) (fun c_3 => ?_)
  · refine mm_iload_n dX11_isFull_8 rfl rfl ?_
    refine mm_tableIn (off := 60) 69 dX11_isFull_9 (by decide) (by decide) (by decide) (by decide) ?_
    refine mm_aload_n dX11_isFull_69 rfl rfl ?_
    refine mm_getI dX11_isFull_70 fX11_310 sh_165 rfl ?_
    exact mm_zretE dX11_isFull_73 rfl (by rcases (show bt = 0 ∨ bt = 1 by omega) with z | z <;> (rw [z] <;> rfl)) hb rfl
  · exact absurd ((nI_eq (b := 24) (by omega) (by omega)).mp c_3) (by omega)
set_option maxRecDepth 100000 in
set_option maxHeartbeats 4000000 in
theorem mX11_isFull_3 (d : Nat) (h : mm_H) (A : MD) (hV : viewN h A) (bt dt : Nat) (hb : h.1 165 30 = nI bt) (hd : h.1 165 31 = nI dt) (h12 : mn A ≤ 12) (h4 : mk A ≤ 4) (hb1 : bt ≤ 1) (hd1 : dt ≤ 1) (q : Nat) (hq : q < 24) : mm_M d YX11_isFull [.ref 165, .int 3, .int (nI q)] h (some (.int (nI dt))) h := by
  refine mm_M.of [some (.ref 165), some (.int 3), some (.int (nI q))] rfl rfl (Nat.le_of_ble_eq_true rfl) ?_
  obtain ⟨v1, v2, v3, v4, v5, v6⟩ := hV
  refine mm_iload_n dX11_isFull_0 rfl rfl ?_
  refine mm_bipush (x := 24) dX11_isFull_1 (by decide) ?_
  refine mm_icmp_ne 8 dX11_isFull_3 (by decide) (fun c_3 => ?_) (fun c_3 => ?_)
  · refine mm_iload_n dX11_isFull_8 rfl rfl ?_
    refine mm_tableOut 74 dX11_isFull_9 (by decide) (by decide) ?_
    refine mm_aload_n dX11_isFull_74 rfl rfl ?_
    refine mm_getI dX11_isFull_75 fX11_314 sh_165 rfl ?_
    exact mm_zretE dX11_isFull_78 rfl (by rcases (show dt = 0 ∨ dt = 1 by omega) with z | z <;> (rw [z] <;> rfl)) hd rfl
  · exact absurd ((nI_eq (b := 24) (by omega) (by omega)).mp c_3) (by omega)
set_option maxRecDepth 100000 in
set_option maxHeartbeats 4000000 in
theorem mX11_mintClause (d : Nat) (h : mm_H) (B : Nat → Int32) (n p : Nat) (A : MD) (bt dt : Nat) (S : NS B n h A bt dt p) (q : Nat) (hq : q < 24) : ∃ g, mm_M (d + 6) YX11_mintClause [.ref 165, .int (nI q)] h none g ∧ mn_fr h g ∧ mclN B n g (mcl B n A bt dt (sk B n p)) := by
  obtain ⟨t, hpn, hV, hb, hd, h12, h4, hb1, hd1⟩ := S
  have hn4 := t.2.2.2.2.1
  have hsk := sk_ge (B := B) hpn
  have MB := mX11_blanks (d + 4) h B n p 0 t (by omega)
  obtain ⟨pos, epos⟩ : ∃ pos, pos = sk B n p := ⟨_, rfl⟩
  obtain ⟨g1, eg1⟩ : ∃ g : mm_H, g = (mm_up h.1 165 21 (nI (sk B n p)), h.2.1, h.2.2) := ⟨_, rfl⟩
  have t1 : MT B n g1 (sk B n p) 0 := by rw [eg1]; exact t.p _
  have f1 : mt_fr h g1 := by rw [eg1]; exact mt_p h _
  rw [← eg1] at MB
  rw [← epos] at t1 hsk ⊢
  have esk : sk B n pos = pos := by rw [epos]; exact sk_sk hpn
  have hV1 : viewN g1 A := viewN_f hV f1.1 (fun c hc => by simp [onep]; omega)
  have hbg : g1.1 165 30 = nI bt := by rw [f1.2 30 (by decide) (by decide)]; exact hb
  have hdg : g1.1 165 31 = nI dt := by rw [f1.2 31 (by decide) (by decide)]; exact hd
  have stw : ∀ k, k < 4 → mm_M (d + 5) YX11_stood [.ref 165, .ref (1000 + mwS k)] g1 (some (.int (pI (kd B n pos = ki (mwS k))))) g1 := fun k hk => by
    obtain ⟨a, b, -⟩ := mwS_b hk
    exact mX11_stood (d + 1) g1 B n pos 0 t1 hsk.2 (mwS k) a b
  have fF : ∀ w, w < 8 → flt 0 pos w = 1 + 8 * pos + w := fun w _ => by unfold flt; rw [if_pos rfl]
  have MF0 := mX11_fails (d + 5) g1 B n pos 0 t1 (by omega) (by decide) pos 0 (by omega) (by decide)
  have MF4 := mX11_fails (d + 5) g1 B n pos 0 t1 (by omega) (by decide) pos 4 (by omega) (by decide)
  rw [fF 0 (by decide)] at MF0
  rw [fF 4 (by decide)] at MF4
  have K11 : ∀ kt, kt ≤ 4 → (∀ k, k < kt → ¬ kd B n pos = ki (mwS k)) → (kt < 4 → kd B n pos = ki (mwS kt)) → ∀ v g', mm_R (d + 6) YX11_mintClause 33 [some (.ref 165), some (.int (nI q)), some (.int (nI pos)), some (.int (nI kt))] [] g1 v g' → ∀ m k, k + m = kt → mm_R (d + 6) YX11_mintClause 11 [some (.ref 165), some (.int (nI q)), some (.int (nI pos)), some (.int (nI k))] [] g1 v g' := by
    intro kt hkt hno hye v g' K33 m
    induction m with
    | zero =>
      intro k hk
      have hk : k = kt := by omega
      subst hk
      by_cases h44 : k < 4
      · have MW := mX11_mintWord (d + 5) g1 k h44
        have MS := stw k h44
        rw [pI_1 (hye h44)] at MS
        refine mm_iload_n dX11_mintClause_11 rfl rfl ?_
        refine mm_iconst (x := 4) dX11_mintClause_12 (by decide) ?_
        refine mm_icmp_ge 33 dX11_mintClause_13 (by decide) (fun c_13 => ?_) (fun c_13 => ?_)
        · exact absurd c_13 (nI_ge (b := 4) h44 (by omega))
        · refine mm_aload_n dX11_mintClause_16 rfl rfl ?_
          refine mm_iload_n dX11_mintClause_17 rfl rfl ?_
          refine mm_cS (Y1 := YX11_mintWord) dX11_mintClause_18 lX11_317 sX11_mintWord (MW) rfl rfl (by simp [Value.category]) ?_
          refine mm_cV (Y1 := YX11_stood) dX11_mintClause_21 lX11_234 vX11_stood (MS) sh_165 rfl rfl (by simp [Value.category]) ?_
          refine mm_if_ne 33 dX11_mintClause_24 (by decide) (fun c_24 => ?_) (fun c_24 => ?_)
          · exact K33
          · exact absurd c_24 (by decide)
      · skip
        refine mm_iload_n dX11_mintClause_11 rfl rfl ?_
        refine mm_iconst (x := 4) dX11_mintClause_12 (by decide) ?_
        refine mm_icmp_ge 33 dX11_mintClause_13 (by decide) (fun c_13 => ?_) (fun c_13 => ?_)
        · exact K33
        · exact absurd (nI_le (a := 4) (by omega) (by omega)) c_13
    | succ m ih =>
      intro k hk
      have h44 : k < 4 := by omega
      have MW := mX11_mintWord (d + 5) g1 k h44
      have MS := stw k h44
      rw [pI_0 (hno k (by omega))] at MS
      have K := ih (k + 1) (by omega)
      refine mm_iload_n dX11_mintClause_11 rfl rfl ?_
      refine mm_iconst (x := 4) dX11_mintClause_12 (by decide) ?_
      refine mm_icmp_ge 33 dX11_mintClause_13 (by decide) (fun c_13 => ?_) (fun c_13 => ?_)
      · exact absurd c_13 (nI_ge (b := 4) h44 (by omega))
      · refine mm_aload_n dX11_mintClause_16 rfl rfl ?_
        refine mm_iload_n dX11_mintClause_17 rfl rfl ?_
        refine mm_cS (Y1 := YX11_mintWord) dX11_mintClause_18 lX11_317 sX11_mintWord (MW) rfl rfl (by simp [Value.category]) ?_
        refine mm_cV (Y1 := YX11_stood) dX11_mintClause_21 lX11_234 vX11_stood (MS) sh_165 rfl rfl (by simp [Value.category]) ?_
        refine mm_if_ne 33 dX11_mintClause_24 (by decide) (fun c_24 => ?_) (fun c_24 => ?_)
        · exact absurd rfl c_24
        · refine mm_iinc dX11_mintClause_27 rfl (nI_inc k) rfl ?_
          refine mm_goto 11 dX11_mintClause_30 (by decide) ?_
          exact K
  by_cases hk0 : kd B n pos = 21
  · have ek : kd B n pos = ki (mwS 0) := hk0
    have hno : ∀ k, k < 0 → ¬ kd B n pos = ki (mwS k) := fun k hk z => by
      obtain ⟨-, -, c⟩ := mwS_b (show k < 4 by omega)
      rw [c] at z
      split at z <;> omega
    have hye : 0 < 4 → kd B n pos = ki (mwS 0) := fun _ => ek
    obtain ⟨hpos, een⟩ := en_w hsk.2 (mwS_b (show 0 < 4 by decide)).1 (mwS_b (show 0 < 4 by decide)).2.1 ek
    have hen := en_bd (B := B) hpos
    have MI := mX11_isFull_0 (d + 5) g1 A hV1 bt dt hbg hdg h12 h4 hb1 hd1 q hq
    by_cases hfull : 12 ≤ mn A
    · have e : mcl B n A bt dt pos = .error (1 + 8 * pos + 4) := by unfold mcl; rw [if_pos hk0, if_pos hfull]
      rw [e]
      refine ⟨_, ?_, f1.mn.trans (mt_q g1 _).mn, pos, t1.f _, hsk.2, by omega, by omega⟩
      have K33 : mm_R (d + 6) YX11_mintClause 33 [some (.ref 165), some (.int (nI q)), some (.int (nI pos)), some (.int (nI 0))] [] g1 none (mm_up g1.1 165 22 (nI (1 + 8 * pos + 4)), g1.2.1, g1.2.2) := by
        refine mm_iload_n dX11_mintClause_33 rfl rfl ?_
        refine mm_iconst (x := 4) dX11_mintClause_34 (by decide) ?_
        refine mm_icmp_ne 45 dX11_mintClause_35 (by decide) (fun c_35 => ?_) (fun c_35 => ?_)
        · refine mm_aload_n dX11_mintClause_45 rfl rfl ?_
          refine mm_iload_n dX11_mintClause_46 rfl rfl ?_
          refine mm_iload_n dX11_mintClause_47 rfl rfl ?_
          refine mm_cV (Y1 := YX11_isFull) dX11_mintClause_48 lX11_320 vX11_isFull (MI) sh_165 rfl rfl (by simp [Value.category]) ?_
          refine mm_if_eq 61 dX11_mintClause_51 (by decide) (fun c_51 => ?_) (fun c_51 => ?_)
          · exact absurd hfull (pI_e0.mp c_51)
          · refine mm_aload_n dX11_mintClause_54 rfl rfl ?_
            refine mm_iconst (x := 4) dX11_mintClause_55 (by decide) ?_
            refine mm_iload_n dX11_mintClause_56 rfl rfl ?_
            refine mm_cV (Y1 := YX11_fails) dX11_mintClause_57 lX11_247 vX11_fails (MF4) sh_165 rfl rfl (by simp [Value.category]) ?_
            exact mm_retE dX11_mintClause_60 rfl rfl
        · exact absurd c_35 (by decide)
      refine mm_M.of [some (.ref 165), some (.int (nI q)), none, none] rfl rfl (Nat.le_of_ble_eq_true rfl) ?_
      refine mm_aload_n dX11_mintClause_0 rfl rfl ?_
      refine mm_cV (Y1 := YX11_blanks) dX11_mintClause_1 lX11_231 vX11_blanks (MB) sh_165 rfl rfl (by simp [Value.category]) ?_
      refine mm_aload_n dX11_mintClause_4 rfl rfl ?_
      refine mm_getI dX11_mintClause_5 fX11_211 sh_165 rfl ?_
      refine mm_cast (st' := [.int (nI pos)]) rfl (by rw [t1.2.1] <;> rfl) rfl ?_
      refine mm_istore_n dX11_mintClause_8 rfl (by decide) rfl ?_
      refine mm_iconst (x := 0) dX11_mintClause_9 (by decide) ?_
      refine mm_istore_n dX11_mintClause_10 rfl (by decide) rfl ?_
      exact K11 0 (by omega) hno hye _ _ K33 0 0 (by omega)
    · obtain ⟨g2, eg2⟩ : ∃ g : mm_H, g = (mm_up g1.1 165 21 (nI (en B n pos)), g1.2.1, g1.2.2) := ⟨_, rfl⟩
      have t2 : MT B n g2 (en B n pos) 0 := by rw [eg2]; exact t1.p _
      have f2 : mt_fr g1 g2 := by rw [eg2]; exact mt_p g1 _
      have R2 : RM B n g2 (en B n pos) (nx B n pos, 0) := ⟨t2, hen.2, fun _ => by show sk B n (en B n pos) = nx B n pos; unfold nx; rw [if_neg (by omega)], by show 0 < 4000; decide⟩
      obtain ⟨g3, M3, f3, r3⟩ := mX11_mintPart_0 (d + 1) g2 B n (en B n pos) pos R2 A (viewN_f hV1 f2.1 (fun c hc => by simp [onep]; omega)) bt dt (by rw [f2.2 30 (by decide) (by decide)]; exact hbg) (by rw [f2.2 31 (by decide) (by decide)]; exact hdg) h12 h4 hb1 hd1 (by omega)
      refine ⟨g3, ?_, (f1.mn.trans f2.mn).trans f3, ?_⟩
      · have MW := mX11_mintWord_0 (d + 5) g1
        have ML := mJ0_length (d + 4) g1 (mwS 0) (by decide)
        have K33 : mm_R (d + 6) YX11_mintClause 33 [some (.ref 165), some (.int (nI q)), some (.int (nI pos)), some (.int (nI 0))] [] g1 none g3 := by
          refine mm_iload_n dX11_mintClause_33 rfl rfl ?_
          refine mm_iconst (x := 4) dX11_mintClause_34 (by decide) ?_
          refine mm_icmp_ne 45 dX11_mintClause_35 (by decide) (fun c_35 => ?_) (fun c_35 => ?_)
          · refine mm_aload_n dX11_mintClause_45 rfl rfl ?_
            refine mm_iload_n dX11_mintClause_46 rfl rfl ?_
            refine mm_iload_n dX11_mintClause_47 rfl rfl ?_
            refine mm_cV (Y1 := YX11_isFull) dX11_mintClause_48 lX11_320 vX11_isFull (MI) sh_165 rfl rfl (by simp [Value.category]) ?_
            refine mm_if_eq 61 dX11_mintClause_51 (by decide) (fun c_51 => ?_) (fun c_51 => ?_)
            · refine mm_aload_n dX11_mintClause_61 rfl rfl ?_
              refine mm_dup dX11_mintClause_62 rfl ?_
              refine mm_getI dX11_mintClause_63 fX11_211 sh_165 rfl ?_
              refine mm_iload_n dX11_mintClause_66 rfl rfl ?_
              refine mm_cS (Y1 := YX11_mintWord) dX11_mintClause_67 lX11_317 sX11_mintWord (MW) rfl rfl (by simp [Value.category]) ?_
              refine mm_callVS (Y1 := YJ0_length_8abf5) dX11_mintClause_70 lX11_222 uJ0_length_8abf5 (ML) (by decide) rfl rfl (by simp [Value.category]) ?_
              refine mm_iadd dX11_mintClause_73 ?_
              refine mm_putI dX11_mintClause_74 fX11_211 sh_165 rfl rfl rfl ?_
              refine mm_cast rfl rfl (g := g2) (by rw [eg2, t1.2.1, nI_add, een]) ?_
              refine mm_aload_n dX11_mintClause_77 rfl rfl ?_
              refine mm_iload_n dX11_mintClause_78 rfl rfl ?_
              refine mm_cV (Y1 := YX11_mintPart) dX11_mintClause_79 lX11_323 vX11_mintPart (M3) sh_165 rfl rfl (by simp [Value.category]) ?_
              exact mm_retE dX11_mintClause_82 rfl rfl
            · exact absurd (pI_n0.mp c_51) hfull
          · exact absurd c_35 (by decide)
        refine mm_M.of [some (.ref 165), some (.int (nI q)), none, none] rfl rfl (Nat.le_of_ble_eq_true rfl) ?_
        refine mm_aload_n dX11_mintClause_0 rfl rfl ?_
        refine mm_cV (Y1 := YX11_blanks) dX11_mintClause_1 lX11_231 vX11_blanks (MB) sh_165 rfl rfl (by simp [Value.category]) ?_
        refine mm_aload_n dX11_mintClause_4 rfl rfl ?_
        refine mm_getI dX11_mintClause_5 fX11_211 sh_165 rfl ?_
        refine mm_cast (st' := [.int (nI pos)]) rfl (by rw [t1.2.1] <;> rfl) rfl ?_
        refine mm_istore_n dX11_mintClause_8 rfl (by decide) rfl ?_
        refine mm_iconst (x := 0) dX11_mintClause_9 (by decide) ?_
        refine mm_istore_n dX11_mintClause_10 rfl (by decide) rfl ?_
        exact K11 0 (by omega) hno hye _ _ K33 0 0 (by omega)
      · have e : mcl B n A bt dt pos = (if (rd B n (rd B n (rd B n (rd B n (nx B n pos, 0) 0 2400) 1 99) 0 999) 1 99).2 = 0 then .ok (addC A (num B n (nx B n pos)) (num B n (rd B n (nx B n pos, 0) 0 2400).1) (num B n (rd B n (rd B n (nx B n pos, 0) 0 2400) 1 99).1) (num B n (rd B n (rd B n (rd B n (nx B n pos, 0) 0 2400) 1 99) 0 999).1), bt, dt, (rd B n (rd B n (rd B n (rd B n (nx B n pos, 0) 0 2400) 1 99) 0 999) 1 99).1) else .error (rd B n (rd B n (rd B n (rd B n (nx B n pos, 0) 0 2400) 1 99) 0 999) 1 99).2) := by unfold mcl; rw [if_pos hk0, if_neg hfull]
        rw [e]; exact r3
  by_cases hk1 : kd B n pos = 26
  · have ek : kd B n pos = ki (mwS 1) := hk1
    have hno : ∀ k, k < 1 → ¬ kd B n pos = ki (mwS k) := fun k hk z => by
      obtain ⟨-, -, c⟩ := mwS_b (show k < 4 by omega)
      rw [c] at z
      split at z <;> omega
    have hye : 1 < 4 → kd B n pos = ki (mwS 1) := fun _ => ek
    obtain ⟨hpos, een⟩ := en_w hsk.2 (mwS_b (show 1 < 4 by decide)).1 (mwS_b (show 1 < 4 by decide)).2.1 ek
    have hen := en_bd (B := B) hpos
    have MI := mX11_isFull_1 (d + 5) g1 A hV1 bt dt hbg hdg h12 h4 hb1 hd1 q hq
    by_cases hfull : 4 ≤ mk A
    · have e : mcl B n A bt dt pos = .error (1 + 8 * pos + 4) := by unfold mcl; rw [if_neg (show ¬ kd B n pos = 21 by omega), if_pos hk1, if_pos hfull]
      rw [e]
      refine ⟨_, ?_, f1.mn.trans (mt_q g1 _).mn, pos, t1.f _, hsk.2, by omega, by omega⟩
      have K33 : mm_R (d + 6) YX11_mintClause 33 [some (.ref 165), some (.int (nI q)), some (.int (nI pos)), some (.int (nI 1))] [] g1 none (mm_up g1.1 165 22 (nI (1 + 8 * pos + 4)), g1.2.1, g1.2.2) := by
        refine mm_iload_n dX11_mintClause_33 rfl rfl ?_
        refine mm_iconst (x := 4) dX11_mintClause_34 (by decide) ?_
        refine mm_icmp_ne 45 dX11_mintClause_35 (by decide) (fun c_35 => ?_) (fun c_35 => ?_)
        · refine mm_aload_n dX11_mintClause_45 rfl rfl ?_
          refine mm_iload_n dX11_mintClause_46 rfl rfl ?_
          refine mm_iload_n dX11_mintClause_47 rfl rfl ?_
          refine mm_cV (Y1 := YX11_isFull) dX11_mintClause_48 lX11_320 vX11_isFull (MI) sh_165 rfl rfl (by simp [Value.category]) ?_
          refine mm_if_eq 61 dX11_mintClause_51 (by decide) (fun c_51 => ?_) (fun c_51 => ?_)
          · exact absurd hfull (pI_e0.mp c_51)
          · refine mm_aload_n dX11_mintClause_54 rfl rfl ?_
            refine mm_iconst (x := 4) dX11_mintClause_55 (by decide) ?_
            refine mm_iload_n dX11_mintClause_56 rfl rfl ?_
            refine mm_cV (Y1 := YX11_fails) dX11_mintClause_57 lX11_247 vX11_fails (MF4) sh_165 rfl rfl (by simp [Value.category]) ?_
            exact mm_retE dX11_mintClause_60 rfl rfl
        · exact absurd c_35 (by decide)
      refine mm_M.of [some (.ref 165), some (.int (nI q)), none, none] rfl rfl (Nat.le_of_ble_eq_true rfl) ?_
      refine mm_aload_n dX11_mintClause_0 rfl rfl ?_
      refine mm_cV (Y1 := YX11_blanks) dX11_mintClause_1 lX11_231 vX11_blanks (MB) sh_165 rfl rfl (by simp [Value.category]) ?_
      refine mm_aload_n dX11_mintClause_4 rfl rfl ?_
      refine mm_getI dX11_mintClause_5 fX11_211 sh_165 rfl ?_
      refine mm_cast (st' := [.int (nI pos)]) rfl (by rw [t1.2.1] <;> rfl) rfl ?_
      refine mm_istore_n dX11_mintClause_8 rfl (by decide) rfl ?_
      refine mm_iconst (x := 0) dX11_mintClause_9 (by decide) ?_
      refine mm_istore_n dX11_mintClause_10 rfl (by decide) rfl ?_
      exact K11 1 (by omega) hno hye _ _ K33 1 0 (by omega)
    · obtain ⟨g2, eg2⟩ : ∃ g : mm_H, g = (mm_up g1.1 165 21 (nI (en B n pos)), g1.2.1, g1.2.2) := ⟨_, rfl⟩
      have t2 : MT B n g2 (en B n pos) 0 := by rw [eg2]; exact t1.p _
      have f2 : mt_fr g1 g2 := by rw [eg2]; exact mt_p g1 _
      have R2 : RM B n g2 (en B n pos) (nx B n pos, 0) := ⟨t2, hen.2, fun _ => by show sk B n (en B n pos) = nx B n pos; unfold nx; rw [if_neg (by omega)], by show 0 < 4000; decide⟩
      obtain ⟨g3, M3, f3, r3⟩ := mX11_mintPart_1 (d + 1) g2 B n (en B n pos) pos R2 A (viewN_f hV1 f2.1 (fun c hc => by simp [onep]; omega)) bt dt (by rw [f2.2 30 (by decide) (by decide)]; exact hbg) (by rw [f2.2 31 (by decide) (by decide)]; exact hdg) h12 h4 hb1 hd1 (by omega)
      refine ⟨g3, ?_, (f1.mn.trans f2.mn).trans f3, ?_⟩
      · have MW := mX11_mintWord_1 (d + 5) g1
        have ML := mJ0_length (d + 4) g1 (mwS 1) (by decide)
        have K33 : mm_R (d + 6) YX11_mintClause 33 [some (.ref 165), some (.int (nI q)), some (.int (nI pos)), some (.int (nI 1))] [] g1 none g3 := by
          refine mm_iload_n dX11_mintClause_33 rfl rfl ?_
          refine mm_iconst (x := 4) dX11_mintClause_34 (by decide) ?_
          refine mm_icmp_ne 45 dX11_mintClause_35 (by decide) (fun c_35 => ?_) (fun c_35 => ?_)
          · refine mm_aload_n dX11_mintClause_45 rfl rfl ?_
            refine mm_iload_n dX11_mintClause_46 rfl rfl ?_
            refine mm_iload_n dX11_mintClause_47 rfl rfl ?_
            refine mm_cV (Y1 := YX11_isFull) dX11_mintClause_48 lX11_320 vX11_isFull (MI) sh_165 rfl rfl (by simp [Value.category]) ?_
            refine mm_if_eq 61 dX11_mintClause_51 (by decide) (fun c_51 => ?_) (fun c_51 => ?_)
            · refine mm_aload_n dX11_mintClause_61 rfl rfl ?_
              refine mm_dup dX11_mintClause_62 rfl ?_
              refine mm_getI dX11_mintClause_63 fX11_211 sh_165 rfl ?_
              refine mm_iload_n dX11_mintClause_66 rfl rfl ?_
              refine mm_cS (Y1 := YX11_mintWord) dX11_mintClause_67 lX11_317 sX11_mintWord (MW) rfl rfl (by simp [Value.category]) ?_
              refine mm_callVS (Y1 := YJ0_length_8abf5) dX11_mintClause_70 lX11_222 uJ0_length_8abf5 (ML) (by decide) rfl rfl (by simp [Value.category]) ?_
              refine mm_iadd dX11_mintClause_73 ?_
              refine mm_putI dX11_mintClause_74 fX11_211 sh_165 rfl rfl rfl ?_
              refine mm_cast rfl rfl (g := g2) (by rw [eg2, t1.2.1, nI_add, een]) ?_
              refine mm_aload_n dX11_mintClause_77 rfl rfl ?_
              refine mm_iload_n dX11_mintClause_78 rfl rfl ?_
              refine mm_cV (Y1 := YX11_mintPart) dX11_mintClause_79 lX11_323 vX11_mintPart (M3) sh_165 rfl rfl (by simp [Value.category]) ?_
              exact mm_retE dX11_mintClause_82 rfl rfl
            · exact absurd (pI_n0.mp c_51) hfull
          · exact absurd c_35 (by decide)
        refine mm_M.of [some (.ref 165), some (.int (nI q)), none, none] rfl rfl (Nat.le_of_ble_eq_true rfl) ?_
        refine mm_aload_n dX11_mintClause_0 rfl rfl ?_
        refine mm_cV (Y1 := YX11_blanks) dX11_mintClause_1 lX11_231 vX11_blanks (MB) sh_165 rfl rfl (by simp [Value.category]) ?_
        refine mm_aload_n dX11_mintClause_4 rfl rfl ?_
        refine mm_getI dX11_mintClause_5 fX11_211 sh_165 rfl ?_
        refine mm_cast (st' := [.int (nI pos)]) rfl (by rw [t1.2.1] <;> rfl) rfl ?_
        refine mm_istore_n dX11_mintClause_8 rfl (by decide) rfl ?_
        refine mm_iconst (x := 0) dX11_mintClause_9 (by decide) ?_
        refine mm_istore_n dX11_mintClause_10 rfl (by decide) rfl ?_
        exact K11 1 (by omega) hno hye _ _ K33 1 0 (by omega)
      · have e : mcl B n A bt dt pos = (if (rd B n (rd B n (nx B n pos, 0) 0 1200) 0 99).2 = 0 then .ok (addK A (num B n (nx B n pos)) (num B n (rd B n (nx B n pos, 0) 0 1200).1), bt, dt, (rd B n (rd B n (nx B n pos, 0) 0 1200) 0 99).1) else .error (rd B n (rd B n (nx B n pos, 0) 0 1200) 0 99).2) := by unfold mcl; rw [if_neg (show ¬ kd B n pos = 21 by omega), if_pos hk1, if_neg hfull]
        rw [e]; exact r3
  by_cases hk2 : kd B n pos = 27
  · have ek : kd B n pos = ki (mwS 2) := hk2
    have hno : ∀ k, k < 2 → ¬ kd B n pos = ki (mwS k) := fun k hk z => by
      obtain ⟨-, -, c⟩ := mwS_b (show k < 4 by omega)
      rw [c] at z
      split at z <;> omega
    have hye : 2 < 4 → kd B n pos = ki (mwS 2) := fun _ => ek
    obtain ⟨hpos, een⟩ := en_w hsk.2 (mwS_b (show 2 < 4 by decide)).1 (mwS_b (show 2 < 4 by decide)).2.1 ek
    have hen := en_bd (B := B) hpos
    have MI := mX11_isFull_2 (d + 5) g1 A hV1 bt dt hbg hdg h12 h4 hb1 hd1 q hq
    by_cases hfull : ¬ bt = 0
    · have e : mcl B n A bt dt pos = .error (1 + 8 * pos + 4) := by unfold mcl; rw [if_neg (show ¬ kd B n pos = 21 by omega), if_neg (show ¬ kd B n pos = 26 by omega), if_pos hk2, if_pos hfull]
      rw [e]
      refine ⟨_, ?_, f1.mn.trans (mt_q g1 _).mn, pos, t1.f _, hsk.2, by omega, by omega⟩
      have K33 : mm_R (d + 6) YX11_mintClause 33 [some (.ref 165), some (.int (nI q)), some (.int (nI pos)), some (.int (nI 2))] [] g1 none (mm_up g1.1 165 22 (nI (1 + 8 * pos + 4)), g1.2.1, g1.2.2) := by
        refine mm_iload_n dX11_mintClause_33 rfl rfl ?_
        refine mm_iconst (x := 4) dX11_mintClause_34 (by decide) ?_
        refine mm_icmp_ne 45 dX11_mintClause_35 (by decide) (fun c_35 => ?_) (fun c_35 => ?_)
        · refine mm_aload_n dX11_mintClause_45 rfl rfl ?_
          refine mm_iload_n dX11_mintClause_46 rfl rfl ?_
          refine mm_iload_n dX11_mintClause_47 rfl rfl ?_
          refine mm_cV (Y1 := YX11_isFull) dX11_mintClause_48 lX11_320 vX11_isFull (MI) sh_165 rfl rfl (by simp [Value.category]) ?_
          refine mm_if_eq 61 dX11_mintClause_51 (by decide) (fun c_51 => ?_) (fun c_51 => ?_)
          · exact absurd ((nI_eq (b := 0) (by omega) (by omega)).mp c_51) hfull
          · refine mm_aload_n dX11_mintClause_54 rfl rfl ?_
            refine mm_iconst (x := 4) dX11_mintClause_55 (by decide) ?_
            refine mm_iload_n dX11_mintClause_56 rfl rfl ?_
            refine mm_cV (Y1 := YX11_fails) dX11_mintClause_57 lX11_247 vX11_fails (MF4) sh_165 rfl rfl (by simp [Value.category]) ?_
            exact mm_retE dX11_mintClause_60 rfl rfl
        · exact absurd c_35 (by decide)
      refine mm_M.of [some (.ref 165), some (.int (nI q)), none, none] rfl rfl (Nat.le_of_ble_eq_true rfl) ?_
      refine mm_aload_n dX11_mintClause_0 rfl rfl ?_
      refine mm_cV (Y1 := YX11_blanks) dX11_mintClause_1 lX11_231 vX11_blanks (MB) sh_165 rfl rfl (by simp [Value.category]) ?_
      refine mm_aload_n dX11_mintClause_4 rfl rfl ?_
      refine mm_getI dX11_mintClause_5 fX11_211 sh_165 rfl ?_
      refine mm_cast (st' := [.int (nI pos)]) rfl (by rw [t1.2.1] <;> rfl) rfl ?_
      refine mm_istore_n dX11_mintClause_8 rfl (by decide) rfl ?_
      refine mm_iconst (x := 0) dX11_mintClause_9 (by decide) ?_
      refine mm_istore_n dX11_mintClause_10 rfl (by decide) rfl ?_
      exact K11 2 (by omega) hno hye _ _ K33 2 0 (by omega)
    · obtain ⟨g2, eg2⟩ : ∃ g : mm_H, g = (mm_up g1.1 165 21 (nI (en B n pos)), g1.2.1, g1.2.2) := ⟨_, rfl⟩
      have t2 : MT B n g2 (en B n pos) 0 := by rw [eg2]; exact t1.p _
      have f2 : mt_fr g1 g2 := by rw [eg2]; exact mt_p g1 _
      have R2 : RM B n g2 (en B n pos) (nx B n pos, 0) := ⟨t2, hen.2, fun _ => by show sk B n (en B n pos) = nx B n pos; unfold nx; rw [if_neg (by omega)], by show 0 < 4000; decide⟩
      obtain ⟨g3, M3, f3, r3⟩ := mX11_mintPart_2 (d + 1) g2 B n (en B n pos) pos R2 A (viewN_f hV1 f2.1 (fun c hc => by simp [onep]; omega)) bt dt (by rw [f2.2 30 (by decide) (by decide)]; exact hbg) (by rw [f2.2 31 (by decide) (by decide)]; exact hdg) h12 h4 hb1 hd1 hb1
      refine ⟨g3, ?_, (f1.mn.trans f2.mn).trans f3, ?_⟩
      · have MW := mX11_mintWord_2 (d + 5) g1
        have ML := mJ0_length (d + 4) g1 (mwS 2) (by decide)
        have K33 : mm_R (d + 6) YX11_mintClause 33 [some (.ref 165), some (.int (nI q)), some (.int (nI pos)), some (.int (nI 2))] [] g1 none g3 := by
          refine mm_iload_n dX11_mintClause_33 rfl rfl ?_
          refine mm_iconst (x := 4) dX11_mintClause_34 (by decide) ?_
          refine mm_icmp_ne 45 dX11_mintClause_35 (by decide) (fun c_35 => ?_) (fun c_35 => ?_)
          · refine mm_aload_n dX11_mintClause_45 rfl rfl ?_
            refine mm_iload_n dX11_mintClause_46 rfl rfl ?_
            refine mm_iload_n dX11_mintClause_47 rfl rfl ?_
            refine mm_cV (Y1 := YX11_isFull) dX11_mintClause_48 lX11_320 vX11_isFull (MI) sh_165 rfl rfl (by simp [Value.category]) ?_
            refine mm_if_eq 61 dX11_mintClause_51 (by decide) (fun c_51 => ?_) (fun c_51 => ?_)
            · refine mm_aload_n dX11_mintClause_61 rfl rfl ?_
              refine mm_dup dX11_mintClause_62 rfl ?_
              refine mm_getI dX11_mintClause_63 fX11_211 sh_165 rfl ?_
              refine mm_iload_n dX11_mintClause_66 rfl rfl ?_
              refine mm_cS (Y1 := YX11_mintWord) dX11_mintClause_67 lX11_317 sX11_mintWord (MW) rfl rfl (by simp [Value.category]) ?_
              refine mm_callVS (Y1 := YJ0_length_8abf5) dX11_mintClause_70 lX11_222 uJ0_length_8abf5 (ML) (by decide) rfl rfl (by simp [Value.category]) ?_
              refine mm_iadd dX11_mintClause_73 ?_
              refine mm_putI dX11_mintClause_74 fX11_211 sh_165 rfl rfl rfl ?_
              refine mm_cast rfl rfl (g := g2) (by rw [eg2, t1.2.1, nI_add, een]) ?_
              refine mm_aload_n dX11_mintClause_77 rfl rfl ?_
              refine mm_iload_n dX11_mintClause_78 rfl rfl ?_
              refine mm_cV (Y1 := YX11_mintPart) dX11_mintClause_79 lX11_323 vX11_mintPart (M3) sh_165 rfl rfl (by simp [Value.category]) ?_
              exact mm_retE dX11_mintClause_82 rfl rfl
            · exact absurd (by rw [show bt = 0 from Decidable.not_not.mp hfull]; rfl) c_51
          · exact absurd c_35 (by decide)
        refine mm_M.of [some (.ref 165), some (.int (nI q)), none, none] rfl rfl (Nat.le_of_ble_eq_true rfl) ?_
        refine mm_aload_n dX11_mintClause_0 rfl rfl ?_
        refine mm_cV (Y1 := YX11_blanks) dX11_mintClause_1 lX11_231 vX11_blanks (MB) sh_165 rfl rfl (by simp [Value.category]) ?_
        refine mm_aload_n dX11_mintClause_4 rfl rfl ?_
        refine mm_getI dX11_mintClause_5 fX11_211 sh_165 rfl ?_
        refine mm_cast (st' := [.int (nI pos)]) rfl (by rw [t1.2.1] <;> rfl) rfl ?_
        refine mm_istore_n dX11_mintClause_8 rfl (by decide) rfl ?_
        refine mm_iconst (x := 0) dX11_mintClause_9 (by decide) ?_
        refine mm_istore_n dX11_mintClause_10 rfl (by decide) rfl ?_
        exact K11 2 (by omega) hno hye _ _ K33 2 0 (by omega)
      · have e : mcl B n A bt dt pos = (if (rd B n (nx B n pos, 0) 0 999).2 = 0 then .ok (setB A (num B n (nx B n pos)), 1, dt, (rd B n (nx B n pos, 0) 0 999).1) else .error (rd B n (nx B n pos, 0) 0 999).2) := by unfold mcl; rw [if_neg (show ¬ kd B n pos = 21 by omega), if_neg (show ¬ kd B n pos = 26 by omega), if_pos hk2, if_neg hfull]
        rw [e]; exact r3
  by_cases hk3 : kd B n pos = 28
  · have ek : kd B n pos = ki (mwS 3) := hk3
    have hno : ∀ k, k < 3 → ¬ kd B n pos = ki (mwS k) := fun k hk z => by
      obtain ⟨-, -, c⟩ := mwS_b (show k < 4 by omega)
      rw [c] at z
      split at z <;> omega
    have hye : 3 < 4 → kd B n pos = ki (mwS 3) := fun _ => ek
    obtain ⟨hpos, een⟩ := en_w hsk.2 (mwS_b (show 3 < 4 by decide)).1 (mwS_b (show 3 < 4 by decide)).2.1 ek
    have hen := en_bd (B := B) hpos
    have MI := mX11_isFull_3 (d + 5) g1 A hV1 bt dt hbg hdg h12 h4 hb1 hd1 q hq
    by_cases hfull : ¬ dt = 0
    · have e : mcl B n A bt dt pos = .error (1 + 8 * pos + 4) := by unfold mcl; rw [if_neg (show ¬ kd B n pos = 21 by omega), if_neg (show ¬ kd B n pos = 26 by omega), if_neg (show ¬ kd B n pos = 27 by omega), if_pos hk3, if_pos hfull]
      rw [e]
      refine ⟨_, ?_, f1.mn.trans (mt_q g1 _).mn, pos, t1.f _, hsk.2, by omega, by omega⟩
      have K33 : mm_R (d + 6) YX11_mintClause 33 [some (.ref 165), some (.int (nI q)), some (.int (nI pos)), some (.int (nI 3))] [] g1 none (mm_up g1.1 165 22 (nI (1 + 8 * pos + 4)), g1.2.1, g1.2.2) := by
        refine mm_iload_n dX11_mintClause_33 rfl rfl ?_
        refine mm_iconst (x := 4) dX11_mintClause_34 (by decide) ?_
        refine mm_icmp_ne 45 dX11_mintClause_35 (by decide) (fun c_35 => ?_) (fun c_35 => ?_)
        · refine mm_aload_n dX11_mintClause_45 rfl rfl ?_
          refine mm_iload_n dX11_mintClause_46 rfl rfl ?_
          refine mm_iload_n dX11_mintClause_47 rfl rfl ?_
          refine mm_cV (Y1 := YX11_isFull) dX11_mintClause_48 lX11_320 vX11_isFull (MI) sh_165 rfl rfl (by simp [Value.category]) ?_
          refine mm_if_eq 61 dX11_mintClause_51 (by decide) (fun c_51 => ?_) (fun c_51 => ?_)
          · exact absurd ((nI_eq (b := 0) (by omega) (by omega)).mp c_51) hfull
          · refine mm_aload_n dX11_mintClause_54 rfl rfl ?_
            refine mm_iconst (x := 4) dX11_mintClause_55 (by decide) ?_
            refine mm_iload_n dX11_mintClause_56 rfl rfl ?_
            refine mm_cV (Y1 := YX11_fails) dX11_mintClause_57 lX11_247 vX11_fails (MF4) sh_165 rfl rfl (by simp [Value.category]) ?_
            exact mm_retE dX11_mintClause_60 rfl rfl
        · exact absurd c_35 (by decide)
      refine mm_M.of [some (.ref 165), some (.int (nI q)), none, none] rfl rfl (Nat.le_of_ble_eq_true rfl) ?_
      refine mm_aload_n dX11_mintClause_0 rfl rfl ?_
      refine mm_cV (Y1 := YX11_blanks) dX11_mintClause_1 lX11_231 vX11_blanks (MB) sh_165 rfl rfl (by simp [Value.category]) ?_
      refine mm_aload_n dX11_mintClause_4 rfl rfl ?_
      refine mm_getI dX11_mintClause_5 fX11_211 sh_165 rfl ?_
      refine mm_cast (st' := [.int (nI pos)]) rfl (by rw [t1.2.1] <;> rfl) rfl ?_
      refine mm_istore_n dX11_mintClause_8 rfl (by decide) rfl ?_
      refine mm_iconst (x := 0) dX11_mintClause_9 (by decide) ?_
      refine mm_istore_n dX11_mintClause_10 rfl (by decide) rfl ?_
      exact K11 3 (by omega) hno hye _ _ K33 3 0 (by omega)
    · obtain ⟨g2, eg2⟩ : ∃ g : mm_H, g = (mm_up g1.1 165 21 (nI (en B n pos)), g1.2.1, g1.2.2) := ⟨_, rfl⟩
      have t2 : MT B n g2 (en B n pos) 0 := by rw [eg2]; exact t1.p _
      have f2 : mt_fr g1 g2 := by rw [eg2]; exact mt_p g1 _
      have R2 : RM B n g2 (en B n pos) (nx B n pos, 0) := ⟨t2, hen.2, fun _ => by show sk B n (en B n pos) = nx B n pos; unfold nx; rw [if_neg (by omega)], by show 0 < 4000; decide⟩
      obtain ⟨g3, M3, f3, r3⟩ := mX11_mintPart_3 (d + 1) g2 B n (en B n pos) pos R2 A (viewN_f hV1 f2.1 (fun c hc => by simp [onep]; omega)) bt dt (by rw [f2.2 30 (by decide) (by decide)]; exact hbg) (by rw [f2.2 31 (by decide) (by decide)]; exact hdg) h12 h4 hb1 hd1 hd1
      refine ⟨g3, ?_, (f1.mn.trans f2.mn).trans f3, ?_⟩
      · have MW := mX11_mintWord_3 (d + 5) g1
        have ML := mJ0_length (d + 4) g1 (mwS 3) (by decide)
        have K33 : mm_R (d + 6) YX11_mintClause 33 [some (.ref 165), some (.int (nI q)), some (.int (nI pos)), some (.int (nI 3))] [] g1 none g3 := by
          refine mm_iload_n dX11_mintClause_33 rfl rfl ?_
          refine mm_iconst (x := 4) dX11_mintClause_34 (by decide) ?_
          refine mm_icmp_ne 45 dX11_mintClause_35 (by decide) (fun c_35 => ?_) (fun c_35 => ?_)
          · refine mm_aload_n dX11_mintClause_45 rfl rfl ?_
            refine mm_iload_n dX11_mintClause_46 rfl rfl ?_
            refine mm_iload_n dX11_mintClause_47 rfl rfl ?_
            refine mm_cV (Y1 := YX11_isFull) dX11_mintClause_48 lX11_320 vX11_isFull (MI) sh_165 rfl rfl (by simp [Value.category]) ?_
            refine mm_if_eq 61 dX11_mintClause_51 (by decide) (fun c_51 => ?_) (fun c_51 => ?_)
            · refine mm_aload_n dX11_mintClause_61 rfl rfl ?_
              refine mm_dup dX11_mintClause_62 rfl ?_
              refine mm_getI dX11_mintClause_63 fX11_211 sh_165 rfl ?_
              refine mm_iload_n dX11_mintClause_66 rfl rfl ?_
              refine mm_cS (Y1 := YX11_mintWord) dX11_mintClause_67 lX11_317 sX11_mintWord (MW) rfl rfl (by simp [Value.category]) ?_
              refine mm_callVS (Y1 := YJ0_length_8abf5) dX11_mintClause_70 lX11_222 uJ0_length_8abf5 (ML) (by decide) rfl rfl (by simp [Value.category]) ?_
              refine mm_iadd dX11_mintClause_73 ?_
              refine mm_putI dX11_mintClause_74 fX11_211 sh_165 rfl rfl rfl ?_
              refine mm_cast rfl rfl (g := g2) (by rw [eg2, t1.2.1, nI_add, een]) ?_
              refine mm_aload_n dX11_mintClause_77 rfl rfl ?_
              refine mm_iload_n dX11_mintClause_78 rfl rfl ?_
              refine mm_cV (Y1 := YX11_mintPart) dX11_mintClause_79 lX11_323 vX11_mintPart (M3) sh_165 rfl rfl (by simp [Value.category]) ?_
              exact mm_retE dX11_mintClause_82 rfl rfl
            · exact absurd (by rw [show dt = 0 from Decidable.not_not.mp hfull]; rfl) c_51
          · exact absurd c_35 (by decide)
        refine mm_M.of [some (.ref 165), some (.int (nI q)), none, none] rfl rfl (Nat.le_of_ble_eq_true rfl) ?_
        refine mm_aload_n dX11_mintClause_0 rfl rfl ?_
        refine mm_cV (Y1 := YX11_blanks) dX11_mintClause_1 lX11_231 vX11_blanks (MB) sh_165 rfl rfl (by simp [Value.category]) ?_
        refine mm_aload_n dX11_mintClause_4 rfl rfl ?_
        refine mm_getI dX11_mintClause_5 fX11_211 sh_165 rfl ?_
        refine mm_cast (st' := [.int (nI pos)]) rfl (by rw [t1.2.1] <;> rfl) rfl ?_
        refine mm_istore_n dX11_mintClause_8 rfl (by decide) rfl ?_
        refine mm_iconst (x := 0) dX11_mintClause_9 (by decide) ?_
        refine mm_istore_n dX11_mintClause_10 rfl (by decide) rfl ?_
        exact K11 3 (by omega) hno hye _ _ K33 3 0 (by omega)
      · have e : mcl B n A bt dt pos = (if (rd B n (nx B n pos, 0) 0 99).2 = 0 then .ok (setF A (num B n (nx B n pos)), bt, 1, (rd B n (nx B n pos, 0) 0 99).1) else .error (rd B n (nx B n pos, 0) 0 99).2) := by unfold mcl; rw [if_neg (show ¬ kd B n pos = 21 by omega), if_neg (show ¬ kd B n pos = 26 by omega), if_neg (show ¬ kd B n pos = 27 by omega), if_pos hk3, if_neg hfull]
        rw [e]; exact r3
  have e : mcl B n A bt dt pos = .error (1 + 8 * pos) := by unfold mcl; rw [if_neg hk0, if_neg hk1, if_neg hk2, if_neg hk3]
  rw [e]
  have hno : ∀ k, k < 4 → ¬ kd B n pos = ki (mwS k) := fun k hk z => by
    obtain ⟨-, -, c⟩ := mwS_b hk
    rw [c] at z
    split at z <;> omega
  have hye : 4 < 4 → kd B n pos = ki (mwS 4) := fun z => by omega
  refine ⟨_, ?_, f1.mn.trans (mt_q g1 _).mn, pos, t1.f _, hsk.2, by omega, by omega⟩
  have K33 : mm_R (d + 6) YX11_mintClause 33 [some (.ref 165), some (.int (nI q)), some (.int (nI pos)), some (.int (nI 4))] [] g1 none (mm_up g1.1 165 22 (nI (1 + 8 * pos + 0)), g1.2.1, g1.2.2) := by
    refine mm_iload_n dX11_mintClause_33 rfl rfl ?_
    refine mm_iconst (x := 4) dX11_mintClause_34 (by decide) ?_
    refine mm_icmp_ne 45 dX11_mintClause_35 (by decide) (fun c_35 => ?_) (fun c_35 => ?_)
    · exact absurd rfl c_35
    · refine mm_aload_n dX11_mintClause_38 rfl rfl ?_
      refine mm_iconst (x := 0) dX11_mintClause_39 (by decide) ?_
      refine mm_iload_n dX11_mintClause_40 rfl rfl ?_
      refine mm_cV (Y1 := YX11_fails) dX11_mintClause_41 lX11_247 vX11_fails (MF0) sh_165 rfl rfl (by simp [Value.category]) ?_
      exact mm_retE dX11_mintClause_44 rfl rfl
  refine mm_M.of [some (.ref 165), some (.int (nI q)), none, none] rfl rfl (Nat.le_of_ble_eq_true rfl) ?_
  refine mm_aload_n dX11_mintClause_0 rfl rfl ?_
  refine mm_cV (Y1 := YX11_blanks) dX11_mintClause_1 lX11_231 vX11_blanks (MB) sh_165 rfl rfl (by simp [Value.category]) ?_
  refine mm_aload_n dX11_mintClause_4 rfl rfl ?_
  refine mm_getI dX11_mintClause_5 fX11_211 sh_165 rfl ?_
  refine mm_cast (st' := [.int (nI pos)]) rfl (by rw [t1.2.1] <;> rfl) rfl ?_
  refine mm_istore_n dX11_mintClause_8 rfl (by decide) rfl ?_
  refine mm_iconst (x := 0) dX11_mintClause_9 (by decide) ?_
  refine mm_istore_n dX11_mintClause_10 rfl (by decide) rfl ?_
  exact K11 4 (by omega) hno hye _ _ K33 4 0 (by omega)
theorem sgn_3 {c : Int32} {t : Prop} [Decidable t] : sgn c t = 3 ↔ c = 59 := by
  unfold sgn
  by_cases z : c = 59
  · rw [if_pos z]; exact ⟨fun _ => z, fun _ => rfl⟩
  · rw [if_neg z]
    refine ⟨fun w => ?_, fun w => absurd w z⟩
    exfalso
    repeat (first | omega | split at w)
theorem kd_3 {B : Nat → Int32} {n p : Nat} (hp : p < n) : kd B n p = 3 ↔ B p = 59 := by
  unfold kd
  rw [if_neg (by omega)]
  by_cases w : isD (B p)
  · rw [if_pos w]
    exact ⟨fun z => by omega, fun z => by rw [z] at w; exact absurd w (by decide)⟩
  · rw [if_neg w]
    by_cases y : isLt (B p)
    · rw [if_pos y]
      exact ⟨fun z => by have := wk_bd B p (en B n p); omega, fun z => by rw [z] at y; exact absurd y (by decide)⟩
    · rw [if_neg y]; exact sgn_3
set_option maxRecDepth 100000 in
set_option maxHeartbeats 4000000 in
theorem mX11_goesOn (d : Nat) (h : mm_H) (B : Nat → Int32) (n p ft : Nat) (t : MT B n h p ft) (hpn : p ≤ n) (hft : ft < 4000) : ∃ x g, mm_M (d + 2) YX11_goesOn [.ref 165] h (some (.int x)) g ∧ mt_fr h g ∧ MT B n g (sk B n p + 1) (if ft = 0 ∧ sk B n p < n ∧ ¬ kd B n (sk B n p) = 3 then 1 + 8 * sk B n p else ft) ∧ x = pI (ft = 0 ∧ sk B n p < n ∧ kd B n (sk B n p) = 3) := by
  have hn4 := t.2.2.2.2.1
  have hby := t.2.2.2.2.2
  have hsk := sk_ge (B := B) hpn
  have MB := mX11_blanks d h B n p ft t (by omega)
  obtain ⟨pos, epos⟩ : ∃ pos, pos = sk B n p := ⟨_, rfl⟩
  obtain ⟨g1, eg1⟩ : ∃ g : mm_H, g = (mm_up h.1 165 21 (nI (sk B n p)), h.2.1, h.2.2) := ⟨_, rfl⟩
  have t1 : MT B n g1 (sk B n p) ft := by rw [eg1]; exact t.p _
  have f1 : mt_fr h g1 := by rw [eg1]; exact mt_p h _
  rw [← eg1] at MB
  rw [← epos] at t1 hsk ⊢
  have MS := mX11_sign (d + 1) g1 B n pos ft t1 (by omega)
  have hs : sgV B n pos = 59 ↔ pos < n ∧ kd B n pos = 3 := by
    rw [sgV_eq hby (by decide)]
    exact and_congr_right (fun z => (kd_3 z).symm)
  by_cases hA : ft = 0 ∧ pos < n ∧ ¬ kd B n pos = 3
  · have MF := mX11_fails (d + 1) g1 B n pos ft t1 (by omega) (by omega) pos 0 (by omega) (by decide)
    have ef : flt ft pos 0 = 1 + 8 * pos := by unfold flt; rw [if_pos hA.1, Nat.add_zero]
    rw [ef] at MF
    obtain ⟨g2, eg2⟩ : ∃ g : mm_H, g = (mm_up g1.1 165 22 (nI (1 + 8 * pos)), g1.2.1, g1.2.2) := ⟨_, rfl⟩
    have t2 : MT B n g2 pos (1 + 8 * pos) := by rw [eg2]; exact t1.f _
    rw [← eg2] at MF
    rw [if_pos hA]
    refine ⟨_, _, ?_, (f1.trans (by rw [eg2]; exact mt_q g1 _)).trans (mt_p g2 (nI (pos + 1))), t2.p (pos + 1), rfl⟩
    rw [pI_0 (fun z => hA.2.2 z.2.2)]
    refine mm_M.of [some (.ref 165), none] rfl rfl (Nat.le_of_ble_eq_true rfl) ?_
    refine mm_aload_n dX11_goesOn_0 rfl rfl ?_
    refine mm_cV (Y1 := YX11_blanks) dX11_goesOn_1 lX11_231 vX11_blanks (MB) sh_165 rfl rfl (by simp [Value.category]) ?_
    refine mm_aload_n dX11_goesOn_4 rfl rfl ?_
    refine mm_getI dX11_goesOn_5 fX11_208 sh_165 rfl ?_
    refine mm_if_ne 40 dX11_goesOn_8 (by decide) (fun c_8 => ?_) (fun c_8 => ?_)
    · exact absurd (by rw [t1.2.2.1, hA.1]; rfl) c_8
    · refine mm_aload_n dX11_goesOn_11 rfl rfl ?_
      refine mm_getI dX11_goesOn_12 fX11_211 sh_165 rfl ?_
      refine mm_aload_n dX11_goesOn_15 rfl rfl ?_
      refine mm_getI dX11_goesOn_16 fX11_181 sh_165 rfl ?_
      refine mm_icmp_ge 40 dX11_goesOn_19 (by decide) (fun c_19 => ?_) (fun c_19 => ?_)
      · exact absurd (by rw [t1.1, t1.2.1] at c_19; exact c_19) (nI_ge hA.2.1 (by omega))
      · refine mm_aload_n dX11_goesOn_22 rfl rfl ?_
        refine mm_cV (Y1 := YX11_sign) dX11_goesOn_23 lX11_214 vX11_sign (MS) sh_165 rfl rfl (by simp [Value.category]) ?_
        refine mm_bipush (x := 59) dX11_goesOn_26 (by decide) ?_
        refine mm_icmp_eq 40 dX11_goesOn_28 (by decide) (fun c_28 => ?_) (fun c_28 => ?_)
        · exact absurd (hs.mp c_28).2 hA.2.2
        · refine mm_aload_n dX11_goesOn_31 rfl rfl ?_
          refine mm_iconst (x := 0) dX11_goesOn_32 (by decide) ?_
          refine mm_aload_n dX11_goesOn_33 rfl rfl ?_
          refine mm_getI dX11_goesOn_34 fX11_211 sh_165 rfl ?_
          refine mm_cast (st' := [.int (nI pos), .int (nI 0), .ref 165]) rfl (by rw [t1.2.1] <;> rfl) rfl ?_
          refine mm_cV (Y1 := YX11_fails) dX11_goesOn_37 lX11_247 vX11_fails (MF) sh_165 rfl rfl (by simp [Value.category]) ?_
          refine mm_aload_n dX11_goesOn_40 rfl rfl ?_
          refine mm_getI dX11_goesOn_41 fX11_208 sh_165 rfl ?_
          refine mm_if_ne 62 dX11_goesOn_44 (by decide) (fun c_44 => ?_) (fun c_44 => ?_)
          · refine mm_iconst (x := 0) dX11_goesOn_62 (by decide) ?_
            refine mm_istore_n dX11_goesOn_63 rfl (by decide) rfl ?_
            refine mm_aload_n dX11_goesOn_64 rfl rfl ?_
            refine mm_dup dX11_goesOn_65 rfl ?_
            refine mm_getI dX11_goesOn_66 fX11_211 sh_165 rfl ?_
            refine mm_iconst (x := 1) dX11_goesOn_69 (by decide) ?_
            refine mm_iadd dX11_goesOn_70 ?_
            refine mm_putI dX11_goesOn_71 fX11_211 sh_165 rfl rfl rfl ?_
            refine mm_iload_n dX11_goesOn_74 rfl rfl ?_
            exact mm_zretE dX11_goesOn_75 rfl rfl rfl (by rw [t2.2.1, nI_succ])
          · exact absurd ((nI_eq (b := 0) (by omega) (by omega)).mp (t2.2.2.1.symm.trans c_44)) (by omega)
  · rw [if_neg hA]
    refine ⟨_, _, ?_, f1.trans (mt_p g1 (nI (pos + 1))), t1.p (pos + 1), rfl⟩
    by_cases hf : ft = 0
    · by_cases hpn2 : pos < n
      · have hk : kd B n pos = 3 := Decidable.not_not.mp (fun z => hA ⟨hf, hpn2, z⟩)
        rw [pI_1 ⟨hf, hpn2, hk⟩]
        refine mm_M.of [some (.ref 165), none] rfl rfl (Nat.le_of_ble_eq_true rfl) ?_
        refine mm_aload_n dX11_goesOn_0 rfl rfl ?_
        refine mm_cV (Y1 := YX11_blanks) dX11_goesOn_1 lX11_231 vX11_blanks (MB) sh_165 rfl rfl (by simp [Value.category]) ?_
        refine mm_aload_n dX11_goesOn_4 rfl rfl ?_
        refine mm_getI dX11_goesOn_5 fX11_208 sh_165 rfl ?_
        refine mm_if_ne 40 dX11_goesOn_8 (by decide) (fun c_8 => ?_) (fun c_8 => ?_)
        · exact absurd (by rw [t1.2.2.1, hf]; rfl) c_8
        · refine mm_aload_n dX11_goesOn_11 rfl rfl ?_
          refine mm_getI dX11_goesOn_12 fX11_211 sh_165 rfl ?_
          refine mm_aload_n dX11_goesOn_15 rfl rfl ?_
          refine mm_getI dX11_goesOn_16 fX11_181 sh_165 rfl ?_
          refine mm_icmp_ge 40 dX11_goesOn_19 (by decide) (fun c_19 => ?_) (fun c_19 => ?_)
          · exact absurd (by rw [t1.1, t1.2.1] at c_19; exact c_19) (nI_ge hpn2 (by omega))
          · refine mm_aload_n dX11_goesOn_22 rfl rfl ?_
            refine mm_cV (Y1 := YX11_sign) dX11_goesOn_23 lX11_214 vX11_sign (MS) sh_165 rfl rfl (by simp [Value.category]) ?_
            refine mm_bipush (x := 59) dX11_goesOn_26 (by decide) ?_
            refine mm_icmp_eq 40 dX11_goesOn_28 (by decide) (fun c_28 => ?_) (fun c_28 => ?_)
            · refine mm_aload_n dX11_goesOn_40 rfl rfl ?_
              refine mm_getI dX11_goesOn_41 fX11_208 sh_165 rfl ?_
              refine mm_if_ne 62 dX11_goesOn_44 (by decide) (fun c_44 => ?_) (fun c_44 => ?_)
              · exact absurd (by rw [t1.2.2.1, hf]; rfl) c_44
              · refine mm_aload_n dX11_goesOn_47 rfl rfl ?_
                refine mm_getI dX11_goesOn_48 fX11_211 sh_165 rfl ?_
                refine mm_aload_n dX11_goesOn_51 rfl rfl ?_
                refine mm_getI dX11_goesOn_52 fX11_181 sh_165 rfl ?_
                refine mm_icmp_ge 62 dX11_goesOn_55 (by decide) (fun c_55 => ?_) (fun c_55 => ?_)
                · exact absurd (by rw [t1.1, t1.2.1] at c_55; exact c_55) (nI_ge hpn2 (by omega))
                · refine mm_iconst (x := 1) dX11_goesOn_58 (by decide) ?_
                  refine mm_goto 63 dX11_goesOn_59 (by decide) ?_
                  refine mm_istore_n dX11_goesOn_63 rfl (by decide) rfl ?_
                  refine mm_aload_n dX11_goesOn_64 rfl rfl ?_
                  refine mm_dup dX11_goesOn_65 rfl ?_
                  refine mm_getI dX11_goesOn_66 fX11_211 sh_165 rfl ?_
                  refine mm_iconst (x := 1) dX11_goesOn_69 (by decide) ?_
                  refine mm_iadd dX11_goesOn_70 ?_
                  refine mm_putI dX11_goesOn_71 fX11_211 sh_165 rfl rfl rfl ?_
                  refine mm_iload_n dX11_goesOn_74 rfl rfl ?_
                  exact mm_zretE dX11_goesOn_75 rfl rfl rfl (by rw [t1.2.1, nI_succ])
            · exact absurd (hs.mpr ⟨hpn2, hk⟩) c_28
      · rw [pI_0 (fun z => hpn2 z.2.1)]
        refine mm_M.of [some (.ref 165), none] rfl rfl (Nat.le_of_ble_eq_true rfl) ?_
        refine mm_aload_n dX11_goesOn_0 rfl rfl ?_
        refine mm_cV (Y1 := YX11_blanks) dX11_goesOn_1 lX11_231 vX11_blanks (MB) sh_165 rfl rfl (by simp [Value.category]) ?_
        refine mm_aload_n dX11_goesOn_4 rfl rfl ?_
        refine mm_getI dX11_goesOn_5 fX11_208 sh_165 rfl ?_
        refine mm_if_ne 40 dX11_goesOn_8 (by decide) (fun c_8 => ?_) (fun c_8 => ?_)
        · exact absurd (by rw [t1.2.2.1, hf]; rfl) c_8
        · refine mm_aload_n dX11_goesOn_11 rfl rfl ?_
          refine mm_getI dX11_goesOn_12 fX11_211 sh_165 rfl ?_
          refine mm_aload_n dX11_goesOn_15 rfl rfl ?_
          refine mm_getI dX11_goesOn_16 fX11_181 sh_165 rfl ?_
          refine mm_icmp_ge 40 dX11_goesOn_19 (by decide) (fun c_19 => ?_) (fun c_19 => ?_)
          · refine mm_aload_n dX11_goesOn_40 rfl rfl ?_
            refine mm_getI dX11_goesOn_41 fX11_208 sh_165 rfl ?_
            refine mm_if_ne 62 dX11_goesOn_44 (by decide) (fun c_44 => ?_) (fun c_44 => ?_)
            · exact absurd (by rw [t1.2.2.1, hf]; rfl) c_44
            · refine mm_aload_n dX11_goesOn_47 rfl rfl ?_
              refine mm_getI dX11_goesOn_48 fX11_211 sh_165 rfl ?_
              refine mm_aload_n dX11_goesOn_51 rfl rfl ?_
              refine mm_getI dX11_goesOn_52 fX11_181 sh_165 rfl ?_
              refine mm_icmp_ge 62 dX11_goesOn_55 (by decide) (fun c_55 => ?_) (fun c_55 => ?_)
              · refine mm_iconst (x := 0) dX11_goesOn_62 (by decide) ?_
                refine mm_istore_n dX11_goesOn_63 rfl (by decide) rfl ?_
                refine mm_aload_n dX11_goesOn_64 rfl rfl ?_
                refine mm_dup dX11_goesOn_65 rfl ?_
                refine mm_getI dX11_goesOn_66 fX11_211 sh_165 rfl ?_
                refine mm_iconst (x := 1) dX11_goesOn_69 (by decide) ?_
                refine mm_iadd dX11_goesOn_70 ?_
                refine mm_putI dX11_goesOn_71 fX11_211 sh_165 rfl rfl rfl ?_
                refine mm_iload_n dX11_goesOn_74 rfl rfl ?_
                exact mm_zretE dX11_goesOn_75 rfl rfl rfl (by rw [t1.2.1, nI_succ])
              · exact absurd (by rw [t1.1, t1.2.1]; exact nI_le (by omega) (by omega)) c_55
          · exact absurd (by rw [t1.1, t1.2.1]; exact nI_le (by omega) (by omega)) c_19
    · rw [pI_0 (fun z => hf z.1)]
      refine mm_M.of [some (.ref 165), none] rfl rfl (Nat.le_of_ble_eq_true rfl) ?_
      refine mm_aload_n dX11_goesOn_0 rfl rfl ?_
      refine mm_cV (Y1 := YX11_blanks) dX11_goesOn_1 lX11_231 vX11_blanks (MB) sh_165 rfl rfl (by simp [Value.category]) ?_
      refine mm_aload_n dX11_goesOn_4 rfl rfl ?_
      refine mm_getI dX11_goesOn_5 fX11_208 sh_165 rfl ?_
      refine mm_if_ne 40 dX11_goesOn_8 (by decide) (fun c_8 => ?_) (fun c_8 => ?_)
      · refine mm_aload_n dX11_goesOn_40 rfl rfl ?_
        refine mm_getI dX11_goesOn_41 fX11_208 sh_165 rfl ?_
        refine mm_if_ne 62 dX11_goesOn_44 (by decide) (fun c_44 => ?_) (fun c_44 => ?_)
        · refine mm_iconst (x := 0) dX11_goesOn_62 (by decide) ?_
          refine mm_istore_n dX11_goesOn_63 rfl (by decide) rfl ?_
          refine mm_aload_n dX11_goesOn_64 rfl rfl ?_
          refine mm_dup dX11_goesOn_65 rfl ?_
          refine mm_getI dX11_goesOn_66 fX11_211 sh_165 rfl ?_
          refine mm_iconst (x := 1) dX11_goesOn_69 (by decide) ?_
          refine mm_iadd dX11_goesOn_70 ?_
          refine mm_putI dX11_goesOn_71 fX11_211 sh_165 rfl rfl rfl ?_
          refine mm_iload_n dX11_goesOn_74 rfl rfl ?_
          exact mm_zretE dX11_goesOn_75 rfl rfl rfl (by rw [t1.2.1, nI_succ])
        · exact absurd ((nI_eq (b := 0) (by omega) (by omega)).mp (t1.2.2.1.symm.trans c_44)) hf
      · exact absurd ((nI_eq (b := 0) (by omega) (by omega)).mp (t1.2.2.1.symm.trans c_8)) hf
