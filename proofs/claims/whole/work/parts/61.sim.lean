-- CHRONICLE: both sides, step by step
section IV
variable {M M' C R N : zM} {h y lw c k t a b o n r p m j i y0 : Nat} {Q : zR → zM → Prop} {x : Int32} {P S : Nat → Bool} {f : Nat → Int32}
/-- the played town as the town, beside the reference's cells -/
def vw (C R : zM) : zM := fun a => if 1 ≤ a ∧ a ≤ 8 then C (a + 16) else R a
theorem vw_c (h1 : 1 ≤ a) (h8 : a ≤ 8) : vw C R a = C (a + 16) := if_pos ⟨h1, h8⟩
theorem vw_r (ha : a = 0 ∨ 8 < a) : vw C R a = R a := if_neg (by omega)
theorem vw_rowC (h1 : 1 ≤ a) (h8 : a ≤ 8) : vw (zrow C (a + 16) f) R = zrow (vw C R) a f := by
  funext e
  unfold vw zrow
  by_cases h : e = a
  · subst h
    rw [if_pos ⟨h1, h8⟩, if_pos rfl, if_pos rfl]
  · rw [if_neg h, if_neg (by omega : ¬ e + 16 = a + 16)]
theorem vw_rowR (ha : a = 0 ∨ 8 < a) : vw C (zrow R a f) = zrow (vw C R) a f := by
  funext e
  unfold vw zrow
  by_cases h : e = a
  · subst h
    rw [if_neg (by omega), if_pos rfl, if_pos rfl]
  · rw [if_neg h, if_neg h]
theorem vw_upC (h1 : 1 ≤ a) (h8 : a ≤ 8) : vw (zup C (a + 16) k x) R = zup (vw C R) a k x := by
  unfold zup
  rw [vw_rowC h1 h8, vw_c h1 h8]
theorem vw_upR (ha : a = 0 ∨ 8 < a) : vw C (zup R a k x) = zup (vw C R) a k x := by
  unfold zup
  rw [vw_rowR ha, vw_r ha]
def CR (C R : zM) (h y lw y0 : Nat) : Prop := JT (vw C R) h y lw ∧ y0 ≤ y ∧ R 42 19 = nI y0 ∧ C 25 2 = nI (y - y0) ∧ (∀ k, k < h → C 26 k = R 55 k ∧ (0 < R 44 k ↔ 0 < R 54 k ∧ R 55 k < 0)) ∧ (∀ k, h ≤ k → k < 6 → C 26 k = -9)
def FR (C C' : zM) : Prop := ∀ a, (a < 17 ∨ 26 < a) → C' a = C a
def FM (R R' : zM) : Prop := (∀ a, a ≠ 42 → a ≠ 44 → a ≠ 55 → R' a = R a) ∧ (∀ i, i ≠ 2 → i ≠ 9 → R' 42 i = R 42 i)
theorem FR.trans {A B D : zM} (h1 : FR A B) (h2 : FR B D) : FR A D := fun a ha => (h2 a ha).trans (h1 a ha)
theorem FM.trans {A B D : zM} (h1 : FM A B) (h2 : FM B D) : FM A D := ⟨fun a a1 a2 a3 => (h2.1 a a1 a2 a3).trans (h1.1 a a1 a2 a3), fun i i1 i2 => (h2.2 i i1 i2).trans (h1.2 i i1 i2)⟩
theorem FR_nd : FR C (NDc C P h) := fun a ha => zrow_ne _ _ (by omega)
theorem FM_wd : FM R (WD R h) := ⟨fun a a1 a2 a3 => zrow_ne _ _ a3, fun i i1 i2 => rfl⟩
theorem JT_19 (T : JT (vw C R) h y lw) (hk : k < h) : R 44 k = C 19 k := (T.2.2.2.2.2.2.2.2.2 k hk).1.2.1
theorem sim_deaths (T : JT (vw C R) h y lw) (hy : y0 ≤ y) (h19 : R 42 19 = nI y0) (h25 : C 25 2 = nI (y - y0)) (hd : ∀ k, k < h → C 26 k = R 55 k ∧ (P k = true ↔ 0 < R 54 k ∧ R 55 k < 0) ∧ (0 < R 44 k → P k = true)) (h9 : ∀ k, h ≤ k → k < 6 → C 26 k = -9) : CR (NDc C P h) (WD R h) h y lw y0 := by
  have hy9 := T.2.2.2.2.2.2.2.1
  have hy2 : R 42 2 = nI y := T.2.2.2.1
  have h6 := T.2.2.2.2.2.2.1
  refine ⟨JT_congr T (fun a ha => ?_) rfl rfl rfl, hy, h19, h25, fun k hk => ?_, fun k hk h6k => ?_⟩
  · by_cases h8 : a ≤ 8
    · rw [vw_c (by omega) h8, vw_c (by omega) h8]
      exact zrow_ne _ _ (by omega)
    · rw [vw_r (by omega), vw_r (by omega)]
      exact zrow_ne _ _ (by omega)
  · obtain ⟨d1, d2, d3⟩ := hd k hk
    have e44 := JT_19 T hk
    have n26 : NDc C P h 26 k = if P k = true ∧ ¬ 0 < R 44 k then C 25 2 else C 26 k := by
      unfold NDc
      rw [zrow_self]
      unfold NDr
      rw [← e44]
      by_cases e : P k = true ∧ ¬ 0 < R 44 k
      · rw [if_pos e, if_pos ⟨by omega, hk, e.1, by simpa using e.2⟩]
      · rw [if_neg e, if_neg (fun e2 => e ⟨e2.2.2.1, by simpa using e2.2.2.2⟩)]
    have w55 : WD R h 55 k = if P k = true ∧ ¬ 0 < R 44 k then R 42 2 - R 42 19 else R 55 k := by
      unfold WD
      rw [zrow_self]
      unfold WDr
      by_cases e : P k = true ∧ ¬ 0 < R 44 k
      · have := d2.mp e.1
        rw [if_pos e, if_pos ⟨hk, this.2, this.1, e.2⟩]
      · rw [if_neg e, if_neg (fun e2 => e ⟨d2.mpr ⟨e2.2.2.1, e2.2.1⟩, e2.2.2.2⟩)]
    have ey : R 42 2 - R 42 19 = nI (y - y0) := by rw [hy2, h19]; exact pk_sub hy
    have w44 : WD R h 44 = R 44 := rfl
    have w54 : WD R h 54 = R 54 := rfl
    rw [n26, w55, w44, w54, h25, ey, d1]
    refine ⟨rfl, ?_⟩
    by_cases e : P k = true ∧ ¬ 0 < R 44 k
    · rw [if_pos e]
      exact ⟨fun e2 => absurd e2 e.2, fun e2 => absurd e2.2 (nI_pos (by omega))⟩
    · rw [if_neg e]
      constructor
      · intro e2
        exact d2.mp (d3 e2)
      · intro e2
        by_cases e3 : 0 < R 44 k
        · exact e3
        · exact absurd ⟨d2.mpr e2, e3⟩ e
  · show NDc C P h 26 k = -9
    unfold NDc
    rw [zrow_self]
    unfold NDr
    rw [if_neg (by omega)]
    exact h9 k hk h6k
def CY (C : zM) (h : Nat) : zM := NDc (zup (MY 17 h C) 25 2 (C 25 2 + 1)) (fun k => decide (0 < C 19 k)) h
def RY (R : zM) (h : Nat) : zM := WD (MYm h R) h
theorem vw_year : vw (MY 17 h C) (MYm h R) = MYm h (MY 1 h (vw C R)) := by
  funext a
  by_cases a1 : a = 1
  · subst a1; rfl
  by_cases a3 : a = 3
  · subst a3; rfl
  by_cases a42 : a = 42
  · subst a42; rfl
  by_cases a44 : a = 44
  · subst a44; rfl
  unfold MYm MY
  rw [zup_ne _ _ _ a42, zrow_ne _ _ a44, zup_ne _ _ _ a1, zrow_ne _ _ a3]
  by_cases h8 : 1 ≤ a ∧ a ≤ 8
  · rw [vw_c h8.1 h8.2, vw_c h8.1 h8.2, zup_ne _ _ _ (by omega), zrow_ne _ _ (by omega)]
  · rw [vw_r (by omega), vw_r (by omega), zup_ne _ _ _ a42, zrow_ne _ _ a44]
theorem fsb_dead {l : Int32} : ∀ r, r < 14 → ¬ 0 < fsb 0 (nI 0) 1 (nI r) := by decide +kernel
theorem year_pos (T : JT (vw C R) h y lw) (hk : k < h) (hp : 0 < MYm h R 44 k) : 0 < R 44 k := by
  have e : MYm h R 44 k = fsb (fml R k) (R 44 k) 1 (fmr R k) := by
    show mys R h k = _
    unfold mys
    rw [if_pos hk]
    rfl
  rw [e] at hp
  by_cases h0 : 0 < R 44 k
  · exact h0
  · have hs : 0 ≤ R 44 k := JT_s0 (M := vw C R) T hk
    have e0 : R 44 k = nI 0 := by
      show R 44 k = 0
      simp only [fa_lt, fa_le, fa_eq, zt_0, zt_1, zt_2, zt_3, zt_4, zt_5, zt_6, zt_7, zt_8, zt_9, zt_10, zt_11, zt_12, zt_13, zt_14, zt_15, zt_16, zt_17, zt_18, zt_19, zt_20, zt_21, zt_22, zt_23, zt_24, zt_25, zt_31, zt_40, zt_48, zt_50, zt_57, zt_59, zt_60, zt_97, zt_98, zt_99, zt_100, zt_112, zt_115, zt_119, zt_120, zt_255, zt_999, zt_m1, zt_m2, zt_m3, zt_m4, zt_m9, zt_m10, zt_m100] at *
      omega
    obtain ⟨r, hr, er⟩ := JT_rk T hk
    have er2 : fmr R k = nI r := er
    rw [e0, er2] at hp
    unfold fsb at hp
    split at hp
    · have := fsb_dead (l := 0) r (by omega)
      unfold fsb at this
      rw [if_pos rfl] at this
      exact absurd hp this
    · exact absurd hp (by decide)
theorem sim_year (S : CR C R h y lw y0) (hy : y + 1 ≤ 999) : CR (CY C h) (RY R h) h (y + 1) lw y0 := by
  obtain ⟨T, hy0, h19, h25, hd, h9⟩ := S
  have T1 := JT_go (n := 1) T hy
  rw [← MG_s, MG_0, ← MGm_s, MGm_0, ← vw_year] at T1
  refine sim_deaths (JT_congr T1 (fun a ha => ?_) rfl rfl rfl) (by omega) h19 ?_ (fun k hk => ?_) h9
  · by_cases h8 : a ≤ 8
    · rw [vw_c (by omega) h8, vw_c (by omega) h8]
      exact zup_ne _ _ _ (by omega)
    · rw [vw_r (by omega), vw_r (by omega)]
  · show C 25 2 + 1 = _
    rw [h25, nI_1]
    congr 1
    omega
  · obtain ⟨d1, d2⟩ := hd k hk
    have e44 := JT_19 T hk
    refine ⟨d1, ?_, fun hp => ?_⟩
    · rw [← e44, decide_eq_true_iff]
      exact d2
    · have := year_pos T hk hp
      rw [← e44, decide_eq_true_iff]
      exact this
theorem FR_cy : FR C (CY C h) := fun a ha => by
  unfold CY
  rw [FR_nd a ha, zup_ne _ _ _ (by omega)]
  unfold MY
  rw [zup_ne _ _ _ (by omega), zrow_ne _ _ (by omega)]
theorem FM_ry : FM R (RY R h) := by
  refine FM.trans ⟨fun a a1 a2 a3 => ?_, fun i i1 i2 => ?_⟩ FM_wd
  · unfold MYm
    rw [zup_ne _ _ _ a1, zrow_ne _ _ a2]
  · unfold MYm
    rw [zup_app, if_pos rfl, if_neg i1]
    rfl
theorem CR_c7 (S : CR C R h y lw y0) : C 17 7 = nI h := S.1.1
theorem CR_kp (S : CR C R h y lw y0) : zKp C 17 h := JT_kp S.1
theorem CR_m1 (S : CR C R h y lw y0) : R 42 1 = nI h := S.1.2.1
theorem CR_km (S : CR C R h y lw y0) : zKm R h := JT_km (M := vw C R) S.1
theorem sim_years : ∀ d (C R : zM) y, CR C R h y lw y0 → y + d ≤ 999 → ∃ C' R', CR C' R' h (y + d) lw y0 ∧ FR C C' ∧ FM R R' ∧ (∀ (Q : zR → zM → Prop) p n (v3 : Int32), p + d = n → n < 100 → (zQ 14 19 [.ref 25, .int (nI n), .int (nI p), .int v3] [] C Q ↔ Q (zI 1) C')) ∧ (∀ (Q : zR → zM → Prop) p n (x2 : Int32), p + d = n → n < 100 → (zQ 119 43 [.ref 42, .int (nI n), .int x2, .int (nI p)] [] R Q ↔ Q (zI 1) R')) := by
  intro d
  induction d with
  | zero =>
    intro C R y S _
    refine ⟨C, R, S, fun a _ => rfl, ⟨fun a _ _ _ => rfl, fun i _ _ => rfl⟩, fun Q p n v3 hp hn => ?_, fun Q p n x2 hp hn => ?_⟩
    · obtain rfl : p = n := by omega
      rw [q14_19]
      simp only [q14_0, q14_1, q14_4, q14_7, q14_8, q14_9, q14_12, q14_15, q14_16, q14_17, q14_18i, q14_18r, q14_18n, q14_20, q14_21, q14_24, q14_25, q14_28, q14_31i, q14_31r, q14_31n, q14_32, q14_33, q14_36, q14_39, q14_40, q14_41, q14_44, q14_45, q14_46, q14_49, q14_50, q14_51, q14_54i, q14_54r, q14_54n, q14_57, q14_60, q14_61, zNC, zcs_0, zcs_i, zcs_r, zcs_l, zpush_0, zpush_i, zpush_l, and_true, true_and, Nat.reduceLT, Nat.reduceLeDiff, Nat.reduceAdd, Nat.reduceMul, reduceIte, ite_true, ite_false, if_true, if_false, not_true_eq_false, not_false_eq_true, false_implies, true_implies, forall_const, implies_true, imp_self, and_self, false_and, and_false, ne_eq, zk_0, zfv_0_0, zfv_0_1, zfv_0_2, zfv_0_3, zfv_0_4, zfv_0_5, zfv_0_6, zf_0_6, zfv_0_7, zf_0_7, zk_25, zfv_25_0, zfv_25_1, zfv_25_2, zf_25_2, zk_26, zn_26, zk_27, zfv_27_0, zk_28, zn_28, zk_29, zfv_29_0, zfv_29_1, zfv_29_2, zfv_29_3, zf_29_3, zk_30, zn_30, zk_31, zn_31, zk_32, zn_32, zk_33, zn_33, zk_34, zfv_34_0, zfv_34_1, zf_34_1, zfv_34_2, zf_34_2, zfv_34_3, zf_34_3, zk_35, zn_35, zk_36, zfv_36_0, zfv_36_1, zf_36_1, zfv_36_2, zf_36_2, zfv_36_3, zf_36_3, zk_37, zn_37, zk_38, zfv_38_0, zfv_38_1, zf_38_1, zfv_38_2, zf_38_2, zfv_38_3, zf_38_3, zk_39, zn_39, zk_40, zfv_40_0, zfv_40_1, zf_40_1, zfv_40_2, zf_40_2, zfv_40_3, zf_40_3, zk_41, zn_41, zk_1, zfv_1_0, zfv_1_1, zfv_1_2, zfv_1_3, zfv_1_4, zfv_1_5, zfv_1_6, zfv_1_7, zf_1_7, zfv_1_8, zf_1_8, zk_9, zfv_9_0, zfv_9_1, zfv_9_2, zfv_9_3, zfv_9_4, zfv_9_5, zfv_9_6, zfv_9_7, zf_9_7, zfv_9_8, zf_9_8, zk_17, zfv_17_0, zfv_17_1, zfv_17_2, zfv_17_3, zfv_17_4, zfv_17_5, zfv_17_6, zfv_17_7, zf_17_7, zfv_17_8, zf_17_8, zk_2, zn_2, zk_3, zn_3, zk_4, zn_4, zk_5, zn_5, zk_6, zn_6, zk_7, zn_7, zk_8, zn_8, zk_10, zn_10, zk_11, zn_11, zk_12, zn_12, zk_13, zn_13, zk_14, zn_14, zk_15, zn_15, zk_16, zn_16, zk_18, zn_18, zk_19, zn_19, zk_20, zn_20, zk_21, zn_21, zk_22, zn_22, zk_23, zn_23, zk_24, zn_24, i_le_refl]
      simp
    · obtain rfl : p = n := by omega
      rw [q119_43]
      simp only [q119_0, q119_1, q119_3, q119_6, q119_7, q119_8, q119_9, q119_12, q119_15, q119_16, q119_19, q119_20i, q119_20r, q119_20n, q119_21, q119_22, q119_25, q119_26, q119_27, q119_28, q119_31, q119_32, q119_33, q119_36, q119_39, q119_40, q119_41, q119_42i, q119_42r, q119_42n, q119_44, q119_45, q119_48, q119_49, q119_52, q119_53, q119_56i, q119_56r, q119_56n, q119_59, q119_62, q119_63, zNC, zcs_0, zcs_i, zcs_r, zcs_l, zpush_0, zpush_i, zpush_l, and_true, true_and, Nat.reduceLT, Nat.reduceLeDiff, Nat.reduceAdd, Nat.reduceMul, reduceIte, ite_true, ite_false, if_true, if_false, not_true_eq_false, not_false_eq_true, false_implies, true_implies, forall_const, implies_true, imp_self, and_self, false_and, and_false, ne_eq, zk_42, zfv_42_0, zf_42_0, zfv_42_1, zf_42_1, zfv_42_2, zf_42_2, zfv_42_3, zfv_42_4, zfv_42_5, zfv_42_6, zfv_42_7, zfv_42_8, zfv_42_9, zf_42_9, zfv_42_10, zf_42_10, zfv_42_11, zf_42_11, zfv_42_12, zfv_42_13, zfv_42_14, zfv_42_15, zfv_42_16, zfv_42_17, zfv_42_18, zf_42_18, zfv_42_19, zf_42_19, zfv_42_20, zfv_42_21, zfv_42_22, zfv_42_23, zf_42_23, zfv_42_24, zfv_42_25, zfv_42_26, zfv_42_27, zfv_42_28, zfv_42_29, zfv_42_30, zfv_42_31, zf_42_31, zk_43, zn_43, zk_44, zn_44, zk_45, zn_45, zk_46, zn_46, zk_47, zn_47, zk_48, zn_48, zk_49, zn_49, zk_50, zn_50, zk_51, zn_51, zk_52, zn_52, zk_53, zn_53, zk_54, zn_54, zk_55, zn_55, zk_56, zn_56, zk_57, zn_57, zk_58, zn_58, zk_59, zn_59, zk_60, zn_60, zk_61, zn_61, zk_62, zn_62, zk_63, zn_63, zk_64, zn_64, i_le_refl]
      simp
  | succ d ih =>
    intro C R y S hy
    have S1 := sim_year S (by omega)
    have h6 := S.1.2.2.2.2.2.2.1
    obtain ⟨C', R', S2, f1, f2, q1, q2⟩ := ih (CY C h) (RY R h) (y + 1) S1 (by omega)
    refine ⟨C', R', by rw [show y + (d + 1) = y + 1 + d by omega]; exact S2, FR_cy.trans f1, FM_ry.trans f2, fun Q p n v3 hp hn => ?_, fun Q p n x2 hp hn => ?_⟩
    · have h1 : ¬ nI n ≤ nI p := nI_ge (by omega) (by omega)
      have e1 : ∀ Q' : zR → zM → Prop, _ := fun Q' => s_setOfLiving (M := C) (Q := Q') ht17 (CR_c7 S) h6
      simp only [Nat.reduceAdd] at e1
      have e2 : ∀ Q' : zR → zM → Prop, _ := fun Q' => s_passYear (M := C) (Q := Q') ht17 (CR_c7 S) h6 (CR_kp S)
      have c70 := CR_c7 S
      have c7 : zup (MY 17 h C) 25 2 (C 25 2 + 1) 17 7 = nI h := c70
      have e3 : ∀ Q' : zR → zM → Prop, _ := fun Q' => s_noteDeaths (C := zup (MY 17 h C) 25 2 (C 25 2 + 1)) (Q := Q') (P := fun k => decide (0 < C 19 k)) c7 h6
      have e25 : MY 17 h C 25 2 = C 25 2 := rfl
      have q1' := fun v3 => q1 Q (p + 1) n v3 (by omega) hn
      unfold CY at q1'
      rw [q14_19]
      simp only [q14_0, q14_1, q14_4, q14_7, q14_8, q14_9, q14_12, q14_15, q14_16, q14_17, q14_18i, q14_18r, q14_18n, q14_20, q14_21, q14_24, q14_25, q14_28, q14_31i, q14_31r, q14_31n, q14_32, q14_33, q14_36, q14_39, q14_40, q14_41, q14_44, q14_45, q14_46, q14_49, q14_50, q14_51, q14_54i, q14_54r, q14_54n, q14_57, q14_60, q14_61, zNC, zcs_0, zcs_i, zcs_r, zcs_l, zpush_0, zpush_i, zpush_l, and_true, true_and, Nat.reduceLT, Nat.reduceLeDiff, Nat.reduceAdd, Nat.reduceMul, reduceIte, ite_true, ite_false, if_true, if_false, not_true_eq_false, not_false_eq_true, false_implies, true_implies, forall_const, implies_true, imp_self, and_self, false_and, and_false, ne_eq, zk_0, zfv_0_0, zfv_0_1, zfv_0_2, zfv_0_3, zfv_0_4, zfv_0_5, zfv_0_6, zf_0_6, zfv_0_7, zf_0_7, zk_25, zfv_25_0, zfv_25_1, zfv_25_2, zf_25_2, zk_26, zn_26, zk_27, zfv_27_0, zk_28, zn_28, zk_29, zfv_29_0, zfv_29_1, zfv_29_2, zfv_29_3, zf_29_3, zk_30, zn_30, zk_31, zn_31, zk_32, zn_32, zk_33, zn_33, zk_34, zfv_34_0, zfv_34_1, zf_34_1, zfv_34_2, zf_34_2, zfv_34_3, zf_34_3, zk_35, zn_35, zk_36, zfv_36_0, zfv_36_1, zf_36_1, zfv_36_2, zf_36_2, zfv_36_3, zf_36_3, zk_37, zn_37, zk_38, zfv_38_0, zfv_38_1, zf_38_1, zfv_38_2, zf_38_2, zfv_38_3, zf_38_3, zk_39, zn_39, zk_40, zfv_40_0, zfv_40_1, zf_40_1, zfv_40_2, zf_40_2, zfv_40_3, zf_40_3, zk_41, zn_41, zk_1, zfv_1_0, zfv_1_1, zfv_1_2, zfv_1_3, zfv_1_4, zfv_1_5, zfv_1_6, zfv_1_7, zf_1_7, zfv_1_8, zf_1_8, zk_9, zfv_9_0, zfv_9_1, zfv_9_2, zfv_9_3, zfv_9_4, zfv_9_5, zfv_9_6, zfv_9_7, zf_9_7, zfv_9_8, zf_9_8, zk_17, zfv_17_0, zfv_17_1, zfv_17_2, zfv_17_3, zfv_17_4, zfv_17_5, zfv_17_6, zfv_17_7, zf_17_7, zfv_17_8, zf_17_8, zk_2, zn_2, zk_3, zn_3, zk_4, zn_4, zk_5, zn_5, zk_6, zn_6, zk_7, zn_7, zk_8, zn_8, zk_10, zn_10, zk_11, zn_11, zk_12, zn_12, zk_13, zn_13, zk_14, zn_14, zk_15, zn_15, zk_16, zn_16, zk_18, zn_18, zk_19, zn_19, zk_20, zn_20, zk_21, zn_21, zk_22, zn_22, zk_23, zn_23, zk_24, zn_24, h1, e1, e2, e25, e3, nI_1, q1']
    · have h1 : ¬ nI n ≤ nI p := nI_ge (by omega) (by omega)
      have e1 : ∀ Q' : zR → zM → Prop, _ := fun Q' => s_oneYear (M := R) (Q := Q') (CR_m1 S) h6 (CR_km S) (fun k hk => JT_s0 (M := vw C R) S.1 hk)
      have c70 := CR_m1 S
      have c7 : MYm h R 42 1 = nI h := c70
      have e3 : ∀ Q' : zR → zM → Prop, _ := fun Q' => s_whoDied (R := MYm h R) (Q := Q') c7 h6
      have q2' := q2 Q (p + 1) n x2 (by omega) hn
      unfold RY at q2'
      rw [q119_43]
      simp only [q119_0, q119_1, q119_3, q119_6, q119_7, q119_8, q119_9, q119_12, q119_15, q119_16, q119_19, q119_20i, q119_20r, q119_20n, q119_21, q119_22, q119_25, q119_26, q119_27, q119_28, q119_31, q119_32, q119_33, q119_36, q119_39, q119_40, q119_41, q119_42i, q119_42r, q119_42n, q119_44, q119_45, q119_48, q119_49, q119_52, q119_53, q119_56i, q119_56r, q119_56n, q119_59, q119_62, q119_63, zNC, zcs_0, zcs_i, zcs_r, zcs_l, zpush_0, zpush_i, zpush_l, and_true, true_and, Nat.reduceLT, Nat.reduceLeDiff, Nat.reduceAdd, Nat.reduceMul, reduceIte, ite_true, ite_false, if_true, if_false, not_true_eq_false, not_false_eq_true, false_implies, true_implies, forall_const, implies_true, imp_self, and_self, false_and, and_false, ne_eq, zk_42, zfv_42_0, zf_42_0, zfv_42_1, zf_42_1, zfv_42_2, zf_42_2, zfv_42_3, zfv_42_4, zfv_42_5, zfv_42_6, zfv_42_7, zfv_42_8, zfv_42_9, zf_42_9, zfv_42_10, zf_42_10, zfv_42_11, zf_42_11, zfv_42_12, zfv_42_13, zfv_42_14, zfv_42_15, zfv_42_16, zfv_42_17, zfv_42_18, zf_42_18, zfv_42_19, zf_42_19, zfv_42_20, zfv_42_21, zfv_42_22, zfv_42_23, zf_42_23, zfv_42_24, zfv_42_25, zfv_42_26, zfv_42_27, zfv_42_28, zfv_42_29, zfv_42_30, zfv_42_31, zf_42_31, zk_43, zn_43, zk_44, zn_44, zk_45, zn_45, zk_46, zn_46, zk_47, zn_47, zk_48, zn_48, zk_49, zn_49, zk_50, zn_50, zk_51, zn_51, zk_52, zn_52, zk_53, zn_53, zk_54, zn_54, zk_55, zn_55, zk_56, zn_56, zk_57, zn_57, zk_58, zn_58, zk_59, zn_59, zk_60, zn_60, zk_61, zn_61, zk_62, zn_62, zk_63, zn_63, zk_64, zn_64, h1, e1, e3, nI_1, q2']
end IV
