-- CHRONICLE: one pair, all pairs, the answer
section IV
variable {M M' C R N : zM} {h y lw c k t a b o n r p m j i y0 : Nat} {Q : zR → zM → Prop} {x : Int32} {P S : Nat → Bool} {f : Nat → Int32}
theorem act_JT (S : JT (vw C R) h y lw) (hk : k < h) {a : Int32} (ha : a = 0 ∨ a = 1 ∨ a = 2) : ∃ lw', JT (vw (MA C 17 k a) (zup (zup R 42 9 (fmlaid R k a)) 44 k (fmsand R k a))) h y lw' := by
  have e9 : R 42 9 = nI lw := S.2.2.2.2.1
  rcases ha with rfl | rfl | rfl
  · refine ⟨lw ||| 2 ^ k, ?_⟩
    have T := JT_lay S hk
    have e1 : MA C 17 k 0 = zup C (8 + 16) k 1 := by unfold MA; rw [if_neg (by decide), zb1_t rfl]
    have e2 : fmlaid R k 0 = nI lw ||| (1 <<< (nI k &&& 31)) := by unfold fmlaid; rw [if_pos rfl, e9]
    have e3 : fmsand R k 0 = vw C R 44 k := by unfold fmsand; rw [if_neg (by decide)]; rfl
    rw [e1, e2, e3, vw_upR (by omega), vw_upR (by omega), vw_upC (by omega) (by omega)]
    exact T
  · refine ⟨lw &&& (63 ^^^ 2 ^ k), ?_⟩
    have T := JT_raise S hk
    have e1 : MA C 17 k 1 = zup C (8 + 16) k 0 := by unfold MA; rw [if_neg (by decide), zb1_f (by decide)]
    have e2 : fmlaid R k 1 = nI lw &&& ((1 <<< (nI k &&& 31)) ^^^ -1) := by unfold fmlaid; rw [if_neg (by decide), if_pos rfl, e9]
    have e3 : fmsand R k 1 = vw C R 44 k := by unfold fmsand; rw [if_neg (by decide)]; rfl
    rw [e1, e2, e3, vw_upR (by omega), vw_upR (by omega), vw_upC (by omega) (by omega)]
    exact T
  · refine ⟨lw, ?_⟩
    have T := JT_turn S hk
    have e1 : MA C 17 k 2 = zup C (3 + 16) k (vw C R 4 k - vw C R 3 k) := by unfold MA; rw [if_pos rfl]; rfl
    have e2 : fmlaid R k 2 = vw C R 42 9 := by unfold fmlaid; rw [if_neg (by decide), if_neg (by decide)]; rfl
    have e3 : fmsand R k 2 = vw C R 45 k - vw C R 44 k := by unfold fmsand; rw [if_pos rfl]; rfl
    rw [e1, e2, e3, vw_upR (by omega), vw_upR (by omega), vw_upC (by omega) (by omega)]
    exact T
theorem MA_ne {a : Int32} {e : Nat} (h1 : e ≠ t + 2) (h2 : e ≠ t + 7) : MA C t k a e = C e := by
  unfold MA
  split
  · exact zup_ne _ _ _ h1
  · exact zup_ne _ _ _ h2
def SP (C R : zM) (h y0 : Nat) (one act : Int32) : Prop := (∃ C' R' y' lw', CR C' R' h y' lw' y0 ∧ FR C C' ∧ FM R R' ∧ (∀ Q : zR → zM → Prop, zQ 13 0 [.ref 25, .int one, .int act, .null] [] C Q ↔ Q (zI 1) C') ∧ (∀ Q : zR → zM → Prop, zQ 119 0 [.ref 42, .int one, .int act, .null] [] R Q ↔ Q (zI 1) R')) ∨ (∃ R', FM R R' ∧ (∀ Q : zR → zM → Prop, zQ 13 0 [.ref 25, .int one, .int act, .null] [] C Q ↔ Q (zI 0) C) ∧ (∀ Q : zR → zM → Prop, zQ 119 0 [.ref 42, .int one, .int act, .null] [] R Q ↔ Q (zI 0) R'))
theorem sim_act (S : CR C R h y lw y0) (hk : k < h) {a : Int32} (ha : a = 0 ∨ a = 1 ∨ a = 2) : SP C R h y0 (nI k) a := by
  have h6 := S.1.2.2.2.2.2.2.1
  have hkk := has_nI hk h6
  have a9 : ¬ a = 9 := by rcases ha with rfl | rfl | rfl <;> decide
  have a9' : ¬ 9 ≤ a := by rcases ha with rfl | rfl | rfl <;> decide
  have g1 := zKp_at (CR_kp S) h6 hk
  have g2 := zKm_at (CR_km S) h6 hk
  have c7 := CR_c7 S
  have m1 := CR_m1 S
  have e1 : ∀ Q' : zR → zM → Prop, _ := fun Q' => s_setOfLiving (M := C) (Q := Q') ht17 c7 h6
  simp only [Nat.reduceAdd] at e1
  have ok : fok C 17 k a ↔ fmok R k a := JT_ok (M := vw C R) S.1 hk a
  by_cases hok : fok C 17 k a
  · left
    obtain ⟨lw', T1⟩ := act_JT S.1 hk ha
    have e2 : ∀ Q' : zR → zM → Prop, _ := fun Q' => s_doAct_t (M := C) (Q := Q') ht17 (show k < 6 by omega) (show fkp C 17 k < 6 by omega) g1.2 hok
    have e3 : ∀ Q' : zR → zM → Prop, _ := fun Q' => s_done_t (M := R) (Q := Q') (show k < 6 by omega) (show fmk R k < 6 by omega) g2.2 (ok.mp hok)
    have c71 : MA C 17 k a 17 7 = nI h := by rw [MA_ne (by decide) (by decide)]; exact c7
    have e4 : ∀ Q' : zR → zM → Prop, _ := fun Q' => s_noteDeaths (C := MA C 17 k a) (Q := Q') (P := fun k => decide (0 < C 19 k)) c71 h6
    have m11 : zup (zup R 42 9 (fmlaid R k a)) 44 k (fmsand R k a) 42 1 = nI h := m1
    have e5 : ∀ Q' : zR → zM → Prop, _ := fun Q' => s_whoDied (R := zup (zup R 42 9 (fmlaid R k a)) 44 k (fmsand R k a)) (Q := Q') m11 h6
    have r44 : ∀ i, zup (zup R 42 9 (fmlaid R k a)) 44 k (fmsand R k a) 44 i = if i = k then fmsand R k a else R 44 i := fun i => by rw [zup_app, if_pos rfl]; rfl
    have s0 : ¬ fmsand R k a < 0 := by
      have : 0 ≤ zup (zup R 42 9 (fmlaid R k a)) 44 k (fmsand R k a) 44 k := JT_s0 (M := vw (MA C 17 k a) (zup (zup R 42 9 (fmlaid R k a)) 44 k (fmsand R k a))) T1 hk
      rw [r44, if_pos rfl] at this
      simp only [fa_lt, fa_le, fa_eq, zt_0, zt_1, zt_2, zt_3, zt_4, zt_5, zt_6, zt_7, zt_8, zt_9, zt_10, zt_11, zt_12, zt_13, zt_14, zt_15, zt_16, zt_17, zt_18, zt_19, zt_20, zt_21, zt_22, zt_23, zt_24, zt_25, zt_31, zt_40, zt_48, zt_50, zt_57, zt_59, zt_60, zt_97, zt_98, zt_99, zt_100, zt_112, zt_115, zt_119, zt_120, zt_255, zt_999, zt_m1, zt_m2, zt_m3, zt_m4, zt_m9, zt_m10, zt_m100] at *
      omega
    obtain ⟨T, hy0, h19, h25, hd, h9⟩ := id S
    have fr : FR C (MA C 17 k a) := fun e he => MA_ne (by omega) (by omega)
    have fm : FM R (zup (zup R 42 9 (fmlaid R k a)) 44 k (fmsand R k a)) := ⟨fun e b1 b2 b3 => by rw [zup_ne _ _ _ b2, zup_ne _ _ _ b1], fun i i2 i9 => by rw [zup_ne _ _ _ (by decide), zup_app, if_pos rfl, if_neg i9]⟩
    refine ⟨_, _, y, lw', sim_deaths (P := fun k => decide (0 < C 19 k)) T1 hy0 h19 ?_ (fun i hi => ?_) (fun i hi hi6 => ?_), fr.trans FR_nd, fm.trans FM_wd, fun Q' => ?_, fun Q' => ?_⟩
    · rw [MA_ne (by decide) (by decide)]; exact h25
    · obtain ⟨d1, d2⟩ := hd i hi
      have e44 := JT_19 T hi
      rw [MA_ne (by decide) (by decide), r44]
      refine ⟨d1, ?_, ?_⟩
      · rw [← e44, decide_eq_true_iff]
        exact d2
      · rw [← e44, decide_eq_true_iff]
        by_cases ei : i = k
        · subst ei
          intro _
          rw [e44]
          exact hok.1
        · rw [if_neg ei]
          exact id
    · rw [MA_ne (by decide) (by decide)]; exact h9 i hi hi6
    · simp only [q13_0, q13_1, q13_3, q13_6, q13_7, q13_8, q13_11, q13_12, q13_13, q13_16, q13_19i, q13_19r, q13_19n, q13_20, q13_21, q13_24, q13_25, q13_28, q13_31, q13_32, q13_35, q13_36, q13_37, q13_40, q13_43, q13_44, q13_45, q13_46, q13_47, q13_50, q13_51, zNC, zcs_0, zcs_i, zcs_r, zcs_l, zpush_0, zpush_i, zpush_l, and_true, true_and, Nat.reduceLT, Nat.reduceLeDiff, Nat.reduceAdd, Nat.reduceMul, reduceIte, ite_true, ite_false, if_true, if_false, not_true_eq_false, not_false_eq_true, false_implies, true_implies, forall_const, implies_true, imp_self, and_self, false_and, and_false, ne_eq, zk_0, zfv_0_0, zfv_0_1, zfv_0_2, zfv_0_3, zfv_0_4, zfv_0_5, zfv_0_6, zf_0_6, zfv_0_7, zf_0_7, zk_25, zfv_25_0, zfv_25_1, zfv_25_2, zf_25_2, zk_26, zn_26, zk_27, zfv_27_0, zk_28, zn_28, zk_29, zfv_29_0, zfv_29_1, zfv_29_2, zfv_29_3, zf_29_3, zk_30, zn_30, zk_31, zn_31, zk_32, zn_32, zk_33, zn_33, zk_34, zfv_34_0, zfv_34_1, zf_34_1, zfv_34_2, zf_34_2, zfv_34_3, zf_34_3, zk_35, zn_35, zk_36, zfv_36_0, zfv_36_1, zf_36_1, zfv_36_2, zf_36_2, zfv_36_3, zf_36_3, zk_37, zn_37, zk_38, zfv_38_0, zfv_38_1, zf_38_1, zfv_38_2, zf_38_2, zfv_38_3, zf_38_3, zk_39, zn_39, zk_40, zfv_40_0, zfv_40_1, zf_40_1, zfv_40_2, zf_40_2, zfv_40_3, zf_40_3, zk_41, zn_41, zk_1, zfv_1_0, zfv_1_1, zfv_1_2, zfv_1_3, zfv_1_4, zfv_1_5, zfv_1_6, zfv_1_7, zf_1_7, zfv_1_8, zf_1_8, zk_9, zfv_9_0, zfv_9_1, zfv_9_2, zfv_9_3, zfv_9_4, zfv_9_5, zfv_9_6, zfv_9_7, zf_9_7, zfv_9_8, zf_9_8, zk_17, zfv_17_0, zfv_17_1, zfv_17_2, zfv_17_3, zfv_17_4, zfv_17_5, zfv_17_6, zfv_17_7, zf_17_7, zfv_17_8, zf_17_8, zk_2, zn_2, zk_3, zn_3, zk_4, zn_4, zk_5, zn_5, zk_6, zn_6, zk_7, zn_7, zk_8, zn_8, zk_10, zn_10, zk_11, zn_11, zk_12, zn_12, zk_13, zn_13, zk_14, zn_14, zk_15, zn_15, zk_16, zn_16, zk_18, zn_18, zk_19, zn_19, zk_20, zn_20, zk_21, zn_21, zk_22, zn_22, zk_23, zn_23, zk_24, zn_24, a9, e1, s_has ht17, c7, zb1_0, hkk, e2, e4]
      try simp
    · simp only [q119_0, q119_1, q119_3, q119_6, q119_7, q119_8, q119_9, q119_12, q119_15, q119_16, q119_19, q119_20i, q119_20r, q119_20n, q119_21, q119_22, q119_25, q119_26, q119_27, q119_28, q119_31, q119_32, q119_33, q119_36, q119_39, q119_40, q119_41, q119_42i, q119_42r, q119_42n, q119_44, q119_45, q119_48, q119_49, q119_52, q119_53, q119_56i, q119_56r, q119_56n, q119_59, q119_62, q119_63, zNC, zcs_0, zcs_i, zcs_r, zcs_l, zpush_0, zpush_i, zpush_l, and_true, true_and, Nat.reduceLT, Nat.reduceLeDiff, Nat.reduceAdd, Nat.reduceMul, reduceIte, ite_true, ite_false, if_true, if_false, not_true_eq_false, not_false_eq_true, false_implies, true_implies, forall_const, implies_true, imp_self, and_self, false_and, and_false, ne_eq, zk_42, zfv_42_0, zf_42_0, zfv_42_1, zf_42_1, zfv_42_2, zf_42_2, zfv_42_3, zfv_42_4, zfv_42_5, zfv_42_6, zfv_42_7, zfv_42_8, zfv_42_9, zf_42_9, zfv_42_10, zf_42_10, zfv_42_11, zf_42_11, zfv_42_12, zfv_42_13, zfv_42_14, zfv_42_15, zfv_42_16, zfv_42_17, zfv_42_18, zf_42_18, zfv_42_19, zf_42_19, zfv_42_20, zfv_42_21, zfv_42_22, zfv_42_23, zf_42_23, zfv_42_24, zfv_42_25, zfv_42_26, zfv_42_27, zfv_42_28, zfv_42_29, zfv_42_30, zfv_42_31, zf_42_31, zk_43, zn_43, zk_44, zn_44, zk_45, zn_45, zk_46, zn_46, zk_47, zn_47, zk_48, zn_48, zk_49, zn_49, zk_50, zn_50, zk_51, zn_51, zk_52, zn_52, zk_53, zn_53, zk_54, zn_54, zk_55, zn_55, zk_56, zn_56, zk_57, zn_57, zk_58, zn_58, zk_59, zn_59, zk_60, zn_60, zk_61, zn_61, zk_62, zn_62, zk_63, zn_63, zk_64, zn_64, a9', e3, s0, e5]
      try simp
  · right
    have e2 : ∀ Q' : zR → zM → Prop, _ := fun Q' => s_doAct_f (M := C) (Q := Q') ht17 (show k < 6 by omega) (show fkp C 17 k < 6 by omega) g1.2 hok
    have e3 : ∀ Q' : zR → zM → Prop, _ := fun Q' => s_done_f (M := R) (Q := Q') (show k < 6 by omega) (show fmk R k < 6 by omega) g2.2 (mt ok.mpr hok)
    have e5 : ∀ Q' : zR → zM → Prop, _ := fun Q' => s_whoDied (R := R) (Q := Q') m1 h6
    have n3 : (-3 : Int32) < 0 := by decide
    refine ⟨WD R h, FM_wd, fun Q' => ?_, fun Q' => ?_⟩
    · simp only [q13_0, q13_1, q13_3, q13_6, q13_7, q13_8, q13_11, q13_12, q13_13, q13_16, q13_19i, q13_19r, q13_19n, q13_20, q13_21, q13_24, q13_25, q13_28, q13_31, q13_32, q13_35, q13_36, q13_37, q13_40, q13_43, q13_44, q13_45, q13_46, q13_47, q13_50, q13_51, zNC, zcs_0, zcs_i, zcs_r, zcs_l, zpush_0, zpush_i, zpush_l, and_true, true_and, Nat.reduceLT, Nat.reduceLeDiff, Nat.reduceAdd, Nat.reduceMul, reduceIte, ite_true, ite_false, if_true, if_false, not_true_eq_false, not_false_eq_true, false_implies, true_implies, forall_const, implies_true, imp_self, and_self, false_and, and_false, ne_eq, zk_0, zfv_0_0, zfv_0_1, zfv_0_2, zfv_0_3, zfv_0_4, zfv_0_5, zfv_0_6, zf_0_6, zfv_0_7, zf_0_7, zk_25, zfv_25_0, zfv_25_1, zfv_25_2, zf_25_2, zk_26, zn_26, zk_27, zfv_27_0, zk_28, zn_28, zk_29, zfv_29_0, zfv_29_1, zfv_29_2, zfv_29_3, zf_29_3, zk_30, zn_30, zk_31, zn_31, zk_32, zn_32, zk_33, zn_33, zk_34, zfv_34_0, zfv_34_1, zf_34_1, zfv_34_2, zf_34_2, zfv_34_3, zf_34_3, zk_35, zn_35, zk_36, zfv_36_0, zfv_36_1, zf_36_1, zfv_36_2, zf_36_2, zfv_36_3, zf_36_3, zk_37, zn_37, zk_38, zfv_38_0, zfv_38_1, zf_38_1, zfv_38_2, zf_38_2, zfv_38_3, zf_38_3, zk_39, zn_39, zk_40, zfv_40_0, zfv_40_1, zf_40_1, zfv_40_2, zf_40_2, zfv_40_3, zf_40_3, zk_41, zn_41, zk_1, zfv_1_0, zfv_1_1, zfv_1_2, zfv_1_3, zfv_1_4, zfv_1_5, zfv_1_6, zfv_1_7, zf_1_7, zfv_1_8, zf_1_8, zk_9, zfv_9_0, zfv_9_1, zfv_9_2, zfv_9_3, zfv_9_4, zfv_9_5, zfv_9_6, zfv_9_7, zf_9_7, zfv_9_8, zf_9_8, zk_17, zfv_17_0, zfv_17_1, zfv_17_2, zfv_17_3, zfv_17_4, zfv_17_5, zfv_17_6, zfv_17_7, zf_17_7, zfv_17_8, zf_17_8, zk_2, zn_2, zk_3, zn_3, zk_4, zn_4, zk_5, zn_5, zk_6, zn_6, zk_7, zn_7, zk_8, zn_8, zk_10, zn_10, zk_11, zn_11, zk_12, zn_12, zk_13, zn_13, zk_14, zn_14, zk_15, zn_15, zk_16, zn_16, zk_18, zn_18, zk_19, zn_19, zk_20, zn_20, zk_21, zn_21, zk_22, zn_22, zk_23, zn_23, zk_24, zn_24, a9, e1, s_has ht17, c7, zb1_0, hkk, e2]
      try simp
    · simp only [q119_0, q119_1, q119_3, q119_6, q119_7, q119_8, q119_9, q119_12, q119_15, q119_16, q119_19, q119_20i, q119_20r, q119_20n, q119_21, q119_22, q119_25, q119_26, q119_27, q119_28, q119_31, q119_32, q119_33, q119_36, q119_39, q119_40, q119_41, q119_42i, q119_42r, q119_42n, q119_44, q119_45, q119_48, q119_49, q119_52, q119_53, q119_56i, q119_56r, q119_56n, q119_59, q119_62, q119_63, zNC, zcs_0, zcs_i, zcs_r, zcs_l, zpush_0, zpush_i, zpush_l, and_true, true_and, Nat.reduceLT, Nat.reduceLeDiff, Nat.reduceAdd, Nat.reduceMul, reduceIte, ite_true, ite_false, if_true, if_false, not_true_eq_false, not_false_eq_true, false_implies, true_implies, forall_const, implies_true, imp_self, and_self, false_and, and_false, ne_eq, zk_42, zfv_42_0, zf_42_0, zfv_42_1, zf_42_1, zfv_42_2, zf_42_2, zfv_42_3, zfv_42_4, zfv_42_5, zfv_42_6, zfv_42_7, zfv_42_8, zfv_42_9, zf_42_9, zfv_42_10, zf_42_10, zfv_42_11, zf_42_11, zfv_42_12, zfv_42_13, zfv_42_14, zfv_42_15, zfv_42_16, zfv_42_17, zfv_42_18, zf_42_18, zfv_42_19, zf_42_19, zfv_42_20, zfv_42_21, zfv_42_22, zfv_42_23, zf_42_23, zfv_42_24, zfv_42_25, zfv_42_26, zfv_42_27, zfv_42_28, zfv_42_29, zfv_42_30, zfv_42_31, zf_42_31, zk_43, zn_43, zk_44, zn_44, zk_45, zn_45, zk_46, zn_46, zk_47, zn_47, zk_48, zn_48, zk_49, zn_49, zk_50, zn_50, zk_51, zn_51, zk_52, zn_52, zk_53, zn_53, zk_54, zn_54, zk_55, zn_55, zk_56, zn_56, zk_57, zn_57, zk_58, zn_58, zk_59, zn_59, zk_60, zn_60, zk_61, zn_61, zk_62, zn_62, zk_63, zn_63, zk_64, zn_64, a9', e3, n3, e5]
      try simp
def PV (h : Nat) (one act : Int32) : Prop := (act = 9 ∧ 0 ≤ one ∧ one < 10) ∨ (¬ act = 9 ∧ (0 ≤ act ∧ act < 3) ∧ 0 ≤ one ∧ one < nI h)
theorem sim_pair (S : CR C R h y lw y0) {one act : Int32} (V : PV h one act) : SP C R h y0 one act := by
  have h6 := S.1.2.2.2.2.2.2.1
  have hy9 := S.1.2.2.2.2.2.2.2.1
  rcases V with ⟨rfl, b1, b2⟩ | ⟨a9, ⟨b1, b2⟩, b3⟩
  · obtain ⟨n, hn, rfl⟩ := i_below (n := 10) (by omega) b1 b2
    have c8 : C 17 8 = nI y := S.1.2.2.1
    have m2 : R 42 2 = nI y := S.1.2.2.2.1
    have e3 : nI y + nI n = nI (y + n) := nI_add y n
    by_cases hy : y + n ≤ 999
    · left
      obtain ⟨C', R', S', f1, f2, q1, q2⟩ := sim_years n C R y S hy
      have c3 : nI (y + n) ≤ 999 := nI_le (a := y + n) (b := 999) hy (by omega)
      have q1' := fun (Q' : zR → zM → Prop) v3 => q1 Q' 0 n v3 (by omega) (by omega)
      have q2' := fun (Q' : zR → zM → Prop) x2 => q2 Q' 0 n x2 (by omega) (by omega)
      have i0 : nI 0 = 0 := rfl
      simp only [i0] at q1' q2'
      refine ⟨C', R', y + n, lw, S', f1, f2, fun Q' => ?_, fun Q' => ?_⟩
      · have q0 : ∀ Q' : zR → zM → Prop, zQ 14 19 [.ref 25, .int (nI n), .int 0, .null] [] C Q' ↔ Q' (zI 1) C' := by
          intro Q'
          cases n with
          | zero =>
            rw [← q1' Q' 0, q14_19, q14_19]
            simp only [q14_0, q14_1, q14_4, q14_7, q14_8, q14_9, q14_12, q14_15, q14_16, q14_17, q14_18i, q14_18r, q14_18n, q14_20, q14_21, q14_24, q14_25, q14_28, q14_31i, q14_31r, q14_31n, q14_32, q14_33, q14_36, q14_39, q14_40, q14_41, q14_44, q14_45, q14_46, q14_49, q14_50, q14_51, q14_54i, q14_54r, q14_54n, q14_57, q14_60, q14_61, zNC, zcs_0, zcs_i, zcs_r, zcs_l, zpush_0, zpush_i, zpush_l, and_true, true_and, Nat.reduceLT, Nat.reduceLeDiff, Nat.reduceAdd, Nat.reduceMul, reduceIte, ite_true, ite_false, if_true, if_false, not_true_eq_false, not_false_eq_true, false_implies, true_implies, forall_const, implies_true, imp_self, and_self, false_and, and_false, ne_eq, zk_0, zfv_0_0, zfv_0_1, zfv_0_2, zfv_0_3, zfv_0_4, zfv_0_5, zfv_0_6, zf_0_6, zfv_0_7, zf_0_7, zk_25, zfv_25_0, zfv_25_1, zfv_25_2, zf_25_2, zk_26, zn_26, zk_27, zfv_27_0, zk_28, zn_28, zk_29, zfv_29_0, zfv_29_1, zfv_29_2, zfv_29_3, zf_29_3, zk_30, zn_30, zk_31, zn_31, zk_32, zn_32, zk_33, zn_33, zk_34, zfv_34_0, zfv_34_1, zf_34_1, zfv_34_2, zf_34_2, zfv_34_3, zf_34_3, zk_35, zn_35, zk_36, zfv_36_0, zfv_36_1, zf_36_1, zfv_36_2, zf_36_2, zfv_36_3, zf_36_3, zk_37, zn_37, zk_38, zfv_38_0, zfv_38_1, zf_38_1, zfv_38_2, zf_38_2, zfv_38_3, zf_38_3, zk_39, zn_39, zk_40, zfv_40_0, zfv_40_1, zf_40_1, zfv_40_2, zf_40_2, zfv_40_3, zf_40_3, zk_41, zn_41, zk_1, zfv_1_0, zfv_1_1, zfv_1_2, zfv_1_3, zfv_1_4, zfv_1_5, zfv_1_6, zfv_1_7, zf_1_7, zfv_1_8, zf_1_8, zk_9, zfv_9_0, zfv_9_1, zfv_9_2, zfv_9_3, zfv_9_4, zfv_9_5, zfv_9_6, zfv_9_7, zf_9_7, zfv_9_8, zf_9_8, zk_17, zfv_17_0, zfv_17_1, zfv_17_2, zfv_17_3, zfv_17_4, zfv_17_5, zfv_17_6, zfv_17_7, zf_17_7, zfv_17_8, zf_17_8, zk_2, zn_2, zk_3, zn_3, zk_4, zn_4, zk_5, zn_5, zk_6, zn_6, zk_7, zn_7, zk_8, zn_8, zk_10, zn_10, zk_11, zn_11, zk_12, zn_12, zk_13, zn_13, zk_14, zn_14, zk_15, zn_15, zk_16, zn_16, zk_18, zn_18, zk_19, zn_19, zk_20, zn_20, zk_21, zn_21, zk_22, zn_22, zk_23, zn_23, zk_24, zn_24, i0, i_le_refl]
          | succ n =>
            have h1 : ¬ nI (n + 1) ≤ 0 := nI_nle (by omega) (by omega)
            rw [← q1' Q' 0, q14_19, q14_19]
            have e1 : ∀ Q' : zR → zM → Prop, _ := fun Q' => s_setOfLiving (M := C) (Q := Q') ht17 (CR_c7 S) h6
            simp only [Nat.reduceAdd] at e1
            simp only [q14_0, q14_1, q14_4, q14_7, q14_8, q14_9, q14_12, q14_15, q14_16, q14_17, q14_18i, q14_18r, q14_18n, q14_20, q14_21, q14_24, q14_25, q14_28, q14_31i, q14_31r, q14_31n, q14_32, q14_33, q14_36, q14_39, q14_40, q14_41, q14_44, q14_45, q14_46, q14_49, q14_50, q14_51, q14_54i, q14_54r, q14_54n, q14_57, q14_60, q14_61, zNC, zcs_0, zcs_i, zcs_r, zcs_l, zpush_0, zpush_i, zpush_l, and_true, true_and, Nat.reduceLT, Nat.reduceLeDiff, Nat.reduceAdd, Nat.reduceMul, reduceIte, ite_true, ite_false, if_true, if_false, not_true_eq_false, not_false_eq_true, false_implies, true_implies, forall_const, implies_true, imp_self, and_self, false_and, and_false, ne_eq, zk_0, zfv_0_0, zfv_0_1, zfv_0_2, zfv_0_3, zfv_0_4, zfv_0_5, zfv_0_6, zf_0_6, zfv_0_7, zf_0_7, zk_25, zfv_25_0, zfv_25_1, zfv_25_2, zf_25_2, zk_26, zn_26, zk_27, zfv_27_0, zk_28, zn_28, zk_29, zfv_29_0, zfv_29_1, zfv_29_2, zfv_29_3, zf_29_3, zk_30, zn_30, zk_31, zn_31, zk_32, zn_32, zk_33, zn_33, zk_34, zfv_34_0, zfv_34_1, zf_34_1, zfv_34_2, zf_34_2, zfv_34_3, zf_34_3, zk_35, zn_35, zk_36, zfv_36_0, zfv_36_1, zf_36_1, zfv_36_2, zf_36_2, zfv_36_3, zf_36_3, zk_37, zn_37, zk_38, zfv_38_0, zfv_38_1, zf_38_1, zfv_38_2, zf_38_2, zfv_38_3, zf_38_3, zk_39, zn_39, zk_40, zfv_40_0, zfv_40_1, zf_40_1, zfv_40_2, zf_40_2, zfv_40_3, zf_40_3, zk_41, zn_41, zk_1, zfv_1_0, zfv_1_1, zfv_1_2, zfv_1_3, zfv_1_4, zfv_1_5, zfv_1_6, zfv_1_7, zf_1_7, zfv_1_8, zf_1_8, zk_9, zfv_9_0, zfv_9_1, zfv_9_2, zfv_9_3, zfv_9_4, zfv_9_5, zfv_9_6, zfv_9_7, zf_9_7, zfv_9_8, zf_9_8, zk_17, zfv_17_0, zfv_17_1, zfv_17_2, zfv_17_3, zfv_17_4, zfv_17_5, zfv_17_6, zfv_17_7, zf_17_7, zfv_17_8, zf_17_8, zk_2, zn_2, zk_3, zn_3, zk_4, zn_4, zk_5, zn_5, zk_6, zn_6, zk_7, zn_7, zk_8, zn_8, zk_10, zn_10, zk_11, zn_11, zk_12, zn_12, zk_13, zn_13, zk_14, zn_14, zk_15, zn_15, zk_16, zn_16, zk_18, zn_18, zk_19, zn_19, zk_20, zn_20, zk_21, zn_21, zk_22, zn_22, zk_23, zn_23, zk_24, zn_24, h1, e1]
        simp only [q13_0, q13_1, q13_3, q13_6, q13_7, q13_8, q13_11, q13_12, q13_13, q13_16, q13_19i, q13_19r, q13_19n, q13_20, q13_21, q13_24, q13_25, q13_28, q13_31, q13_32, q13_35, q13_36, q13_37, q13_40, q13_43, q13_44, q13_45, q13_46, q13_47, q13_50, q13_51, q14_0, q14_1, q14_4, q14_7, q14_8, q14_9, q14_12, q14_15, q14_16, q14_17, q14_18i, q14_18r, q14_18n, q14_20, q14_21, q14_24, q14_25, q14_28, q14_31i, q14_31r, q14_31n, q14_32, q14_33, q14_36, q14_39, q14_40, q14_41, q14_44, q14_45, q14_46, q14_49, q14_50, q14_51, q14_54i, q14_54r, q14_54n, q14_57, q14_60, q14_61, zNC, zcs_0, zcs_i, zcs_r, zcs_l, zpush_0, zpush_i, zpush_l, and_true, true_and, Nat.reduceLT, Nat.reduceLeDiff, Nat.reduceAdd, Nat.reduceMul, reduceIte, ite_true, ite_false, if_true, if_false, not_true_eq_false, not_false_eq_true, false_implies, true_implies, forall_const, implies_true, imp_self, and_self, false_and, and_false, ne_eq, zk_0, zfv_0_0, zfv_0_1, zfv_0_2, zfv_0_3, zfv_0_4, zfv_0_5, zfv_0_6, zf_0_6, zfv_0_7, zf_0_7, zk_25, zfv_25_0, zfv_25_1, zfv_25_2, zf_25_2, zk_26, zn_26, zk_27, zfv_27_0, zk_28, zn_28, zk_29, zfv_29_0, zfv_29_1, zfv_29_2, zfv_29_3, zf_29_3, zk_30, zn_30, zk_31, zn_31, zk_32, zn_32, zk_33, zn_33, zk_34, zfv_34_0, zfv_34_1, zf_34_1, zfv_34_2, zf_34_2, zfv_34_3, zf_34_3, zk_35, zn_35, zk_36, zfv_36_0, zfv_36_1, zf_36_1, zfv_36_2, zf_36_2, zfv_36_3, zf_36_3, zk_37, zn_37, zk_38, zfv_38_0, zfv_38_1, zf_38_1, zfv_38_2, zf_38_2, zfv_38_3, zf_38_3, zk_39, zn_39, zk_40, zfv_40_0, zfv_40_1, zf_40_1, zfv_40_2, zf_40_2, zfv_40_3, zf_40_3, zk_41, zn_41, zk_1, zfv_1_0, zfv_1_1, zfv_1_2, zfv_1_3, zfv_1_4, zfv_1_5, zfv_1_6, zfv_1_7, zf_1_7, zfv_1_8, zf_1_8, zk_9, zfv_9_0, zfv_9_1, zfv_9_2, zfv_9_3, zfv_9_4, zfv_9_5, zfv_9_6, zfv_9_7, zf_9_7, zfv_9_8, zf_9_8, zk_17, zfv_17_0, zfv_17_1, zfv_17_2, zfv_17_3, zfv_17_4, zfv_17_5, zfv_17_6, zfv_17_7, zf_17_7, zfv_17_8, zf_17_8, zk_2, zn_2, zk_3, zn_3, zk_4, zn_4, zk_5, zn_5, zk_6, zn_6, zk_7, zn_7, zk_8, zn_8, zk_10, zn_10, zk_11, zn_11, zk_12, zn_12, zk_13, zn_13, zk_14, zn_14, zk_15, zn_15, zk_16, zn_16, zk_18, zn_18, zk_19, zn_19, zk_20, zn_20, zk_21, zn_21, zk_22, zn_22, zk_23, zn_23, zk_24, zn_24, c8, e3, c3, q0]
        try simp
      · simp only [q119_0, q119_1, q119_3, q119_6, q119_7, q119_8, q119_9, q119_12, q119_15, q119_16, q119_19, q119_20i, q119_20r, q119_20n, q119_21, q119_22, q119_25, q119_26, q119_27, q119_28, q119_31, q119_32, q119_33, q119_36, q119_39, q119_40, q119_41, q119_42i, q119_42r, q119_42n, q119_44, q119_45, q119_48, q119_49, q119_52, q119_53, q119_56i, q119_56r, q119_56n, q119_59, q119_62, q119_63, zNC, zcs_0, zcs_i, zcs_r, zcs_l, zpush_0, zpush_i, zpush_l, and_true, true_and, Nat.reduceLT, Nat.reduceLeDiff, Nat.reduceAdd, Nat.reduceMul, reduceIte, ite_true, ite_false, if_true, if_false, not_true_eq_false, not_false_eq_true, false_implies, true_implies, forall_const, implies_true, imp_self, and_self, false_and, and_false, ne_eq, zk_42, zfv_42_0, zf_42_0, zfv_42_1, zf_42_1, zfv_42_2, zf_42_2, zfv_42_3, zfv_42_4, zfv_42_5, zfv_42_6, zfv_42_7, zfv_42_8, zfv_42_9, zf_42_9, zfv_42_10, zf_42_10, zfv_42_11, zf_42_11, zfv_42_12, zfv_42_13, zfv_42_14, zfv_42_15, zfv_42_16, zfv_42_17, zfv_42_18, zf_42_18, zfv_42_19, zf_42_19, zfv_42_20, zfv_42_21, zfv_42_22, zfv_42_23, zf_42_23, zfv_42_24, zfv_42_25, zfv_42_26, zfv_42_27, zfv_42_28, zfv_42_29, zfv_42_30, zfv_42_31, zf_42_31, zk_43, zn_43, zk_44, zn_44, zk_45, zn_45, zk_46, zn_46, zk_47, zn_47, zk_48, zn_48, zk_49, zn_49, zk_50, zn_50, zk_51, zn_51, zk_52, zn_52, zk_53, zn_53, zk_54, zn_54, zk_55, zn_55, zk_56, zn_56, zk_57, zn_57, zk_58, zn_58, zk_59, zn_59, zk_60, zn_60, zk_61, zn_61, zk_62, zn_62, zk_63, zn_63, zk_64, zn_64, i_le_refl, m2, e3, c3, q2']
    · right
      have c3 : ¬ nI (y + n) ≤ 999 := nI_ge (a := 999) (b := y + n) (by omega) (by omega)
      refine ⟨R, ⟨fun _ _ _ _ => rfl, fun _ _ _ => rfl⟩, fun Q' => ?_, fun Q' => ?_⟩
      · simp only [q13_0, q13_1, q13_3, q13_6, q13_7, q13_8, q13_11, q13_12, q13_13, q13_16, q13_19i, q13_19r, q13_19n, q13_20, q13_21, q13_24, q13_25, q13_28, q13_31, q13_32, q13_35, q13_36, q13_37, q13_40, q13_43, q13_44, q13_45, q13_46, q13_47, q13_50, q13_51, q14_0, q14_1, q14_4, q14_7, q14_8, q14_9, q14_12, q14_15, q14_16, q14_17, q14_18i, q14_18r, q14_18n, q14_20, q14_21, q14_24, q14_25, q14_28, q14_31i, q14_31r, q14_31n, q14_32, q14_33, q14_36, q14_39, q14_40, q14_41, q14_44, q14_45, q14_46, q14_49, q14_50, q14_51, q14_54i, q14_54r, q14_54n, q14_57, q14_60, q14_61, zNC, zcs_0, zcs_i, zcs_r, zcs_l, zpush_0, zpush_i, zpush_l, and_true, true_and, Nat.reduceLT, Nat.reduceLeDiff, Nat.reduceAdd, Nat.reduceMul, reduceIte, ite_true, ite_false, if_true, if_false, not_true_eq_false, not_false_eq_true, false_implies, true_implies, forall_const, implies_true, imp_self, and_self, false_and, and_false, ne_eq, zk_0, zfv_0_0, zfv_0_1, zfv_0_2, zfv_0_3, zfv_0_4, zfv_0_5, zfv_0_6, zf_0_6, zfv_0_7, zf_0_7, zk_25, zfv_25_0, zfv_25_1, zfv_25_2, zf_25_2, zk_26, zn_26, zk_27, zfv_27_0, zk_28, zn_28, zk_29, zfv_29_0, zfv_29_1, zfv_29_2, zfv_29_3, zf_29_3, zk_30, zn_30, zk_31, zn_31, zk_32, zn_32, zk_33, zn_33, zk_34, zfv_34_0, zfv_34_1, zf_34_1, zfv_34_2, zf_34_2, zfv_34_3, zf_34_3, zk_35, zn_35, zk_36, zfv_36_0, zfv_36_1, zf_36_1, zfv_36_2, zf_36_2, zfv_36_3, zf_36_3, zk_37, zn_37, zk_38, zfv_38_0, zfv_38_1, zf_38_1, zfv_38_2, zf_38_2, zfv_38_3, zf_38_3, zk_39, zn_39, zk_40, zfv_40_0, zfv_40_1, zf_40_1, zfv_40_2, zf_40_2, zfv_40_3, zf_40_3, zk_41, zn_41, zk_1, zfv_1_0, zfv_1_1, zfv_1_2, zfv_1_3, zfv_1_4, zfv_1_5, zfv_1_6, zfv_1_7, zf_1_7, zfv_1_8, zf_1_8, zk_9, zfv_9_0, zfv_9_1, zfv_9_2, zfv_9_3, zfv_9_4, zfv_9_5, zfv_9_6, zfv_9_7, zf_9_7, zfv_9_8, zf_9_8, zk_17, zfv_17_0, zfv_17_1, zfv_17_2, zfv_17_3, zfv_17_4, zfv_17_5, zfv_17_6, zfv_17_7, zf_17_7, zfv_17_8, zf_17_8, zk_2, zn_2, zk_3, zn_3, zk_4, zn_4, zk_5, zn_5, zk_6, zn_6, zk_7, zn_7, zk_8, zn_8, zk_10, zn_10, zk_11, zn_11, zk_12, zn_12, zk_13, zn_13, zk_14, zn_14, zk_15, zn_15, zk_16, zn_16, zk_18, zn_18, zk_19, zn_19, zk_20, zn_20, zk_21, zn_21, zk_22, zn_22, zk_23, zn_23, zk_24, zn_24, c8, e3, c3]
        try simp
      · simp only [q119_0, q119_1, q119_3, q119_6, q119_7, q119_8, q119_9, q119_12, q119_15, q119_16, q119_19, q119_20i, q119_20r, q119_20n, q119_21, q119_22, q119_25, q119_26, q119_27, q119_28, q119_31, q119_32, q119_33, q119_36, q119_39, q119_40, q119_41, q119_42i, q119_42r, q119_42n, q119_44, q119_45, q119_48, q119_49, q119_52, q119_53, q119_56i, q119_56r, q119_56n, q119_59, q119_62, q119_63, zNC, zcs_0, zcs_i, zcs_r, zcs_l, zpush_0, zpush_i, zpush_l, and_true, true_and, Nat.reduceLT, Nat.reduceLeDiff, Nat.reduceAdd, Nat.reduceMul, reduceIte, ite_true, ite_false, if_true, if_false, not_true_eq_false, not_false_eq_true, false_implies, true_implies, forall_const, implies_true, imp_self, and_self, false_and, and_false, ne_eq, zk_42, zfv_42_0, zf_42_0, zfv_42_1, zf_42_1, zfv_42_2, zf_42_2, zfv_42_3, zfv_42_4, zfv_42_5, zfv_42_6, zfv_42_7, zfv_42_8, zfv_42_9, zf_42_9, zfv_42_10, zf_42_10, zfv_42_11, zf_42_11, zfv_42_12, zfv_42_13, zfv_42_14, zfv_42_15, zfv_42_16, zfv_42_17, zfv_42_18, zf_42_18, zfv_42_19, zf_42_19, zfv_42_20, zfv_42_21, zfv_42_22, zfv_42_23, zf_42_23, zfv_42_24, zfv_42_25, zfv_42_26, zfv_42_27, zfv_42_28, zfv_42_29, zfv_42_30, zfv_42_31, zf_42_31, zk_43, zn_43, zk_44, zn_44, zk_45, zn_45, zk_46, zn_46, zk_47, zn_47, zk_48, zn_48, zk_49, zn_49, zk_50, zn_50, zk_51, zn_51, zk_52, zn_52, zk_53, zn_53, zk_54, zn_54, zk_55, zn_55, zk_56, zn_56, zk_57, zn_57, zk_58, zn_58, zk_59, zn_59, zk_60, zn_60, zk_61, zn_61, zk_62, zn_62, zk_63, zn_63, zk_64, zn_64, i_le_refl, m2, e3, c3]
        try simp
  · obtain ⟨k, hk, rfl⟩ := i_of_has b3 h6
    refine sim_act S hk ?_
    obtain ⟨e, he, rfl⟩ := i_below (n := 3) (by omega) b1 b2
    have : e = 0 ∨ e = 1 ∨ e = 2 := by omega
    rcases this with rfl | rfl | rfl
    · exact Or.inl rfl
    · exact Or.inr (Or.inl rfl)
    · exact Or.inr (Or.inr rfl)
end IV
