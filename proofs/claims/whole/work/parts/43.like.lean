-- becomeLike, digitOf, kindOf
section IV
variable {M M' : zM} {h y lw c k t a b o n : Nat} {Q : zR → zM → Prop} {x : Int32}
def fdig (x : Int32) : Int32 := if 48 ≤ x ∧ x ≤ 57 then x - 48 else -1
def fknd (x : Int32) : Int32 := if x = 112 then 0 else if x = 119 then 1 else if x = 99 then 2 else -1
theorem s_digitOf : zQ 22 0 [.int x] [] M Q ↔ Q (zI (fdig x)) M := by
  unfold fdig
  by_cases h1 : x < 48
  · have h2 : ¬ (48 ≤ x ∧ x ≤ 57) := by simp only [fa_lt, fa_le, fa_eq, zt_0, zt_1, zt_2, zt_3, zt_4, zt_5, zt_6, zt_7, zt_8, zt_9, zt_10, zt_11, zt_12, zt_13, zt_14, zt_15, zt_16, zt_17, zt_18, zt_19, zt_20, zt_21, zt_22, zt_23, zt_24, zt_25, zt_31, zt_40, zt_48, zt_50, zt_57, zt_59, zt_60, zt_97, zt_98, zt_99, zt_100, zt_112, zt_115, zt_119, zt_120, zt_255, zt_999, zt_m1, zt_m2, zt_m3, zt_m4, zt_m9, zt_m10, zt_m100] at *; omega
    simp only [q22_0, q22_1, q22_3, q22_6, q22_7, q22_9, q22_12, q22_13, q22_15, q22_16, q22_19, q22_20, zNC, zcs_0, zcs_i, zcs_r, zcs_l, zpush_0, zpush_i, zpush_l, and_true, true_and, Nat.reduceLT, Nat.reduceLeDiff, Nat.reduceAdd, Nat.reduceMul, reduceIte, ite_true, ite_false, if_true, if_false, not_true_eq_false, not_false_eq_true, false_implies, true_implies, forall_const, implies_true, imp_self, and_self, false_and, and_false, ne_eq, h1, h2]
  · have h1' : 48 ≤ x := by simp only [fa_lt, fa_le, fa_eq, zt_0, zt_1, zt_2, zt_3, zt_4, zt_5, zt_6, zt_7, zt_8, zt_9, zt_10, zt_11, zt_12, zt_13, zt_14, zt_15, zt_16, zt_17, zt_18, zt_19, zt_20, zt_21, zt_22, zt_23, zt_24, zt_25, zt_31, zt_40, zt_48, zt_50, zt_57, zt_59, zt_60, zt_97, zt_98, zt_99, zt_100, zt_112, zt_115, zt_119, zt_120, zt_255, zt_999, zt_m1, zt_m2, zt_m3, zt_m4, zt_m9, zt_m10, zt_m100] at *; omega
    by_cases h3 : 57 < x
    · have h2 : ¬ (48 ≤ x ∧ x ≤ 57) := by simp only [fa_lt, fa_le, fa_eq, zt_0, zt_1, zt_2, zt_3, zt_4, zt_5, zt_6, zt_7, zt_8, zt_9, zt_10, zt_11, zt_12, zt_13, zt_14, zt_15, zt_16, zt_17, zt_18, zt_19, zt_20, zt_21, zt_22, zt_23, zt_24, zt_25, zt_31, zt_40, zt_48, zt_50, zt_57, zt_59, zt_60, zt_97, zt_98, zt_99, zt_100, zt_112, zt_115, zt_119, zt_120, zt_255, zt_999, zt_m1, zt_m2, zt_m3, zt_m4, zt_m9, zt_m10, zt_m100] at *; omega
      simp only [q22_0, q22_1, q22_3, q22_6, q22_7, q22_9, q22_12, q22_13, q22_15, q22_16, q22_19, q22_20, zNC, zcs_0, zcs_i, zcs_r, zcs_l, zpush_0, zpush_i, zpush_l, and_true, true_and, Nat.reduceLT, Nat.reduceLeDiff, Nat.reduceAdd, Nat.reduceMul, reduceIte, ite_true, ite_false, if_true, if_false, not_true_eq_false, not_false_eq_true, false_implies, true_implies, forall_const, implies_true, imp_self, and_self, false_and, and_false, ne_eq, h1, h3, h2]
    · have h4 : x ≤ 57 := by simp only [fa_lt, fa_le, fa_eq, zt_0, zt_1, zt_2, zt_3, zt_4, zt_5, zt_6, zt_7, zt_8, zt_9, zt_10, zt_11, zt_12, zt_13, zt_14, zt_15, zt_16, zt_17, zt_18, zt_19, zt_20, zt_21, zt_22, zt_23, zt_24, zt_25, zt_31, zt_40, zt_48, zt_50, zt_57, zt_59, zt_60, zt_97, zt_98, zt_99, zt_100, zt_112, zt_115, zt_119, zt_120, zt_255, zt_999, zt_m1, zt_m2, zt_m3, zt_m4, zt_m9, zt_m10, zt_m100] at *; omega
      simp only [q22_0, q22_1, q22_3, q22_6, q22_7, q22_9, q22_12, q22_13, q22_15, q22_16, q22_19, q22_20, zNC, zcs_0, zcs_i, zcs_r, zcs_l, zpush_0, zpush_i, zpush_l, and_true, true_and, Nat.reduceLT, Nat.reduceLeDiff, Nat.reduceAdd, Nat.reduceMul, reduceIte, ite_true, ite_false, if_true, if_false, not_true_eq_false, not_false_eq_true, false_implies, true_implies, forall_const, implies_true, imp_self, and_self, false_and, and_false, ne_eq, h1, h3, h1', h4]
theorem s_kindOf : zQ 23 0 [.int x] [] M Q ↔ Q (zI (fknd x)) M := by
  unfold fknd
  by_cases h1 : x = 112
  · subst h1
    simp only [q23_0, q23_36, q23_37, q23_38, q23_39, q23_40, q23_41, q23_42, q23_43, w23_1, zNC, zcs_0, zcs_i, zcs_r, zcs_l, zpush_0, zpush_i, zpush_l, and_true, true_and, Nat.reduceLT, Nat.reduceLeDiff, Nat.reduceAdd, Nat.reduceMul, reduceIte, ite_true, ite_false, if_true, if_false, not_true_eq_false, not_false_eq_true, false_implies, true_implies, forall_const, implies_true, imp_self, and_self, false_and, and_false, ne_eq]
    simp
  · by_cases h2 : x = 119
    · subst h2
      simp only [q23_0, q23_36, q23_37, q23_38, q23_39, q23_40, q23_41, q23_42, q23_43, w23_1, zNC, zcs_0, zcs_i, zcs_r, zcs_l, zpush_0, zpush_i, zpush_l, and_true, true_and, Nat.reduceLT, Nat.reduceLeDiff, Nat.reduceAdd, Nat.reduceMul, reduceIte, ite_true, ite_false, if_true, if_false, not_true_eq_false, not_false_eq_true, false_implies, true_implies, forall_const, implies_true, imp_self, and_self, false_and, and_false, ne_eq]
      simp
    · by_cases h3 : x = 99
      · subst h3
        simp only [q23_0, q23_36, q23_37, q23_38, q23_39, q23_40, q23_41, q23_42, q23_43, w23_1, zNC, zcs_0, zcs_i, zcs_r, zcs_l, zpush_0, zpush_i, zpush_l, and_true, true_and, Nat.reduceLT, Nat.reduceLeDiff, Nat.reduceAdd, Nat.reduceMul, reduceIte, ite_true, ite_false, if_true, if_false, not_true_eq_false, not_false_eq_true, false_implies, true_implies, forall_const, implies_true, imp_self, and_self, false_and, and_false, ne_eq]
        simp
      · simp only [q23_0, q23_36, q23_37, q23_38, q23_39, q23_40, q23_41, q23_42, q23_43, w23_1, zNC, zcs_0, zcs_i, zcs_r, zcs_l, zpush_0, zpush_i, zpush_l, and_true, true_and, Nat.reduceLT, Nat.reduceLeDiff, Nat.reduceAdd, Nat.reduceMul, reduceIte, ite_true, ite_false, if_true, if_false, not_true_eq_false, not_false_eq_true, false_implies, true_implies, forall_const, implies_true, imp_self, and_self, false_and, and_false, ne_eq, h1, h2, h3]
def bl (M : zM) (t o k : Nat) : zM := fun a i =>
  if t + 1 ≤ a ∧ a ≤ t + 7 ∧ i < k then (if a = t + 7 then vp_nar .boolean (M (o + 7) i) else M (a - t + o) i) else M a i
theorem bl_s1 : zup (zup (zup (zup (zup (zup (zup (bl M 1 9 k) 2 k (M 10 k)) 3 k (M 11 k)) 4 k (M 12 k)) 5 k (M 13 k)) 6 k (M 14 k)) 7 k (M 15 k)) 8 k (vp_nar .boolean (M 16 k)) = bl M 1 9 (k + 1) := by
  funext a i
  simp only [zup_app, bl]
  by_cases ei : i = k
  · subst ei
    have ha : a = 2 ∨ a = 3 ∨ a = 4 ∨ a = 5 ∨ a = 6 ∨ a = 7 ∨ a = 8 ∨ (a < 2 ∨ 8 < a) := by omega
    rcases ha with rfl | rfl | rfl | rfl | rfl | rfl | rfl | ha
    all_goals first | (simp; done) | skip
    have g1 : ¬ a = 8 := by omega
    have g2 : ¬ a = 7 := by omega
    have g3 : ¬ a = 6 := by omega
    have g4 : ¬ a = 5 := by omega
    have g5 : ¬ a = 4 := by omega
    have g6 : ¬ a = 3 := by omega
    have g7 : ¬ a = 2 := by omega
    have g8 : ¬ (1 + 1 ≤ a ∧ a ≤ 1 + 7 ∧ i < i) := by omega
    have g9 : ¬ (1 + 1 ≤ a ∧ a ≤ 1 + 7 ∧ i < i + 1) := by omega
    rw [if_neg g1, if_neg g2, if_neg g3, if_neg g4, if_neg g5, if_neg g6, if_neg g7, if_neg g8, if_neg g9]
  · have e1 : (i < k) = (i < k + 1) := by simp; omega
    simp only [if_neg ei, e1]
    have ha : a = 2 ∨ a = 3 ∨ a = 4 ∨ a = 5 ∨ a = 6 ∨ a = 7 ∨ a = 8 ∨ (a < 2 ∨ 8 < a) := by omega
    rcases ha with rfl | rfl | rfl | rfl | rfl | rfl | rfl | ha
    all_goals first | (simp; done) | skip
    have g1 : ¬ a = 8 := by omega
    have g2 : ¬ a = 7 := by omega
    have g3 : ¬ a = 6 := by omega
    have g4 : ¬ a = 5 := by omega
    have g5 : ¬ a = 4 := by omega
    have g6 : ¬ a = 3 := by omega
    have g7 : ¬ a = 2 := by omega
    rw [if_neg g1, if_neg g2, if_neg g3, if_neg g4, if_neg g5, if_neg g6, if_neg g7]
theorem bl_o1 (j : Nat) (hj : ¬ (2 ≤ j ∧ j ≤ 8)) : bl M 1 9 k j = M j := by
  funext i
  unfold bl
  rw [if_neg (by omega)]
theorem bl_z1 : bl M 1 9 0 = M := by
  funext a i
  unfold bl
  rw [if_neg (by omega)]
theorem l_like1 : ∀ d k, k + d = 6 → (zQ 18 18 [.ref 1, .ref 9, .int (nI k)] [] (bl M 1 9 k) Q ↔ Q none (bl M 1 9 6)) := by
  intro d
  induction d with
  | zero =>
    intro k hk
    obtain rfl : k = 6 := by omega
    rw [q18_18]
    have f : (6 : Int32) ≤ nI 6 := i_le_refl _
    simp only [q18_0, q18_1, q18_2, q18_5, q18_8, q18_9, q18_10, q18_13, q18_16, q18_17i, q18_17r, q18_17n, q18_19, q18_21, q18_24, q18_25, q18_28, q18_29, q18_30, q18_33, q18_34, q18_35, q18_36, q18_37, q18_40, q18_41, q18_42, q18_45, q18_46, q18_47, q18_48, q18_49, q18_52, q18_53, q18_54, q18_57, q18_58, q18_59, q18_60, q18_61, q18_64, q18_65, q18_66, q18_69, q18_70, q18_71, q18_72, q18_73, q18_76, q18_77, q18_78, q18_81, q18_82, q18_83, q18_84, q18_85, q18_88, q18_89, q18_90, q18_93, q18_94, q18_95, q18_96, q18_97, q18_100, q18_101, q18_102, q18_105, q18_106, q18_107, q18_108i, q18_108r, q18_108n, q18_111, q18_114, zNC, zcs_0, zcs_i, zcs_r, zcs_l, zpush_0, zpush_i, zpush_l, and_true, true_and, Nat.reduceLT, Nat.reduceLeDiff, Nat.reduceAdd, Nat.reduceMul, reduceIte, ite_true, ite_false, if_true, if_false, not_true_eq_false, not_false_eq_true, false_implies, true_implies, forall_const, implies_true, imp_self, and_self, false_and, and_false, ne_eq, zk_1, zfv_1_0, zfv_1_1, zfv_1_2, zfv_1_3, zfv_1_4, zfv_1_5, zfv_1_6, zfv_1_7, zf_1_7, zfv_1_8, zf_1_8, zk_9, zfv_9_0, zfv_9_1, zfv_9_2, zfv_9_3, zfv_9_4, zfv_9_5, zfv_9_6, zfv_9_7, zf_9_7, zfv_9_8, zf_9_8, zk_17, zfv_17_0, zfv_17_1, zfv_17_2, zfv_17_3, zfv_17_4, zfv_17_5, zfv_17_6, zfv_17_7, zf_17_7, zfv_17_8, zf_17_8, zk_2, zn_2, zk_3, zn_3, zk_4, zn_4, zk_5, zn_5, zk_6, zn_6, zk_7, zn_7, zk_8, zn_8, zk_10, zn_10, zk_11, zn_11, zk_12, zn_12, zk_13, zn_13, zk_14, zn_14, zk_15, zn_15, zk_16, zn_16, zk_18, zn_18, zk_19, zn_19, zk_20, zn_20, zk_21, zn_21, zk_22, zn_22, zk_23, zn_23, zk_24, zn_24, f]
  | succ d ih =>
    intro k hk
    have h1 : ¬ (6 : Int32) ≤ nI k := nI_ge (a := k) (b := 6) (by omega) (by omega)
    have hc : (nI k).toNatClampNeg = k := nI_clamp (by omega)
    have hz := zin_nI (k := k) (n := 6) (by omega) (by decide)
    have ih' := ih (k + 1) (by omega)
    rw [← bl_s1] at ih'
    rw [q18_18, ← ih']
    simp only [q18_0, q18_1, q18_2, q18_5, q18_8, q18_9, q18_10, q18_13, q18_16, q18_17i, q18_17r, q18_17n, q18_19, q18_21, q18_24, q18_25, q18_28, q18_29, q18_30, q18_33, q18_34, q18_35, q18_36, q18_37, q18_40, q18_41, q18_42, q18_45, q18_46, q18_47, q18_48, q18_49, q18_52, q18_53, q18_54, q18_57, q18_58, q18_59, q18_60, q18_61, q18_64, q18_65, q18_66, q18_69, q18_70, q18_71, q18_72, q18_73, q18_76, q18_77, q18_78, q18_81, q18_82, q18_83, q18_84, q18_85, q18_88, q18_89, q18_90, q18_93, q18_94, q18_95, q18_96, q18_97, q18_100, q18_101, q18_102, q18_105, q18_106, q18_107, q18_108i, q18_108r, q18_108n, q18_111, q18_114, zNC, zcs_0, zcs_i, zcs_r, zcs_l, zpush_0, zpush_i, zpush_l, and_true, true_and, Nat.reduceLT, Nat.reduceLeDiff, Nat.reduceAdd, Nat.reduceMul, reduceIte, ite_true, ite_false, if_true, if_false, not_true_eq_false, not_false_eq_true, false_implies, true_implies, forall_const, implies_true, imp_self, and_self, false_and, and_false, ne_eq, zk_1, zfv_1_0, zfv_1_1, zfv_1_2, zfv_1_3, zfv_1_4, zfv_1_5, zfv_1_6, zfv_1_7, zf_1_7, zfv_1_8, zf_1_8, zk_9, zfv_9_0, zfv_9_1, zfv_9_2, zfv_9_3, zfv_9_4, zfv_9_5, zfv_9_6, zfv_9_7, zf_9_7, zfv_9_8, zf_9_8, zk_17, zfv_17_0, zfv_17_1, zfv_17_2, zfv_17_3, zfv_17_4, zfv_17_5, zfv_17_6, zfv_17_7, zf_17_7, zfv_17_8, zf_17_8, zk_2, zn_2, zk_3, zn_3, zk_4, zn_4, zk_5, zn_5, zk_6, zn_6, zk_7, zn_7, zk_8, zn_8, zk_10, zn_10, zk_11, zn_11, zk_12, zn_12, zk_13, zn_13, zk_14, zn_14, zk_15, zn_15, zk_16, zn_16, zk_18, zn_18, zk_19, zn_19, zk_20, zn_20, zk_21, zn_21, zk_22, zn_22, zk_23, zn_23, zk_24, zn_24, h1, hc, hz, zup_app, Nat.reduceEqDiff, bl_o1 (M := M) (k := k) 10 (by omega), bl_o1 (M := M) (k := k) 11 (by omega), bl_o1 (M := M) (k := k) 12 (by omega), bl_o1 (M := M) (k := k) 13 (by omega), bl_o1 (M := M) (k := k) 14 (by omega), bl_o1 (M := M) (k := k) 15 (by omega), bl_o1 (M := M) (k := k) 16 (by omega), nI_1]
/-- town 1 becomes like town 9 -/
def ML1 (M : zM) : zM := bl (zup (zup M 1 7 (M 9 7)) 1 8 (M 9 8)) 1 9 6
theorem s_like1 : zQ 18 0 [.ref 1, .ref 9, .null] [] M Q ↔ Q none (ML1 M) := by
  refine Iff.trans ?_ (l_like1 6 0 (by omega))
  rw [bl_z1]
  have e : zup M 1 7 (M 9 7) 9 8 = M 9 8 := rfl
  simp only [q18_0, q18_1, q18_2, q18_5, q18_8, q18_9, q18_10, q18_13, q18_16, q18_17i, q18_17r, q18_17n, q18_19, q18_21, q18_24, q18_25, q18_28, q18_29, q18_30, q18_33, q18_34, q18_35, q18_36, q18_37, q18_40, q18_41, q18_42, q18_45, q18_46, q18_47, q18_48, q18_49, q18_52, q18_53, q18_54, q18_57, q18_58, q18_59, q18_60, q18_61, q18_64, q18_65, q18_66, q18_69, q18_70, q18_71, q18_72, q18_73, q18_76, q18_77, q18_78, q18_81, q18_82, q18_83, q18_84, q18_85, q18_88, q18_89, q18_90, q18_93, q18_94, q18_95, q18_96, q18_97, q18_100, q18_101, q18_102, q18_105, q18_106, q18_107, q18_108i, q18_108r, q18_108n, q18_111, q18_114, zNC, zcs_0, zcs_i, zcs_r, zcs_l, zpush_0, zpush_i, zpush_l, and_true, true_and, Nat.reduceLT, Nat.reduceLeDiff, Nat.reduceAdd, Nat.reduceMul, reduceIte, ite_true, ite_false, if_true, if_false, not_true_eq_false, not_false_eq_true, false_implies, true_implies, forall_const, implies_true, imp_self, and_self, false_and, and_false, ne_eq, zk_1, zfv_1_0, zfv_1_1, zfv_1_2, zfv_1_3, zfv_1_4, zfv_1_5, zfv_1_6, zfv_1_7, zf_1_7, zfv_1_8, zf_1_8, zk_9, zfv_9_0, zfv_9_1, zfv_9_2, zfv_9_3, zfv_9_4, zfv_9_5, zfv_9_6, zfv_9_7, zf_9_7, zfv_9_8, zf_9_8, zk_17, zfv_17_0, zfv_17_1, zfv_17_2, zfv_17_3, zfv_17_4, zfv_17_5, zfv_17_6, zfv_17_7, zf_17_7, zfv_17_8, zf_17_8, zk_2, zn_2, zk_3, zn_3, zk_4, zn_4, zk_5, zn_5, zk_6, zn_6, zk_7, zn_7, zk_8, zn_8, zk_10, zn_10, zk_11, zn_11, zk_12, zn_12, zk_13, zn_13, zk_14, zn_14, zk_15, zn_15, zk_16, zn_16, zk_18, zn_18, zk_19, zn_19, zk_20, zn_20, zk_21, zn_21, zk_22, zn_22, zk_23, zn_23, zk_24, zn_24, e, nI_0]
theorem bl_s2 : zup (zup (zup (zup (zup (zup (zup (bl M 17 1 k) 18 k (M 2 k)) 19 k (M 3 k)) 20 k (M 4 k)) 21 k (M 5 k)) 22 k (M 6 k)) 23 k (M 7 k)) 24 k (vp_nar .boolean (M 8 k)) = bl M 17 1 (k + 1) := by
  funext a i
  simp only [zup_app, bl]
  by_cases ei : i = k
  · subst ei
    have ha : a = 18 ∨ a = 19 ∨ a = 20 ∨ a = 21 ∨ a = 22 ∨ a = 23 ∨ a = 24 ∨ (a < 18 ∨ 24 < a) := by omega
    rcases ha with rfl | rfl | rfl | rfl | rfl | rfl | rfl | ha
    all_goals first | (simp; done) | skip
    have g1 : ¬ a = 24 := by omega
    have g2 : ¬ a = 23 := by omega
    have g3 : ¬ a = 22 := by omega
    have g4 : ¬ a = 21 := by omega
    have g5 : ¬ a = 20 := by omega
    have g6 : ¬ a = 19 := by omega
    have g7 : ¬ a = 18 := by omega
    have g8 : ¬ (17 + 1 ≤ a ∧ a ≤ 17 + 7 ∧ i < i) := by omega
    have g9 : ¬ (17 + 1 ≤ a ∧ a ≤ 17 + 7 ∧ i < i + 1) := by omega
    rw [if_neg g1, if_neg g2, if_neg g3, if_neg g4, if_neg g5, if_neg g6, if_neg g7, if_neg g8, if_neg g9]
  · have e1 : (i < k) = (i < k + 1) := by simp; omega
    simp only [if_neg ei, e1]
    have ha : a = 18 ∨ a = 19 ∨ a = 20 ∨ a = 21 ∨ a = 22 ∨ a = 23 ∨ a = 24 ∨ (a < 18 ∨ 24 < a) := by omega
    rcases ha with rfl | rfl | rfl | rfl | rfl | rfl | rfl | ha
    all_goals first | (simp; done) | skip
    have g1 : ¬ a = 24 := by omega
    have g2 : ¬ a = 23 := by omega
    have g3 : ¬ a = 22 := by omega
    have g4 : ¬ a = 21 := by omega
    have g5 : ¬ a = 20 := by omega
    have g6 : ¬ a = 19 := by omega
    have g7 : ¬ a = 18 := by omega
    rw [if_neg g1, if_neg g2, if_neg g3, if_neg g4, if_neg g5, if_neg g6, if_neg g7]
theorem bl_o2 (j : Nat) (hj : ¬ (18 ≤ j ∧ j ≤ 24)) : bl M 17 1 k j = M j := by
  funext i
  unfold bl
  rw [if_neg (by omega)]
theorem bl_z2 : bl M 17 1 0 = M := by
  funext a i
  unfold bl
  rw [if_neg (by omega)]
theorem l_like2 : ∀ d k, k + d = 6 → (zQ 18 18 [.ref 17, .ref 1, .int (nI k)] [] (bl M 17 1 k) Q ↔ Q none (bl M 17 1 6)) := by
  intro d
  induction d with
  | zero =>
    intro k hk
    obtain rfl : k = 6 := by omega
    rw [q18_18]
    have f : (6 : Int32) ≤ nI 6 := i_le_refl _
    simp only [q18_0, q18_1, q18_2, q18_5, q18_8, q18_9, q18_10, q18_13, q18_16, q18_17i, q18_17r, q18_17n, q18_19, q18_21, q18_24, q18_25, q18_28, q18_29, q18_30, q18_33, q18_34, q18_35, q18_36, q18_37, q18_40, q18_41, q18_42, q18_45, q18_46, q18_47, q18_48, q18_49, q18_52, q18_53, q18_54, q18_57, q18_58, q18_59, q18_60, q18_61, q18_64, q18_65, q18_66, q18_69, q18_70, q18_71, q18_72, q18_73, q18_76, q18_77, q18_78, q18_81, q18_82, q18_83, q18_84, q18_85, q18_88, q18_89, q18_90, q18_93, q18_94, q18_95, q18_96, q18_97, q18_100, q18_101, q18_102, q18_105, q18_106, q18_107, q18_108i, q18_108r, q18_108n, q18_111, q18_114, zNC, zcs_0, zcs_i, zcs_r, zcs_l, zpush_0, zpush_i, zpush_l, and_true, true_and, Nat.reduceLT, Nat.reduceLeDiff, Nat.reduceAdd, Nat.reduceMul, reduceIte, ite_true, ite_false, if_true, if_false, not_true_eq_false, not_false_eq_true, false_implies, true_implies, forall_const, implies_true, imp_self, and_self, false_and, and_false, ne_eq, zk_1, zfv_1_0, zfv_1_1, zfv_1_2, zfv_1_3, zfv_1_4, zfv_1_5, zfv_1_6, zfv_1_7, zf_1_7, zfv_1_8, zf_1_8, zk_9, zfv_9_0, zfv_9_1, zfv_9_2, zfv_9_3, zfv_9_4, zfv_9_5, zfv_9_6, zfv_9_7, zf_9_7, zfv_9_8, zf_9_8, zk_17, zfv_17_0, zfv_17_1, zfv_17_2, zfv_17_3, zfv_17_4, zfv_17_5, zfv_17_6, zfv_17_7, zf_17_7, zfv_17_8, zf_17_8, zk_2, zn_2, zk_3, zn_3, zk_4, zn_4, zk_5, zn_5, zk_6, zn_6, zk_7, zn_7, zk_8, zn_8, zk_10, zn_10, zk_11, zn_11, zk_12, zn_12, zk_13, zn_13, zk_14, zn_14, zk_15, zn_15, zk_16, zn_16, zk_18, zn_18, zk_19, zn_19, zk_20, zn_20, zk_21, zn_21, zk_22, zn_22, zk_23, zn_23, zk_24, zn_24, f]
  | succ d ih =>
    intro k hk
    have h1 : ¬ (6 : Int32) ≤ nI k := nI_ge (a := k) (b := 6) (by omega) (by omega)
    have hc : (nI k).toNatClampNeg = k := nI_clamp (by omega)
    have hz := zin_nI (k := k) (n := 6) (by omega) (by decide)
    have ih' := ih (k + 1) (by omega)
    rw [← bl_s2] at ih'
    rw [q18_18, ← ih']
    simp only [q18_0, q18_1, q18_2, q18_5, q18_8, q18_9, q18_10, q18_13, q18_16, q18_17i, q18_17r, q18_17n, q18_19, q18_21, q18_24, q18_25, q18_28, q18_29, q18_30, q18_33, q18_34, q18_35, q18_36, q18_37, q18_40, q18_41, q18_42, q18_45, q18_46, q18_47, q18_48, q18_49, q18_52, q18_53, q18_54, q18_57, q18_58, q18_59, q18_60, q18_61, q18_64, q18_65, q18_66, q18_69, q18_70, q18_71, q18_72, q18_73, q18_76, q18_77, q18_78, q18_81, q18_82, q18_83, q18_84, q18_85, q18_88, q18_89, q18_90, q18_93, q18_94, q18_95, q18_96, q18_97, q18_100, q18_101, q18_102, q18_105, q18_106, q18_107, q18_108i, q18_108r, q18_108n, q18_111, q18_114, zNC, zcs_0, zcs_i, zcs_r, zcs_l, zpush_0, zpush_i, zpush_l, and_true, true_and, Nat.reduceLT, Nat.reduceLeDiff, Nat.reduceAdd, Nat.reduceMul, reduceIte, ite_true, ite_false, if_true, if_false, not_true_eq_false, not_false_eq_true, false_implies, true_implies, forall_const, implies_true, imp_self, and_self, false_and, and_false, ne_eq, zk_1, zfv_1_0, zfv_1_1, zfv_1_2, zfv_1_3, zfv_1_4, zfv_1_5, zfv_1_6, zfv_1_7, zf_1_7, zfv_1_8, zf_1_8, zk_9, zfv_9_0, zfv_9_1, zfv_9_2, zfv_9_3, zfv_9_4, zfv_9_5, zfv_9_6, zfv_9_7, zf_9_7, zfv_9_8, zf_9_8, zk_17, zfv_17_0, zfv_17_1, zfv_17_2, zfv_17_3, zfv_17_4, zfv_17_5, zfv_17_6, zfv_17_7, zf_17_7, zfv_17_8, zf_17_8, zk_2, zn_2, zk_3, zn_3, zk_4, zn_4, zk_5, zn_5, zk_6, zn_6, zk_7, zn_7, zk_8, zn_8, zk_10, zn_10, zk_11, zn_11, zk_12, zn_12, zk_13, zn_13, zk_14, zn_14, zk_15, zn_15, zk_16, zn_16, zk_18, zn_18, zk_19, zn_19, zk_20, zn_20, zk_21, zn_21, zk_22, zn_22, zk_23, zn_23, zk_24, zn_24, h1, hc, hz, zup_app, Nat.reduceEqDiff, bl_o2 (M := M) (k := k) 2 (by omega), bl_o2 (M := M) (k := k) 3 (by omega), bl_o2 (M := M) (k := k) 4 (by omega), bl_o2 (M := M) (k := k) 5 (by omega), bl_o2 (M := M) (k := k) 6 (by omega), bl_o2 (M := M) (k := k) 7 (by omega), bl_o2 (M := M) (k := k) 8 (by omega), nI_1]
/-- town 17 becomes like town 1 -/
def ML2 (M : zM) : zM := bl (zup (zup M 17 7 (M 1 7)) 17 8 (M 1 8)) 17 1 6
theorem s_like2 : zQ 18 0 [.ref 17, .ref 1, .null] [] M Q ↔ Q none (ML2 M) := by
  refine Iff.trans ?_ (l_like2 6 0 (by omega))
  rw [bl_z2]
  have e : zup M 17 7 (M 1 7) 1 8 = M 1 8 := rfl
  simp only [q18_0, q18_1, q18_2, q18_5, q18_8, q18_9, q18_10, q18_13, q18_16, q18_17i, q18_17r, q18_17n, q18_19, q18_21, q18_24, q18_25, q18_28, q18_29, q18_30, q18_33, q18_34, q18_35, q18_36, q18_37, q18_40, q18_41, q18_42, q18_45, q18_46, q18_47, q18_48, q18_49, q18_52, q18_53, q18_54, q18_57, q18_58, q18_59, q18_60, q18_61, q18_64, q18_65, q18_66, q18_69, q18_70, q18_71, q18_72, q18_73, q18_76, q18_77, q18_78, q18_81, q18_82, q18_83, q18_84, q18_85, q18_88, q18_89, q18_90, q18_93, q18_94, q18_95, q18_96, q18_97, q18_100, q18_101, q18_102, q18_105, q18_106, q18_107, q18_108i, q18_108r, q18_108n, q18_111, q18_114, zNC, zcs_0, zcs_i, zcs_r, zcs_l, zpush_0, zpush_i, zpush_l, and_true, true_and, Nat.reduceLT, Nat.reduceLeDiff, Nat.reduceAdd, Nat.reduceMul, reduceIte, ite_true, ite_false, if_true, if_false, not_true_eq_false, not_false_eq_true, false_implies, true_implies, forall_const, implies_true, imp_self, and_self, false_and, and_false, ne_eq, zk_1, zfv_1_0, zfv_1_1, zfv_1_2, zfv_1_3, zfv_1_4, zfv_1_5, zfv_1_6, zfv_1_7, zf_1_7, zfv_1_8, zf_1_8, zk_9, zfv_9_0, zfv_9_1, zfv_9_2, zfv_9_3, zfv_9_4, zfv_9_5, zfv_9_6, zfv_9_7, zf_9_7, zfv_9_8, zf_9_8, zk_17, zfv_17_0, zfv_17_1, zfv_17_2, zfv_17_3, zfv_17_4, zfv_17_5, zfv_17_6, zfv_17_7, zf_17_7, zfv_17_8, zf_17_8, zk_2, zn_2, zk_3, zn_3, zk_4, zn_4, zk_5, zn_5, zk_6, zn_6, zk_7, zn_7, zk_8, zn_8, zk_10, zn_10, zk_11, zn_11, zk_12, zn_12, zk_13, zn_13, zk_14, zn_14, zk_15, zn_15, zk_16, zn_16, zk_18, zn_18, zk_19, zn_19, zk_20, zn_20, zk_21, zn_21, zk_22, zn_22, zk_23, zn_23, zk_24, zn_24, e, nI_0]
end IV
