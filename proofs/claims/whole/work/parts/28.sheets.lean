section IV
variable {M M' : zM} {h y lw c k t : Nat}
theorem JS_frame {k : Nat} (e1 : M' (34 + 2 * k) = M (34 + 2 * k)) (e2 : M' (34 + 2 * k + 1) = M (34 + 2 * k + 1)) (e3 : M' 61 k = M 61 k) (e4 : M' 62 k = M 62 k) (e5 : ∀ i, i < 60 → M' 63 (60 * k + i) = M 63 (60 * k + i)) (S : JS M k) : JS M' k := by
  unfold JS at *
  rw [e1, e2, e3, e4]
  rcases S with S | ⟨s1, n, l, hn, hl, a, b, d, e, f⟩
  · exact Or.inl S
  · exact Or.inr ⟨s1, n, l, hn, hl, a, b, d, e, fun i hi => by rw [e5 i (by omega)]; exact f i hi⟩
theorem s_noSheet {Q : zR → zM → Prop} {x : Int32} : zQ 141 0 [.int x] [] M Q ↔ Q (zI (zb1 (¬ (0 ≤ x ∧ x < 4)))) M := by
  have e : (0 ≤ x ∧ x ≤ 3) ↔ (0 ≤ x ∧ x < 4) := by simp only [fa_lt, fa_le, fa_eq, zt_0, zt_1, zt_2, zt_3, zt_4, zt_5, zt_6, zt_7, zt_8, zt_9, zt_10, zt_11, zt_12, zt_13, zt_14, zt_15, zt_16, zt_17, zt_18, zt_19, zt_20, zt_21, zt_22, zt_23, zt_24, zt_25, zt_31, zt_40, zt_48, zt_50, zt_57, zt_59, zt_60, zt_97, zt_98, zt_99, zt_100, zt_112, zt_115, zt_119, zt_120, zt_255, zt_999, zt_m1, zt_m2, zt_m3, zt_m4, zt_m9, zt_m10, zt_m100]; omega
  by_cases h : 0 ≤ x ∧ x < 4
  · have h3 := e.mpr h
    simp only [q141_0, q141_1, q141_2, q141_3, q141_6, q141_9, q141_12, q141_13, q141_16, q141_17, zNC, zcs_0, zcs_i, zcs_r, zcs_l, zpush_0, zpush_i, zpush_l, and_true, true_and, Nat.reduceLT, Nat.reduceLeDiff, Nat.reduceAdd, Nat.reduceMul, reduceIte, ite_true, ite_false, if_true, if_false, not_true_eq_false, not_false_eq_true, false_implies, true_implies, forall_const, implies_true, imp_self, and_self, false_and, and_false, ne_eq, s_in, i64_0, (i64_c _).2.2.1, zb1_0, h3]
    simp [zb1, h]
  · simp only [q141_0, q141_1, q141_2, q141_3, q141_6, q141_9, q141_12, q141_13, q141_16, q141_17, zNC, zcs_0, zcs_i, zcs_r, zcs_l, zpush_0, zpush_i, zpush_l, and_true, true_and, Nat.reduceLT, Nat.reduceLeDiff, Nat.reduceAdd, Nat.reduceMul, reduceIte, ite_true, ite_false, if_true, if_false, not_true_eq_false, not_false_eq_true, false_implies, true_implies, forall_const, implies_true, imp_self, and_self, false_and, and_false, ne_eq, s_in, i64_0, (i64_c _).2.2.1, zb1_0, e, h]
    simp [zb1]
theorem hasRow_01 {k : Nat} (S : JS M k) : M (34 + 2 * k) 1 = 0 ∨ M (34 + 2 * k) 1 = 1 := by
  rcases S with S | S
  · exact Or.inl S.1
  · exact Or.inr S.1
theorem size_neg {k : Nat} (S : JS M k) : M 61 k < 0 ↔ M (34 + 2 * k) 1 = 0 := by
  rcases S with ⟨a, b⟩ | ⟨a, n, l, hn, hl, b, d, -⟩
  · rw [a, b]; decide
  · rw [a, d]
    constructor
    · intro h; exact absurd h (nI_pos (by omega))
    · intro h; exact absurd h (by decide)
theorem J_lose (J : zV M) (k : Nat) (hk : k < 4) : zV (zup (zup M (34 + 2 * k) 1 0) 61 k (-1)) := by
  obtain ⟨h, y, lw, c, T, R, S, Z⟩ := J
  refine ⟨h, y, lw, c, JT_congr T (fun a ha => (zup_ne _ _ _ (by omega)).trans (zup_ne _ _ _ (by omega))) ?_ ?_ ?_, JR_congr R (fun a ha => (zup_ne _ _ _ (by omega)).trans (zup_ne _ _ _ (by omega))) ?_, fun j hj => ?_, ?_⟩
  · simp only [zup_app]; rw [if_neg (by omega), if_neg (by omega)]
  · simp only [zup_app]; rw [if_neg (by omega), if_neg (by omega)]
  · simp only [zup_app]; rw [if_neg (by omega), if_neg (by omega)]
  · simp only [zup_app]; rw [if_neg (by omega), if_neg (by omega)]
  · by_cases e : j = k
    · subst e
      refine Or.inl ⟨?_, ?_⟩
      · rw [zup_ne _ _ _ (by omega)]; simp [zup_app]
      · simp [zup_app]
    · refine JS_frame ?_ ?_ ?_ ?_ ?_ (S j hj)
      · exact (zup_ne _ _ _ (by omega)).trans (zup_ne _ _ _ (by omega))
      · exact (zup_ne _ _ _ (by omega)).trans (zup_ne _ _ _ (by omega))
      · simp only [zup_app, if_true]; rw [if_neg e, if_neg (by omega)]
      · rw [zup_ne _ _ _ (by omega), zup_ne _ _ _ (by omega)]
      · intro i hi; rw [zup_ne _ _ _ (by omega), zup_ne _ _ _ (by omega)]
  · unfold J0
    rw [zup_ne _ _ _ (show (0 : Nat) ≠ 61 by omega), zup_ne _ _ _ (show (0 : Nat) ≠ 34 + 2 * k by omega), zup_ne _ _ _ (show (42 : Nat) ≠ 61 by omega), zup_ne _ _ _ (show (42 : Nat) ≠ 34 + 2 * k by omega)]
    exact Z
theorem k_cases4 (hk : k < 4) : k = 0 ∨ k = 1 ∨ k = 2 ∨ k = 3 := by omega
end IV
section OP
variable {M : zM} {x x2 x3 x4 x5 : Int32}
theorem op_lose (J : zV M) : zQ 64 0 [.ref 0, .int x, .null] [] M (fun r M1 => zQ 143 0 [.ref 42, .int x, .null] [] M1 (fun r2 M2 => r2 = r ∧ zV M2)) := by
  have J2 := J_lose J
  obtain ⟨h, y, lw, c, T, R, S, Z⟩ := id J
  by_cases hx : 0 ≤ x ∧ x < 4
  · obtain ⟨k, hk, rfl⟩ := i_below (n := 4) (by omega) hx.1 hx.2
    have hc : (nI k).toNatClampNeg = k := nI_clamp (by omega)
    have hz := zin_nI (k := k) (n := 4) hk (by decide)
    have Sk := S k hk
    have sn := size_neg Sk
    have h01 := hasRow_01 Sk
    have J2' := J2 k hk
    have hz2 : (0 : Int32) = 0 ∨ (0 : Int32) = 1 := Or.inl rfl
    have e61 : ∀ v, zup M (34 + 2 * k) 1 v 61 = M 61 := fun v => zup_ne _ _ _ (by omega)
    rcases h01 with h0 | h0
    · have sn2 : ¬ 0 ≤ M 61 k := by have := sn.mpr h0; simp only [fa_lt, fa_le, fa_eq, zt_0, zt_1, zt_2, zt_3, zt_4, zt_5, zt_6, zt_7, zt_8, zt_9, zt_10, zt_11, zt_12, zt_13, zt_14, zt_15, zt_16, zt_17, zt_18, zt_19, zt_20, zt_21, zt_22, zt_23, zt_24, zt_25, zt_31, zt_40, zt_48, zt_50, zt_57, zt_59, zt_60, zt_97, zt_98, zt_99, zt_100, zt_112, zt_115, zt_119, zt_120, zt_255, zt_999, zt_m1, zt_m2, zt_m3, zt_m4, zt_m9, zt_m10, zt_m100] at *; omega
      rcases k_cases4 hk with rfl | rfl | rfl | rfl <;> simp only [Nat.reduceMul, Nat.reduceAdd] at h0 J2' e61 <;>
        (simp only [q64_0, q64_1, q64_2, q64_5, q64_8, q64_9, q64_10, q64_11, q64_14, q64_15, q64_16, q64_19i, q64_19r, q64_19n, q64_20, q64_21, q64_24, q64_25, q64_26, q64_27, q64_30, q64_31, q64_34, q64_35, q64_38, q64_39, zNC, zcs_0, zcs_i, zcs_r, zcs_l, zpush_0, zpush_i, zpush_l, and_true, true_and, Nat.reduceLT, Nat.reduceLeDiff, Nat.reduceAdd, Nat.reduceMul, reduceIte, ite_true, ite_false, if_true, if_false, not_true_eq_false, not_false_eq_true, false_implies, true_implies, forall_const, implies_true, imp_self, and_self, false_and, and_false, ne_eq, zk_0, zfv_0_0, zfv_0_1, zfv_0_2, zfv_0_3, zfv_0_4, zfv_0_5, zfv_0_6, zf_0_6, zfv_0_7, zf_0_7, zk_25, zfv_25_0, zfv_25_1, zfv_25_2, zf_25_2, zk_26, zn_26, zk_27, zfv_27_0, zk_28, zn_28, zk_29, zfv_29_0, zfv_29_1, zfv_29_2, zfv_29_3, zf_29_3, zk_30, zn_30, zk_31, zn_31, zk_32, zn_32, zk_33, zn_33, zk_34, zfv_34_0, zfv_34_1, zf_34_1, zfv_34_2, zf_34_2, zfv_34_3, zf_34_3, zk_35, zn_35, zk_36, zfv_36_0, zfv_36_1, zf_36_1, zfv_36_2, zf_36_2, zfv_36_3, zf_36_3, zk_37, zn_37, zk_38, zfv_38_0, zfv_38_1, zf_38_1, zfv_38_2, zf_38_2, zfv_38_3, zf_38_3, zk_39, zn_39, zk_40, zfv_40_0, zfv_40_1, zf_40_1, zfv_40_2, zf_40_2, zfv_40_3, zf_40_3, zk_41, zn_41, s_isWithin, zb1_0, hx, h0, hz2]; simp only [q143_0, q143_1, q143_4, q143_7, q143_8, q143_9, q143_10, q143_13, q143_14, q143_15, q143_18, q143_19, q143_22, q143_23i, q143_23r, q143_23n, q143_24, q143_25, q143_28, q143_29, q143_30, q143_31, q143_32, zNC, zcs_0, zcs_i, zcs_r, zcs_l, zpush_0, zpush_i, zpush_l, and_true, true_and, Nat.reduceLT, Nat.reduceLeDiff, Nat.reduceAdd, Nat.reduceMul, reduceIte, ite_true, ite_false, if_true, if_false, not_true_eq_false, not_false_eq_true, false_implies, true_implies, forall_const, implies_true, imp_self, and_self, false_and, and_false, ne_eq, zk_42, zfv_42_0, zf_42_0, zfv_42_1, zf_42_1, zfv_42_2, zf_42_2, zfv_42_3, zfv_42_4, zfv_42_5, zfv_42_6, zfv_42_7, zfv_42_8, zfv_42_9, zf_42_9, zfv_42_10, zf_42_10, zfv_42_11, zf_42_11, zfv_42_12, zfv_42_13, zfv_42_14, zfv_42_15, zfv_42_16, zfv_42_17, zfv_42_18, zf_42_18, zfv_42_19, zf_42_19, zfv_42_20, zfv_42_21, zfv_42_22, zfv_42_23, zf_42_23, zfv_42_24, zfv_42_25, zfv_42_26, zfv_42_27, zfv_42_28, zfv_42_29, zfv_42_30, zfv_42_31, zf_42_31, zk_43, zn_43, zk_44, zn_44, zk_45, zn_45, zk_46, zn_46, zk_47, zn_47, zk_48, zn_48, zk_49, zn_49, zk_50, zn_50, zk_51, zn_51, zk_52, zn_52, zk_53, zn_53, zk_54, zn_54, zk_55, zn_55, zk_56, zn_56, zk_57, zn_57, zk_58, zn_58, zk_59, zn_59, zk_60, zn_60, zk_61, zn_61, zk_62, zn_62, zk_63, zn_63, zk_64, zn_64, s_noSheet, zb1_0, hx, hc, hz, e61, sn2]; simp [J2'])
    · have sn2 : 0 ≤ M 61 k := by
        have : ¬ M 61 k < 0 := fun h => by rw [sn, h0] at h; exact absurd h (by decide)
        simp only [fa_lt, fa_le, fa_eq, zt_0, zt_1, zt_2, zt_3, zt_4, zt_5, zt_6, zt_7, zt_8, zt_9, zt_10, zt_11, zt_12, zt_13, zt_14, zt_15, zt_16, zt_17, zt_18, zt_19, zt_20, zt_21, zt_22, zt_23, zt_24, zt_25, zt_31, zt_40, zt_48, zt_50, zt_57, zt_59, zt_60, zt_97, zt_98, zt_99, zt_100, zt_112, zt_115, zt_119, zt_120, zt_255, zt_999, zt_m1, zt_m2, zt_m3, zt_m4, zt_m9, zt_m10, zt_m100] at *; omega
      rcases k_cases4 hk with rfl | rfl | rfl | rfl <;> simp only [Nat.reduceMul, Nat.reduceAdd] at h0 J2' e61 <;>
        (simp only [q64_0, q64_1, q64_2, q64_5, q64_8, q64_9, q64_10, q64_11, q64_14, q64_15, q64_16, q64_19i, q64_19r, q64_19n, q64_20, q64_21, q64_24, q64_25, q64_26, q64_27, q64_30, q64_31, q64_34, q64_35, q64_38, q64_39, zNC, zcs_0, zcs_i, zcs_r, zcs_l, zpush_0, zpush_i, zpush_l, and_true, true_and, Nat.reduceLT, Nat.reduceLeDiff, Nat.reduceAdd, Nat.reduceMul, reduceIte, ite_true, ite_false, if_true, if_false, not_true_eq_false, not_false_eq_true, false_implies, true_implies, forall_const, implies_true, imp_self, and_self, false_and, and_false, ne_eq, zk_0, zfv_0_0, zfv_0_1, zfv_0_2, zfv_0_3, zfv_0_4, zfv_0_5, zfv_0_6, zf_0_6, zfv_0_7, zf_0_7, zk_25, zfv_25_0, zfv_25_1, zfv_25_2, zf_25_2, zk_26, zn_26, zk_27, zfv_27_0, zk_28, zn_28, zk_29, zfv_29_0, zfv_29_1, zfv_29_2, zfv_29_3, zf_29_3, zk_30, zn_30, zk_31, zn_31, zk_32, zn_32, zk_33, zn_33, zk_34, zfv_34_0, zfv_34_1, zf_34_1, zfv_34_2, zf_34_2, zfv_34_3, zf_34_3, zk_35, zn_35, zk_36, zfv_36_0, zfv_36_1, zf_36_1, zfv_36_2, zf_36_2, zfv_36_3, zf_36_3, zk_37, zn_37, zk_38, zfv_38_0, zfv_38_1, zf_38_1, zfv_38_2, zf_38_2, zfv_38_3, zf_38_3, zk_39, zn_39, zk_40, zfv_40_0, zfv_40_1, zf_40_1, zfv_40_2, zf_40_2, zfv_40_3, zf_40_3, zk_41, zn_41, s_isWithin, zb1_0, hx, h0, hz2]; simp only [q143_0, q143_1, q143_4, q143_7, q143_8, q143_9, q143_10, q143_13, q143_14, q143_15, q143_18, q143_19, q143_22, q143_23i, q143_23r, q143_23n, q143_24, q143_25, q143_28, q143_29, q143_30, q143_31, q143_32, zNC, zcs_0, zcs_i, zcs_r, zcs_l, zpush_0, zpush_i, zpush_l, and_true, true_and, Nat.reduceLT, Nat.reduceLeDiff, Nat.reduceAdd, Nat.reduceMul, reduceIte, ite_true, ite_false, if_true, if_false, not_true_eq_false, not_false_eq_true, false_implies, true_implies, forall_const, implies_true, imp_self, and_self, false_and, and_false, ne_eq, zk_42, zfv_42_0, zf_42_0, zfv_42_1, zf_42_1, zfv_42_2, zf_42_2, zfv_42_3, zfv_42_4, zfv_42_5, zfv_42_6, zfv_42_7, zfv_42_8, zfv_42_9, zf_42_9, zfv_42_10, zf_42_10, zfv_42_11, zf_42_11, zfv_42_12, zfv_42_13, zfv_42_14, zfv_42_15, zfv_42_16, zfv_42_17, zfv_42_18, zf_42_18, zfv_42_19, zf_42_19, zfv_42_20, zfv_42_21, zfv_42_22, zfv_42_23, zf_42_23, zfv_42_24, zfv_42_25, zfv_42_26, zfv_42_27, zfv_42_28, zfv_42_29, zfv_42_30, zfv_42_31, zf_42_31, zk_43, zn_43, zk_44, zn_44, zk_45, zn_45, zk_46, zn_46, zk_47, zn_47, zk_48, zn_48, zk_49, zn_49, zk_50, zn_50, zk_51, zn_51, zk_52, zn_52, zk_53, zn_53, zk_54, zn_54, zk_55, zn_55, zk_56, zn_56, zk_57, zn_57, zk_58, zn_58, zk_59, zn_59, zk_60, zn_60, zk_61, zn_61, zk_62, zn_62, zk_63, zn_63, zk_64, zn_64, s_noSheet, zb1_0, hx, hc, hz, e61, sn2]; simp [J2'])
  · simp only [q64_0, q64_1, q64_2, q64_5, q64_8, q64_9, q64_10, q64_11, q64_14, q64_15, q64_16, q64_19i, q64_19r, q64_19n, q64_20, q64_21, q64_24, q64_25, q64_26, q64_27, q64_30, q64_31, q64_34, q64_35, q64_38, q64_39, zNC, zcs_0, zcs_i, zcs_r, zcs_l, zpush_0, zpush_i, zpush_l, and_true, true_and, Nat.reduceLT, Nat.reduceLeDiff, Nat.reduceAdd, Nat.reduceMul, reduceIte, ite_true, ite_false, if_true, if_false, not_true_eq_false, not_false_eq_true, false_implies, true_implies, forall_const, implies_true, imp_self, and_self, false_and, and_false, ne_eq, zk_0, zfv_0_0, zfv_0_1, zfv_0_2, zfv_0_3, zfv_0_4, zfv_0_5, zfv_0_6, zf_0_6, zfv_0_7, zf_0_7, zk_25, zfv_25_0, zfv_25_1, zfv_25_2, zf_25_2, zk_26, zn_26, zk_27, zfv_27_0, zk_28, zn_28, zk_29, zfv_29_0, zfv_29_1, zfv_29_2, zfv_29_3, zf_29_3, zk_30, zn_30, zk_31, zn_31, zk_32, zn_32, zk_33, zn_33, zk_34, zfv_34_0, zfv_34_1, zf_34_1, zfv_34_2, zf_34_2, zfv_34_3, zf_34_3, zk_35, zn_35, zk_36, zfv_36_0, zfv_36_1, zf_36_1, zfv_36_2, zf_36_2, zfv_36_3, zf_36_3, zk_37, zn_37, zk_38, zfv_38_0, zfv_38_1, zf_38_1, zfv_38_2, zf_38_2, zfv_38_3, zf_38_3, zk_39, zn_39, zk_40, zfv_40_0, zfv_40_1, zf_40_1, zfv_40_2, zf_40_2, zfv_40_3, zf_40_3, zk_41, zn_41, s_isWithin, zb1_0, hx]
    simp only [q143_0, q143_1, q143_4, q143_7, q143_8, q143_9, q143_10, q143_13, q143_14, q143_15, q143_18, q143_19, q143_22, q143_23i, q143_23r, q143_23n, q143_24, q143_25, q143_28, q143_29, q143_30, q143_31, q143_32, zNC, zcs_0, zcs_i, zcs_r, zcs_l, zpush_0, zpush_i, zpush_l, and_true, true_and, Nat.reduceLT, Nat.reduceLeDiff, Nat.reduceAdd, Nat.reduceMul, reduceIte, ite_true, ite_false, if_true, if_false, not_true_eq_false, not_false_eq_true, false_implies, true_implies, forall_const, implies_true, imp_self, and_self, false_and, and_false, ne_eq, zk_42, zfv_42_0, zf_42_0, zfv_42_1, zf_42_1, zfv_42_2, zf_42_2, zfv_42_3, zfv_42_4, zfv_42_5, zfv_42_6, zfv_42_7, zfv_42_8, zfv_42_9, zf_42_9, zfv_42_10, zf_42_10, zfv_42_11, zf_42_11, zfv_42_12, zfv_42_13, zfv_42_14, zfv_42_15, zfv_42_16, zfv_42_17, zfv_42_18, zf_42_18, zfv_42_19, zf_42_19, zfv_42_20, zfv_42_21, zfv_42_22, zfv_42_23, zf_42_23, zfv_42_24, zfv_42_25, zfv_42_26, zfv_42_27, zfv_42_28, zfv_42_29, zfv_42_30, zfv_42_31, zf_42_31, zk_43, zn_43, zk_44, zn_44, zk_45, zn_45, zk_46, zn_46, zk_47, zn_47, zk_48, zn_48, zk_49, zn_49, zk_50, zn_50, zk_51, zn_51, zk_52, zn_52, zk_53, zn_53, zk_54, zn_54, zk_55, zn_55, zk_56, zn_56, zk_57, zn_57, zk_58, zn_58, zk_59, zn_59, zk_60, zn_60, zk_61, zn_61, zk_62, zn_62, zk_63, zn_63, zk_64, zn_64, s_noSheet, zb1_0, hx]
    simp [J]
end OP
