section IV
variable {M M' : zM} {h y lw c k t a b : Nat} {Q : zR → zM → Prop}
def fbey (i : Int32) (n : Int64) (s : Int32) : Prop := i < 0 ∨ n < 0 ∨ s.toInt64 < i.toInt64 + n
theorem i64_nle {x z : Int64} : ¬ x ≤ z ↔ z < x := by rw [fa_le64, fa_lt64]; omega
theorem lgc_le {x z : Int64} : lg_cmp x z ≤ 0 ↔ ¬ z < x := by
  rw [← lgc_ge]
  simp only [fa_le, fa_lt]
  omega
theorem s_isBeyond_t {i s : Int32} {n : Int64} {v : Value} (hb : fbey i n s) : zQ 147 0 [.int i, .long n, v, .int s] [] M Q ↔ Q (zI 1) M := by
  by_cases h0 : i < 0
  · simp only [q147_0, q147_1, q147_4, q147_5, q147_6, q147_7, q147_10, q147_11, q147_12, q147_13, q147_14, q147_15, q147_16, q147_17, q147_20, q147_21, q147_24, q147_25, zNC, zcs_0, zcs_i, zcs_r, zcs_l, zpush_0, zpush_i, zpush_l, and_true, true_and, Nat.reduceLT, Nat.reduceLeDiff, Nat.reduceAdd, Nat.reduceMul, reduceIte, ite_true, ite_false, if_true, if_false, not_true_eq_false, not_false_eq_true, false_implies, true_implies, forall_const, implies_true, imp_self, and_self, false_and, and_false, ne_eq, h0]
    simp
  · by_cases h1 : n < 0
    · simp only [q147_0, q147_1, q147_4, q147_5, q147_6, q147_7, q147_10, q147_11, q147_12, q147_13, q147_14, q147_15, q147_16, q147_17, q147_20, q147_21, q147_24, q147_25, zNC, zcs_0, zcs_i, zcs_r, zcs_l, zpush_0, zpush_i, zpush_l, and_true, true_and, Nat.reduceLT, Nat.reduceLeDiff, Nat.reduceAdd, Nat.reduceMul, reduceIte, ite_true, ite_false, if_true, if_false, not_true_eq_false, not_false_eq_true, false_implies, true_implies, forall_const, implies_true, imp_self, and_self, false_and, and_false, ne_eq, h0, lgc_lt, h1]
      simp
    · have h2 : s.toInt64 < i.toInt64 + n := by
        rcases hb with e | e | e
        · exact absurd e h0
        · exact absurd e h1
        · exact e
      simp only [q147_0, q147_1, q147_4, q147_5, q147_6, q147_7, q147_10, q147_11, q147_12, q147_13, q147_14, q147_15, q147_16, q147_17, q147_20, q147_21, q147_24, q147_25, zNC, zcs_0, zcs_i, zcs_r, zcs_l, zpush_0, zpush_i, zpush_l, and_true, true_and, Nat.reduceLT, Nat.reduceLeDiff, Nat.reduceAdd, Nat.reduceMul, reduceIte, ite_true, ite_false, if_true, if_false, not_true_eq_false, not_false_eq_true, false_implies, true_implies, forall_const, implies_true, imp_self, and_self, false_and, and_false, ne_eq, h0, lgc_lt, lgc_le, h1, h2]
      simp
theorem s_isBeyond_f {i s : Int32} {n : Int64} {v : Value} (hb : ¬ fbey i n s) : zQ 147 0 [.int i, .long n, v, .int s] [] M Q ↔ Q (zI 0) M := by
  have h0 : ¬ i < 0 := fun e => hb (Or.inl e)
  have h1 : ¬ n < 0 := fun e => hb (Or.inr (Or.inl e))
  have h2 : ¬ s.toInt64 < i.toInt64 + n := fun e => hb (Or.inr (Or.inr e))
  simp only [q147_0, q147_1, q147_4, q147_5, q147_6, q147_7, q147_10, q147_11, q147_12, q147_13, q147_14, q147_15, q147_16, q147_17, q147_20, q147_21, q147_24, q147_25, zNC, zcs_0, zcs_i, zcs_r, zcs_l, zpush_0, zpush_i, zpush_l, and_true, true_and, Nat.reduceLT, Nat.reduceLeDiff, Nat.reduceAdd, Nat.reduceMul, reduceIte, ite_true, ite_false, if_true, if_false, not_true_eq_false, not_false_eq_true, false_implies, true_implies, forall_const, implies_true, imp_self, and_self, false_and, and_false, ne_eq, h0, lgc_lt, lgc_le, h1, h2]
  simp
/-- the code of the fault of n cells of sheet k from i on, as the reference sees it -/
noncomputable def fcb (M : zM) (k : Nat) (lane i : Int32) (n : Int64) : Int32 := @ite _ (M 61 k < 0) (Classical.propDecidable _) 1 (@ite _ (M 62 k = lane) (Classical.propDecidable _) (@ite _ (n < 0) (Classical.propDecidable _) 4 (@ite _ (fbey i n (M 61 k)) (Classical.propDecidable _) 3 0)) 2)
theorem s_barred (hk : k < 4) {lane i : Int32} {n : Int64} : (fcb M k lane i n = 0 → (zQ 97 0 [.ref 42, .int (nI k), .int lane, .int i, .long n, .null] [] M Q ↔ Q (zI 0) M)) ∧ (¬ fcb M k lane i n = 0 → (zQ 97 0 [.ref 42, .int (nI k), .int lane, .int i, .long n, .null] [] M Q ↔ Q (zI (-10 - fcb M k lane i n)) (zup M 42 0 (fcb M k lane i n)))) := by
  have hc : (nI k).toNatClampNeg = k := nI_clamp (by omega)
  have hz := zin_nI (k := k) (n := 4) hk (by decide)
  unfold fcb
  by_cases h0 : M 61 k < 0
  · have h1 : ¬ 0 ≤ M 61 k := by simp only [fa_lt, fa_le, fa_eq, zt_0, zt_1, zt_2, zt_3, zt_4, zt_5, zt_6, zt_7, zt_8, zt_9, zt_10, zt_11, zt_12, zt_13, zt_14, zt_15, zt_16, zt_17, zt_18, zt_19, zt_20, zt_21, zt_22, zt_23, zt_24, zt_25, zt_31, zt_40, zt_48, zt_50, zt_57, zt_59, zt_60, zt_97, zt_98, zt_99, zt_100, zt_112, zt_115, zt_119, zt_120, zt_255, zt_999, zt_m1, zt_m2, zt_m3, zt_m4, zt_m9, zt_m10, zt_m100] at *; omega
    rw [if_pos h0]
    refine ⟨fun e => absurd e (by decide), fun _ => ?_⟩
    simp only [q97_0, q97_1, q97_4, q97_5, q97_6, q97_9, q97_10, q97_13, q97_14, q97_15, q97_16, q97_19, q97_20, q97_21, q97_24, q97_25, q97_26, q97_29, q97_30, q97_31, q97_34, q97_35, q97_36, q97_39, q97_40, q97_42, q97_43, q97_44, q97_47, q97_48, q97_49, q97_52, q97_53, q97_54, q97_56, q97_57, q97_60, q97_61, q97_62, q97_65, q97_68, q97_69, q97_70, q97_73, q97_76, q97_77, zNC, zcs_0, zcs_i, zcs_r, zcs_l, zpush_0, zpush_i, zpush_l, and_true, true_and, Nat.reduceLT, Nat.reduceLeDiff, Nat.reduceAdd, Nat.reduceMul, reduceIte, ite_true, ite_false, if_true, if_false, not_true_eq_false, not_false_eq_true, false_implies, true_implies, forall_const, implies_true, imp_self, and_self, false_and, and_false, ne_eq, zk_42, zfv_42_0, zf_42_0, zfv_42_1, zf_42_1, zfv_42_2, zf_42_2, zfv_42_3, zfv_42_4, zfv_42_5, zfv_42_6, zfv_42_7, zfv_42_8, zfv_42_9, zf_42_9, zfv_42_10, zf_42_10, zfv_42_11, zf_42_11, zfv_42_12, zfv_42_13, zfv_42_14, zfv_42_15, zfv_42_16, zfv_42_17, zfv_42_18, zf_42_18, zfv_42_19, zf_42_19, zfv_42_20, zfv_42_21, zfv_42_22, zfv_42_23, zf_42_23, zfv_42_24, zfv_42_25, zfv_42_26, zfv_42_27, zfv_42_28, zfv_42_29, zfv_42_30, zfv_42_31, zf_42_31, zk_43, zn_43, zk_44, zn_44, zk_45, zn_45, zk_46, zn_46, zk_47, zn_47, zk_48, zn_48, zk_49, zn_49, zk_50, zn_50, zk_51, zn_51, zk_52, zn_52, zk_53, zn_53, zk_54, zn_54, zk_55, zn_55, zk_56, zn_56, zk_57, zn_57, zk_58, zn_58, zk_59, zn_59, zk_60, zn_60, zk_61, zn_61, zk_62, zn_62, zk_63, zn_63, zk_64, zn_64, hc, hz, h0, h1, s_failed]
  · have h1 : 0 ≤ M 61 k := by simp only [fa_lt, fa_le, fa_eq, zt_0, zt_1, zt_2, zt_3, zt_4, zt_5, zt_6, zt_7, zt_8, zt_9, zt_10, zt_11, zt_12, zt_13, zt_14, zt_15, zt_16, zt_17, zt_18, zt_19, zt_20, zt_21, zt_22, zt_23, zt_24, zt_25, zt_31, zt_40, zt_48, zt_50, zt_57, zt_59, zt_60, zt_97, zt_98, zt_99, zt_100, zt_112, zt_115, zt_119, zt_120, zt_255, zt_999, zt_m1, zt_m2, zt_m3, zt_m4, zt_m9, zt_m10, zt_m100] at *; omega
    rw [if_neg h0]
    by_cases h2 : M 62 k = lane
    · rw [if_pos h2]
      by_cases h3 : n < 0
      · rw [if_pos h3]
        refine ⟨fun e => absurd e (by decide), fun _ => ?_⟩
        have h3' : ¬ 0 ≤ lg_cmp n 0 := by have := lgc_lt.mpr h3; simp only [fa_lt, fa_le, fa_eq, zt_0, zt_1, zt_2, zt_3, zt_4, zt_5, zt_6, zt_7, zt_8, zt_9, zt_10, zt_11, zt_12, zt_13, zt_14, zt_15, zt_16, zt_17, zt_18, zt_19, zt_20, zt_21, zt_22, zt_23, zt_24, zt_25, zt_31, zt_40, zt_48, zt_50, zt_57, zt_59, zt_60, zt_97, zt_98, zt_99, zt_100, zt_112, zt_115, zt_119, zt_120, zt_255, zt_999, zt_m1, zt_m2, zt_m3, zt_m4, zt_m9, zt_m10, zt_m100] at *; omega
        simp only [q97_0, q97_1, q97_4, q97_5, q97_6, q97_9, q97_10, q97_13, q97_14, q97_15, q97_16, q97_19, q97_20, q97_21, q97_24, q97_25, q97_26, q97_29, q97_30, q97_31, q97_34, q97_35, q97_36, q97_39, q97_40, q97_42, q97_43, q97_44, q97_47, q97_48, q97_49, q97_52, q97_53, q97_54, q97_56, q97_57, q97_60, q97_61, q97_62, q97_65, q97_68, q97_69, q97_70, q97_73, q97_76, q97_77, zNC, zcs_0, zcs_i, zcs_r, zcs_l, zpush_0, zpush_i, zpush_l, and_true, true_and, Nat.reduceLT, Nat.reduceLeDiff, Nat.reduceAdd, Nat.reduceMul, reduceIte, ite_true, ite_false, if_true, if_false, not_true_eq_false, not_false_eq_true, false_implies, true_implies, forall_const, implies_true, imp_self, and_self, false_and, and_false, ne_eq, zk_42, zfv_42_0, zf_42_0, zfv_42_1, zf_42_1, zfv_42_2, zf_42_2, zfv_42_3, zfv_42_4, zfv_42_5, zfv_42_6, zfv_42_7, zfv_42_8, zfv_42_9, zf_42_9, zfv_42_10, zf_42_10, zfv_42_11, zf_42_11, zfv_42_12, zfv_42_13, zfv_42_14, zfv_42_15, zfv_42_16, zfv_42_17, zfv_42_18, zf_42_18, zfv_42_19, zf_42_19, zfv_42_20, zfv_42_21, zfv_42_22, zfv_42_23, zf_42_23, zfv_42_24, zfv_42_25, zfv_42_26, zfv_42_27, zfv_42_28, zfv_42_29, zfv_42_30, zfv_42_31, zf_42_31, zk_43, zn_43, zk_44, zn_44, zk_45, zn_45, zk_46, zn_46, zk_47, zn_47, zk_48, zn_48, zk_49, zn_49, zk_50, zn_50, zk_51, zn_51, zk_52, zn_52, zk_53, zn_53, zk_54, zn_54, zk_55, zn_55, zk_56, zn_56, zk_57, zn_57, zk_58, zn_58, zk_59, zn_59, zk_60, zn_60, zk_61, zn_61, zk_62, zn_62, zk_63, zn_63, zk_64, zn_64, hc, hz, h0, h1, h2, h3', s_failed]
      · rw [if_neg h3]
        have h3' : 0 ≤ lg_cmp n 0 := by have := mt lgc_lt.mp h3; simp only [fa_lt, fa_le, fa_eq, zt_0, zt_1, zt_2, zt_3, zt_4, zt_5, zt_6, zt_7, zt_8, zt_9, zt_10, zt_11, zt_12, zt_13, zt_14, zt_15, zt_16, zt_17, zt_18, zt_19, zt_20, zt_21, zt_22, zt_23, zt_24, zt_25, zt_31, zt_40, zt_48, zt_50, zt_57, zt_59, zt_60, zt_97, zt_98, zt_99, zt_100, zt_112, zt_115, zt_119, zt_120, zt_255, zt_999, zt_m1, zt_m2, zt_m3, zt_m4, zt_m9, zt_m10, zt_m100] at *; omega
        by_cases h4 : fbey i n (M 61 k)
        · rw [if_pos h4]
          refine ⟨fun e => absurd e (by decide), fun _ => ?_⟩
          have e1 : ∀ (v : Value) (Q' : zR → zM → Prop), _ := fun v Q' => s_isBeyond_t (M := M) (Q := Q') (v := v) h4
          simp only [q97_0, q97_1, q97_4, q97_5, q97_6, q97_9, q97_10, q97_13, q97_14, q97_15, q97_16, q97_19, q97_20, q97_21, q97_24, q97_25, q97_26, q97_29, q97_30, q97_31, q97_34, q97_35, q97_36, q97_39, q97_40, q97_42, q97_43, q97_44, q97_47, q97_48, q97_49, q97_52, q97_53, q97_54, q97_56, q97_57, q97_60, q97_61, q97_62, q97_65, q97_68, q97_69, q97_70, q97_73, q97_76, q97_77, zNC, zcs_0, zcs_i, zcs_r, zcs_l, zpush_0, zpush_i, zpush_l, and_true, true_and, Nat.reduceLT, Nat.reduceLeDiff, Nat.reduceAdd, Nat.reduceMul, reduceIte, ite_true, ite_false, if_true, if_false, not_true_eq_false, not_false_eq_true, false_implies, true_implies, forall_const, implies_true, imp_self, and_self, false_and, and_false, ne_eq, zk_42, zfv_42_0, zf_42_0, zfv_42_1, zf_42_1, zfv_42_2, zf_42_2, zfv_42_3, zfv_42_4, zfv_42_5, zfv_42_6, zfv_42_7, zfv_42_8, zfv_42_9, zf_42_9, zfv_42_10, zf_42_10, zfv_42_11, zf_42_11, zfv_42_12, zfv_42_13, zfv_42_14, zfv_42_15, zfv_42_16, zfv_42_17, zfv_42_18, zf_42_18, zfv_42_19, zf_42_19, zfv_42_20, zfv_42_21, zfv_42_22, zfv_42_23, zf_42_23, zfv_42_24, zfv_42_25, zfv_42_26, zfv_42_27, zfv_42_28, zfv_42_29, zfv_42_30, zfv_42_31, zf_42_31, zk_43, zn_43, zk_44, zn_44, zk_45, zn_45, zk_46, zn_46, zk_47, zn_47, zk_48, zn_48, zk_49, zn_49, zk_50, zn_50, zk_51, zn_51, zk_52, zn_52, zk_53, zn_53, zk_54, zn_54, zk_55, zn_55, zk_56, zn_56, zk_57, zn_57, zk_58, zn_58, zk_59, zn_59, zk_60, zn_60, zk_61, zn_61, zk_62, zn_62, zk_63, zn_63, zk_64, zn_64, hc, hz, h0, h1, h2, h3', e1, s_failed]
          simp
        · rw [if_neg h4]
          refine ⟨fun _ => ?_, fun e => absurd rfl e⟩
          have e1 : ∀ (v : Value) (Q' : zR → zM → Prop), _ := fun v Q' => s_isBeyond_f (M := M) (Q := Q') (v := v) h4
          simp only [q97_0, q97_1, q97_4, q97_5, q97_6, q97_9, q97_10, q97_13, q97_14, q97_15, q97_16, q97_19, q97_20, q97_21, q97_24, q97_25, q97_26, q97_29, q97_30, q97_31, q97_34, q97_35, q97_36, q97_39, q97_40, q97_42, q97_43, q97_44, q97_47, q97_48, q97_49, q97_52, q97_53, q97_54, q97_56, q97_57, q97_60, q97_61, q97_62, q97_65, q97_68, q97_69, q97_70, q97_73, q97_76, q97_77, zNC, zcs_0, zcs_i, zcs_r, zcs_l, zpush_0, zpush_i, zpush_l, and_true, true_and, Nat.reduceLT, Nat.reduceLeDiff, Nat.reduceAdd, Nat.reduceMul, reduceIte, ite_true, ite_false, if_true, if_false, not_true_eq_false, not_false_eq_true, false_implies, true_implies, forall_const, implies_true, imp_self, and_self, false_and, and_false, ne_eq, zk_42, zfv_42_0, zf_42_0, zfv_42_1, zf_42_1, zfv_42_2, zf_42_2, zfv_42_3, zfv_42_4, zfv_42_5, zfv_42_6, zfv_42_7, zfv_42_8, zfv_42_9, zf_42_9, zfv_42_10, zf_42_10, zfv_42_11, zf_42_11, zfv_42_12, zfv_42_13, zfv_42_14, zfv_42_15, zfv_42_16, zfv_42_17, zfv_42_18, zf_42_18, zfv_42_19, zf_42_19, zfv_42_20, zfv_42_21, zfv_42_22, zfv_42_23, zf_42_23, zfv_42_24, zfv_42_25, zfv_42_26, zfv_42_27, zfv_42_28, zfv_42_29, zfv_42_30, zfv_42_31, zf_42_31, zk_43, zn_43, zk_44, zn_44, zk_45, zn_45, zk_46, zn_46, zk_47, zn_47, zk_48, zn_48, zk_49, zn_49, zk_50, zn_50, zk_51, zn_51, zk_52, zn_52, zk_53, zn_53, zk_54, zn_54, zk_55, zn_55, zk_56, zn_56, zk_57, zn_57, zk_58, zn_58, zk_59, zn_59, zk_60, zn_60, zk_61, zn_61, zk_62, zn_62, zk_63, zn_63, zk_64, zn_64, hc, hz, h0, h1, h2, h3', e1]
    · rw [if_neg h2]
      refine ⟨fun e => absurd e (by decide), fun _ => ?_⟩
      simp only [q97_0, q97_1, q97_4, q97_5, q97_6, q97_9, q97_10, q97_13, q97_14, q97_15, q97_16, q97_19, q97_20, q97_21, q97_24, q97_25, q97_26, q97_29, q97_30, q97_31, q97_34, q97_35, q97_36, q97_39, q97_40, q97_42, q97_43, q97_44, q97_47, q97_48, q97_49, q97_52, q97_53, q97_54, q97_56, q97_57, q97_60, q97_61, q97_62, q97_65, q97_68, q97_69, q97_70, q97_73, q97_76, q97_77, zNC, zcs_0, zcs_i, zcs_r, zcs_l, zpush_0, zpush_i, zpush_l, and_true, true_and, Nat.reduceLT, Nat.reduceLeDiff, Nat.reduceAdd, Nat.reduceMul, reduceIte, ite_true, ite_false, if_true, if_false, not_true_eq_false, not_false_eq_true, false_implies, true_implies, forall_const, implies_true, imp_self, and_self, false_and, and_false, ne_eq, zk_42, zfv_42_0, zf_42_0, zfv_42_1, zf_42_1, zfv_42_2, zf_42_2, zfv_42_3, zfv_42_4, zfv_42_5, zfv_42_6, zfv_42_7, zfv_42_8, zfv_42_9, zf_42_9, zfv_42_10, zf_42_10, zfv_42_11, zf_42_11, zfv_42_12, zfv_42_13, zfv_42_14, zfv_42_15, zfv_42_16, zfv_42_17, zfv_42_18, zf_42_18, zfv_42_19, zf_42_19, zfv_42_20, zfv_42_21, zfv_42_22, zfv_42_23, zf_42_23, zfv_42_24, zfv_42_25, zfv_42_26, zfv_42_27, zfv_42_28, zfv_42_29, zfv_42_30, zfv_42_31, zf_42_31, zk_43, zn_43, zk_44, zn_44, zk_45, zn_45, zk_46, zn_46, zk_47, zn_47, zk_48, zn_48, zk_49, zn_49, zk_50, zn_50, zk_51, zn_51, zk_52, zn_52, zk_53, zn_53, zk_54, zn_54, zk_55, zn_55, zk_56, zn_56, zk_57, zn_57, zk_58, zn_58, zk_59, zn_59, zk_60, zn_60, zk_61, zn_61, zk_62, zn_62, zk_63, zn_63, zk_64, zn_64, hc, hz, h0, h1, h2, s_failed]
theorem cells_iff {i m : Int32} {n : Nat} (hn : n ≤ 60) (hm : ¬ m < 0) : (0 ≤ i ∧ i ≤ nI n ∧ m ≤ nI n - i) ↔ ¬ fbey i m.toInt64 (nI n) := by
  have en : (nI n).toInt = n := nI_toInt (by omega)
  have b1 := Int32.toInt_lt i
  have b2 := Int32.le_toInt i
  have b3 := Int32.toInt_lt m
  have b4 := Int32.le_toInt m
  have e64 : (i.toInt64 + m.toInt64).toInt = i.toInt + m.toInt := by
    rw [Int64.toInt_add, Int32.toInt_toInt64, Int32.toInt_toInt64, Int.bmod_eq_of_le (by omega) (by omega)]
  have z64 : (0 : Int64).toInt = 0 := by decide
  unfold fbey
  rw [fa_lt64, fa_lt64, e64, Int32.toInt_toInt64, Int32.toInt_toInt64, z64, en]
  simp only [fa_le, fa_lt, zt_0, en] at hm ⊢
  constructor
  · rintro ⟨h1, h2, h3⟩
    have e32 : (nI n - i).toInt = n - i.toInt := by
      rw [Int32.toInt_sub, en, Int.bmod_eq_of_le (by omega) (by omega)]
    rw [e32] at h3
    omega
  · intro h
    have h1 : 0 ≤ i.toInt := by omega
    have h2 : i.toInt ≤ n := by omega
    have e32 : (nI n - i).toInt = n - i.toInt := by
      rw [Int32.toInt_sub, en, Int.bmod_eq_of_le (by omega) (by omega)]
    rw [e32]
    omega
theorem code_eq (S : JS M k) {lane i m : Int32} : ffc M (34 + 2 * k) lane i m = fcb M k lane i m.toInt64 := by
  unfold ffc fcb
  rcases S with ⟨h0, hs⟩ | ⟨h0, n, l, hn, hll, s3, s61, s2, s62, -⟩
  · rw [if_pos h0, hs, if_pos (by decide)]
  · rw [if_neg (by rw [h0]; decide), s2, s61, s62, s3, if_neg (nI_pos (by omega))]
    by_cases e : nI l = lane
    · rw [if_pos e, if_pos e]
      by_cases hm : m < 0
      · rw [if_pos hm, if_pos (show m.toInt64 < 0 from (fa_wide_lt m 0).mpr hm)]
      · rw [if_neg hm, if_neg (show ¬ m.toInt64 < 0 from fun h => hm ((fa_wide_lt m 0).mp h))]
        by_cases hb : fbey i m.toInt64 (nI n)
        · rw [if_pos hb, if_neg (fun h => (cells_iff hn hm).mp h hb)]
        · rw [if_neg hb, if_pos ((cells_iff hn hm).mpr hb)]
    · rw [if_neg e, if_neg e]
/-- no fault: where the cells lie -/
theorem code_0 (S : JS M k) {lane i m : Int32} (e : fcb M k lane i m.toInt64 = 0) : ∃ a b, i = nI a ∧ m = nI b ∧ a + b ≤ 60 ∧ ∀ j, j < b → M (34 + 2 * k + 1) (a + j) = M 63 (60 * k + (a + j)) := by
  rw [← code_eq S] at e
  unfold ffc at e
  rcases S with ⟨h0, hs⟩ | ⟨h0, n, l, hn, hll, s3, s61, s2, s62, hcel⟩
  · rw [if_pos h0] at e; exact absurd e (by decide)
  · rw [if_neg (by rw [h0]; decide)] at e
    split at e
    · split at e
      · exact absurd e (by decide)
      · rename_i hm
        split at e
        · rename_i hb
          rw [s3] at hb
          obtain ⟨a, ha, rfl⟩ := nI_of (x := i) (by have := hb.1; simp only [fa_lt, fa_le, fa_eq, zt_0, zt_1, zt_2, zt_3, zt_4, zt_5, zt_6, zt_7, zt_8, zt_9, zt_10, zt_11, zt_12, zt_13, zt_14, zt_15, zt_16, zt_17, zt_18, zt_19, zt_20, zt_21, zt_22, zt_23, zt_24, zt_25, zt_31, zt_40, zt_48, zt_50, zt_57, zt_59, zt_60, zt_97, zt_98, zt_99, zt_100, zt_112, zt_115, zt_119, zt_120, zt_255, zt_999, zt_m1, zt_m2, zt_m3, zt_m4, zt_m9, zt_m10, zt_m100] at *; omega)
          obtain ⟨b, hb2, rfl⟩ := nI_of (x := m) hm
          have h1 := (nI_leI ha (by omega)).mp hb.2.1
          have h2 := hb.2.2
          rw [pk_sub h1] at h2
          have h3 := (nI_leI hb2 (by omega)).mp h2
          exact ⟨a, b, rfl, rfl, by omega, fun j hj => hcel (a + j) (by omega)⟩
        · exact absurd e (by decide)
    · exact absurd e (by decide)
theorem l_runsAs (ht : zTn t) (hs : zSh c) (h6 : h ≤ 6) (H : zKp M t h) (hk : k < h) (hab : a + b ≤ 60) : ∀ d j, j + d = b → (∀ z, z < j → M (c + 1) (a + z) = fsbk M t k (nI z)) → (zQ 37 3 [.ref t, .int (nI k), .ref c, .int (nI a), .int (nI b), .int (nI j)] [] M Q ↔ Q (zI (zbp (∀ z, z < b → M (c + 1) (a + z) = fsbk M t k (nI z)))) M) := by
  intro d
  induction d with
  | zero =>
    intro j hj hok
    obtain rfl : j = b := by omega
    rw [q37_3, zbp_t hok]
    simp only [q37_0, q37_1i, q37_1r, q37_1n, q37_5, q37_7, q37_10, q37_11, q37_14, q37_15, q37_17, q37_18, q37_19, q37_20, q37_21, q37_23, q37_26, q37_29, q37_30, q37_31i, q37_31r, q37_31n, q37_34, q37_37, q37_38, zNC, zcs_0, zcs_i, zcs_r, zcs_l, zpush_0, zpush_i, zpush_l, and_true, true_and, Nat.reduceLT, Nat.reduceLeDiff, Nat.reduceAdd, Nat.reduceMul, reduceIte, ite_true, ite_false, if_true, if_false, not_true_eq_false, not_false_eq_true, false_implies, true_implies, forall_const, implies_true, imp_self, and_self, false_and, and_false, ne_eq, i_le_refl]
    simp
  | succ d ih =>
    intro j hj hok
    have htk : t < 65 ∧ zk t = 4 := by rcases ht with rfl | rfl | rfl <;> decide
    have h1 : ¬ nI b ≤ nI j := nI_ge (by omega) (by omega)
    have e6 : nI a + nI j = nI (a + j) := nI_add a j
    have hc : (nI (a + j)).toNatClampNeg = a + j := nI_clamp (by omega)
    have hz := zin_nI (k := a + j) (n := 60) (by omega) (by decide)
    have e3 : ∀ Q' : zR → zM → Prop, _ := fun Q' => s_sb (M := M) (Q := Q') ht h6 H hk (y := nI j)
    rw [q37_3]
    by_cases hp : M (c + 1) (a + j) = fsbk M t k (nI j)
    · have ih' := ih (j + 1) (by omega) (lt_s hok hp)
      rw [← ih']
      rcases hs with rfl | rfl | rfl | rfl <;> simp only [Nat.reduceAdd] at hp <;> simp only [q37_0, q37_1i, q37_1r, q37_1n, q37_5, q37_7, q37_10, q37_11, q37_14, q37_15, q37_17, q37_18, q37_19, q37_20, q37_21, q37_23, q37_26, q37_29, q37_30, q37_31i, q37_31r, q37_31n, q37_34, q37_37, q37_38, zNC, zcs_0, zcs_i, zcs_r, zcs_l, zpush_0, zpush_i, zpush_l, and_true, true_and, Nat.reduceLT, Nat.reduceLeDiff, Nat.reduceAdd, Nat.reduceMul, reduceIte, ite_true, ite_false, if_true, if_false, not_true_eq_false, not_false_eq_true, false_implies, true_implies, forall_const, implies_true, imp_self, and_self, false_and, and_false, ne_eq, zk_0, zfv_0_0, zfv_0_1, zfv_0_2, zfv_0_3, zfv_0_4, zfv_0_5, zfv_0_6, zf_0_6, zfv_0_7, zf_0_7, zk_25, zfv_25_0, zfv_25_1, zfv_25_2, zf_25_2, zk_26, zn_26, zk_27, zfv_27_0, zk_28, zn_28, zk_29, zfv_29_0, zfv_29_1, zfv_29_2, zfv_29_3, zf_29_3, zk_30, zn_30, zk_31, zn_31, zk_32, zn_32, zk_33, zn_33, zk_34, zfv_34_0, zfv_34_1, zf_34_1, zfv_34_2, zf_34_2, zfv_34_3, zf_34_3, zk_35, zn_35, zk_36, zfv_36_0, zfv_36_1, zf_36_1, zfv_36_2, zf_36_2, zfv_36_3, zf_36_3, zk_37, zn_37, zk_38, zfv_38_0, zfv_38_1, zf_38_1, zfv_38_2, zf_38_2, zfv_38_3, zf_38_3, zk_39, zn_39, zk_40, zfv_40_0, zfv_40_1, zf_40_1, zfv_40_2, zf_40_2, zfv_40_3, zf_40_3, zk_41, zn_41, htk, h1, e6, hc, hz, e3, hp, nI_1]
    · rw [zbp_f (fun hh => hp (hh j (by omega)))]
      rcases hs with rfl | rfl | rfl | rfl <;> simp only [Nat.reduceAdd] at hp <;> simp only [q37_0, q37_1i, q37_1r, q37_1n, q37_5, q37_7, q37_10, q37_11, q37_14, q37_15, q37_17, q37_18, q37_19, q37_20, q37_21, q37_23, q37_26, q37_29, q37_30, q37_31i, q37_31r, q37_31n, q37_34, q37_37, q37_38, zNC, zcs_0, zcs_i, zcs_r, zcs_l, zpush_0, zpush_i, zpush_l, and_true, true_and, Nat.reduceLT, Nat.reduceLeDiff, Nat.reduceAdd, Nat.reduceMul, reduceIte, ite_true, ite_false, if_true, if_false, not_true_eq_false, not_false_eq_true, false_implies, true_implies, forall_const, implies_true, imp_self, and_self, false_and, and_false, ne_eq, zk_0, zfv_0_0, zfv_0_1, zfv_0_2, zfv_0_3, zfv_0_4, zfv_0_5, zfv_0_6, zf_0_6, zfv_0_7, zf_0_7, zk_25, zfv_25_0, zfv_25_1, zfv_25_2, zf_25_2, zk_26, zn_26, zk_27, zfv_27_0, zk_28, zn_28, zk_29, zfv_29_0, zfv_29_1, zfv_29_2, zfv_29_3, zf_29_3, zk_30, zn_30, zk_31, zn_31, zk_32, zn_32, zk_33, zn_33, zk_34, zfv_34_0, zfv_34_1, zf_34_1, zfv_34_2, zf_34_2, zfv_34_3, zf_34_3, zk_35, zn_35, zk_36, zfv_36_0, zfv_36_1, zf_36_1, zfv_36_2, zf_36_2, zfv_36_3, zf_36_3, zk_37, zn_37, zk_38, zfv_38_0, zfv_38_1, zf_38_1, zfv_38_2, zf_38_2, zfv_38_3, zf_38_3, zk_39, zn_39, zk_40, zfv_40_0, zfv_40_1, zf_40_1, zfv_40_2, zf_40_2, zfv_40_3, zf_40_3, zk_41, zn_41, htk, h1, e6, hc, hz, e3, hp] <;> simp
theorem s_runsAs (ht : zTn t) (hs : zSh c) (h6 : h ≤ 6) (H : zKp M t h) (hk : k < h) (hab : a + b ≤ 60) : zQ 37 0 [.ref t, .int (nI k), .ref c, .int (nI a), .int (nI b), .null] [] M Q ↔ Q (zI (zbp (∀ z, z < b → M (c + 1) (a + z) = fsbk M t k (nI z)))) M := by
  have e := l_runsAs (Q := Q) ht hs h6 H hk hab b 0 (by omega) (fun _ h => absurd h (Nat.not_lt_zero _))
  rw [← e]
  simp only [q37_0, q37_1i, q37_1r, q37_1n, q37_5, q37_7, q37_10, q37_11, q37_14, q37_15, q37_17, q37_18, q37_19, q37_20, q37_21, q37_23, q37_26, q37_29, q37_30, q37_31i, q37_31r, q37_31n, q37_34, q37_37, q37_38, nI_0]
end IV
