section MO
variable {M : zM} {Q : zR → zM → Prop} {t k h g o c p : Nat}
def fmbit (M : zM) (k : Nat) : Prop := (M 42 9 >>> (nI k &&& 31)) &&& 1 = 1
def fmok (M : zM) (k : Nat) (a : Int32) : Prop := 0 < M 44 k ∧ 0 < M 44 (fmk M k) ∧ ¬ fmbit M (fmk M k) ∧ (fmbit M k ↔ a = 1)
def fmlaid (M : zM) (k : Nat) (a : Int32) : Int32 := if a = 0 then M 42 9 ||| (1 <<< (nI k &&& 31)) else if a = 1 then M 42 9 &&& ((1 <<< (nI k &&& 31)) ^^^ -1) else M 42 9
def fmsand (M : zM) (k : Nat) (a : Int32) : Int32 := if a = 2 then M 45 k - M 44 k else M 44 k
theorem s_can (hk : k < 6) (hg : fmk M k < 6) (hgk : M 48 k = nI (fmk M k)) {a : Int32} : zQ 108 0 [.ref 42, .int (nI k), .int a, .null, .null] [] M Q ↔ Q (zI (zbp (fmok M k a))) M := by
  have hc : (nI k).toNatClampNeg = k := nI_clamp (by omega)
  have hz := zin_nI (n := 6) hk (by decide)
  have key : ∀ (p1 p2 p3 : Prop), True := fun _ _ _ => trivial
  by_cases p1 : 0 < M 44 k
  · by_cases p2 : 0 < M 44 (fmk M k)
    · by_cases p3 : fmbit M (fmk M k)
      · rw [zbp_f (fun h => h.2.2.1 p3)]
        unfold fmbit at p3
        generalize fmk M k = g at *
        simp only [q108_0, q108_1, q108_4, q108_5, q108_8i, q108_8r, q108_8n, q108_9, q108_10, q108_13, q108_14, q108_15i, q108_15r, q108_15n, q108_17, q108_18, q108_19, q108_22, q108_25, q108_26, q108_28, q108_31, q108_34, q108_35, q108_38, q108_40, q108_43, q108_46, q108_47, q108_48, q108_49, q108_52, q108_53, q108_56, q108_57, q108_60, q108_61, q108_64, q108_65, zNC, zcs_0, zcs_i, zcs_r, zcs_l, zpush_0, zpush_i, zpush_l, and_true, true_and, Nat.reduceLT, Nat.reduceLeDiff, Nat.reduceAdd, Nat.reduceMul, reduceIte, ite_true, ite_false, if_true, if_false, not_true_eq_false, not_false_eq_true, false_implies, true_implies, forall_const, implies_true, imp_self, and_self, false_and, and_false, ne_eq, zk_42, zfv_42_0, zf_42_0, zfv_42_1, zf_42_1, zfv_42_2, zf_42_2, zfv_42_3, zfv_42_4, zfv_42_5, zfv_42_6, zfv_42_7, zfv_42_8, zfv_42_9, zf_42_9, zfv_42_10, zf_42_10, zfv_42_11, zf_42_11, zfv_42_12, zfv_42_13, zfv_42_14, zfv_42_15, zfv_42_16, zfv_42_17, zfv_42_18, zf_42_18, zfv_42_19, zf_42_19, zfv_42_20, zfv_42_21, zfv_42_22, zfv_42_23, zf_42_23, zfv_42_24, zfv_42_25, zfv_42_26, zfv_42_27, zfv_42_28, zfv_42_29, zfv_42_30, zfv_42_31, zf_42_31, zk_43, zn_43, zk_44, zn_44, zk_45, zn_45, zk_46, zn_46, zk_47, zn_47, zk_48, zn_48, zk_49, zn_49, zk_50, zn_50, zk_51, zn_51, zk_52, zn_52, zk_53, zn_53, zk_54, zn_54, zk_55, zn_55, zk_56, zn_56, zk_57, zn_57, zk_58, zn_58, zk_59, zn_59, zk_60, zn_60, zk_61, zn_61, zk_62, zn_62, zk_63, zn_63, zk_64, zn_64, hc, hz, hgk, s_isIn, s_mAlive hk, s_mAlive hg, zb1_0, p1, p2, p3]
        simp
      · by_cases p4 : fmbit M k ↔ a = 1
        · rw [zbp_t ⟨p1, p2, p3, p4⟩]
          unfold fmbit at p3 p4
          generalize fmk M k = g at *
          by_cases p5 : a = 1
          · have p6 := p4.mpr p5
            simp only [q108_0, q108_1, q108_4, q108_5, q108_8i, q108_8r, q108_8n, q108_9, q108_10, q108_13, q108_14, q108_15i, q108_15r, q108_15n, q108_17, q108_18, q108_19, q108_22, q108_25, q108_26, q108_28, q108_31, q108_34, q108_35, q108_38, q108_40, q108_43, q108_46, q108_47, q108_48, q108_49, q108_52, q108_53, q108_56, q108_57, q108_60, q108_61, q108_64, q108_65, zNC, zcs_0, zcs_i, zcs_r, zcs_l, zpush_0, zpush_i, zpush_l, and_true, true_and, Nat.reduceLT, Nat.reduceLeDiff, Nat.reduceAdd, Nat.reduceMul, reduceIte, ite_true, ite_false, if_true, if_false, not_true_eq_false, not_false_eq_true, false_implies, true_implies, forall_const, implies_true, imp_self, and_self, false_and, and_false, ne_eq, zk_42, zfv_42_0, zf_42_0, zfv_42_1, zf_42_1, zfv_42_2, zf_42_2, zfv_42_3, zfv_42_4, zfv_42_5, zfv_42_6, zfv_42_7, zfv_42_8, zfv_42_9, zf_42_9, zfv_42_10, zf_42_10, zfv_42_11, zf_42_11, zfv_42_12, zfv_42_13, zfv_42_14, zfv_42_15, zfv_42_16, zfv_42_17, zfv_42_18, zf_42_18, zfv_42_19, zf_42_19, zfv_42_20, zfv_42_21, zfv_42_22, zfv_42_23, zf_42_23, zfv_42_24, zfv_42_25, zfv_42_26, zfv_42_27, zfv_42_28, zfv_42_29, zfv_42_30, zfv_42_31, zf_42_31, zk_43, zn_43, zk_44, zn_44, zk_45, zn_45, zk_46, zn_46, zk_47, zn_47, zk_48, zn_48, zk_49, zn_49, zk_50, zn_50, zk_51, zn_51, zk_52, zn_52, zk_53, zn_53, zk_54, zn_54, zk_55, zn_55, zk_56, zn_56, zk_57, zn_57, zk_58, zn_58, zk_59, zn_59, zk_60, zn_60, zk_61, zn_61, zk_62, zn_62, zk_63, zn_63, zk_64, zn_64, hc, hz, hgk, s_isIn, s_mAlive hk, s_mAlive hg, zb1_0, zb1_t p6, p1, p2, p3, p5]
            simp
          · have p6 := fun h => p5 (p4.mp h)
            simp only [q108_0, q108_1, q108_4, q108_5, q108_8i, q108_8r, q108_8n, q108_9, q108_10, q108_13, q108_14, q108_15i, q108_15r, q108_15n, q108_17, q108_18, q108_19, q108_22, q108_25, q108_26, q108_28, q108_31, q108_34, q108_35, q108_38, q108_40, q108_43, q108_46, q108_47, q108_48, q108_49, q108_52, q108_53, q108_56, q108_57, q108_60, q108_61, q108_64, q108_65, zNC, zcs_0, zcs_i, zcs_r, zcs_l, zpush_0, zpush_i, zpush_l, and_true, true_and, Nat.reduceLT, Nat.reduceLeDiff, Nat.reduceAdd, Nat.reduceMul, reduceIte, ite_true, ite_false, if_true, if_false, not_true_eq_false, not_false_eq_true, false_implies, true_implies, forall_const, implies_true, imp_self, and_self, false_and, and_false, ne_eq, zk_42, zfv_42_0, zf_42_0, zfv_42_1, zf_42_1, zfv_42_2, zf_42_2, zfv_42_3, zfv_42_4, zfv_42_5, zfv_42_6, zfv_42_7, zfv_42_8, zfv_42_9, zf_42_9, zfv_42_10, zf_42_10, zfv_42_11, zf_42_11, zfv_42_12, zfv_42_13, zfv_42_14, zfv_42_15, zfv_42_16, zfv_42_17, zfv_42_18, zf_42_18, zfv_42_19, zf_42_19, zfv_42_20, zfv_42_21, zfv_42_22, zfv_42_23, zf_42_23, zfv_42_24, zfv_42_25, zfv_42_26, zfv_42_27, zfv_42_28, zfv_42_29, zfv_42_30, zfv_42_31, zf_42_31, zk_43, zn_43, zk_44, zn_44, zk_45, zn_45, zk_46, zn_46, zk_47, zn_47, zk_48, zn_48, zk_49, zn_49, zk_50, zn_50, zk_51, zn_51, zk_52, zn_52, zk_53, zn_53, zk_54, zn_54, zk_55, zn_55, zk_56, zn_56, zk_57, zn_57, zk_58, zn_58, zk_59, zn_59, zk_60, zn_60, zk_61, zn_61, zk_62, zn_62, zk_63, zn_63, zk_64, zn_64, hc, hz, hgk, s_isIn, s_mAlive hk, s_mAlive hg, zb1_0, zb1_f p6, p1, p2, p3, p5]
            simp
        · rw [zbp_f (fun h => p4 h.2.2.2)]
          unfold fmbit at p3 p4
          generalize fmk M k = g at *
          by_cases p5 : a = 1
          · have p6 : ¬ (M 42 9 >>> (nI k &&& 31)) &&& 1 = 1 := fun h => p4 ⟨fun _ => p5, fun _ => h⟩
            simp only [q108_0, q108_1, q108_4, q108_5, q108_8i, q108_8r, q108_8n, q108_9, q108_10, q108_13, q108_14, q108_15i, q108_15r, q108_15n, q108_17, q108_18, q108_19, q108_22, q108_25, q108_26, q108_28, q108_31, q108_34, q108_35, q108_38, q108_40, q108_43, q108_46, q108_47, q108_48, q108_49, q108_52, q108_53, q108_56, q108_57, q108_60, q108_61, q108_64, q108_65, zNC, zcs_0, zcs_i, zcs_r, zcs_l, zpush_0, zpush_i, zpush_l, and_true, true_and, Nat.reduceLT, Nat.reduceLeDiff, Nat.reduceAdd, Nat.reduceMul, reduceIte, ite_true, ite_false, if_true, if_false, not_true_eq_false, not_false_eq_true, false_implies, true_implies, forall_const, implies_true, imp_self, and_self, false_and, and_false, ne_eq, zk_42, zfv_42_0, zf_42_0, zfv_42_1, zf_42_1, zfv_42_2, zf_42_2, zfv_42_3, zfv_42_4, zfv_42_5, zfv_42_6, zfv_42_7, zfv_42_8, zfv_42_9, zf_42_9, zfv_42_10, zf_42_10, zfv_42_11, zf_42_11, zfv_42_12, zfv_42_13, zfv_42_14, zfv_42_15, zfv_42_16, zfv_42_17, zfv_42_18, zf_42_18, zfv_42_19, zf_42_19, zfv_42_20, zfv_42_21, zfv_42_22, zfv_42_23, zf_42_23, zfv_42_24, zfv_42_25, zfv_42_26, zfv_42_27, zfv_42_28, zfv_42_29, zfv_42_30, zfv_42_31, zf_42_31, zk_43, zn_43, zk_44, zn_44, zk_45, zn_45, zk_46, zn_46, zk_47, zn_47, zk_48, zn_48, zk_49, zn_49, zk_50, zn_50, zk_51, zn_51, zk_52, zn_52, zk_53, zn_53, zk_54, zn_54, zk_55, zn_55, zk_56, zn_56, zk_57, zn_57, zk_58, zn_58, zk_59, zn_59, zk_60, zn_60, zk_61, zn_61, zk_62, zn_62, zk_63, zn_63, zk_64, zn_64, hc, hz, hgk, s_isIn, s_mAlive hk, s_mAlive hg, zb1_0, zb1_f p6, p1, p2, p3, p5]
            simp
          · have p6 : (M 42 9 >>> (nI k &&& 31)) &&& 1 = 1 := by
              by_cases h : (M 42 9 >>> (nI k &&& 31)) &&& 1 = 1
              · exact h
              · exact absurd ⟨fun h2 => absurd h2 h, fun h2 => absurd h2 p5⟩ p4
            simp only [q108_0, q108_1, q108_4, q108_5, q108_8i, q108_8r, q108_8n, q108_9, q108_10, q108_13, q108_14, q108_15i, q108_15r, q108_15n, q108_17, q108_18, q108_19, q108_22, q108_25, q108_26, q108_28, q108_31, q108_34, q108_35, q108_38, q108_40, q108_43, q108_46, q108_47, q108_48, q108_49, q108_52, q108_53, q108_56, q108_57, q108_60, q108_61, q108_64, q108_65, zNC, zcs_0, zcs_i, zcs_r, zcs_l, zpush_0, zpush_i, zpush_l, and_true, true_and, Nat.reduceLT, Nat.reduceLeDiff, Nat.reduceAdd, Nat.reduceMul, reduceIte, ite_true, ite_false, if_true, if_false, not_true_eq_false, not_false_eq_true, false_implies, true_implies, forall_const, implies_true, imp_self, and_self, false_and, and_false, ne_eq, zk_42, zfv_42_0, zf_42_0, zfv_42_1, zf_42_1, zfv_42_2, zf_42_2, zfv_42_3, zfv_42_4, zfv_42_5, zfv_42_6, zfv_42_7, zfv_42_8, zfv_42_9, zf_42_9, zfv_42_10, zf_42_10, zfv_42_11, zf_42_11, zfv_42_12, zfv_42_13, zfv_42_14, zfv_42_15, zfv_42_16, zfv_42_17, zfv_42_18, zf_42_18, zfv_42_19, zf_42_19, zfv_42_20, zfv_42_21, zfv_42_22, zfv_42_23, zf_42_23, zfv_42_24, zfv_42_25, zfv_42_26, zfv_42_27, zfv_42_28, zfv_42_29, zfv_42_30, zfv_42_31, zf_42_31, zk_43, zn_43, zk_44, zn_44, zk_45, zn_45, zk_46, zn_46, zk_47, zn_47, zk_48, zn_48, zk_49, zn_49, zk_50, zn_50, zk_51, zn_51, zk_52, zn_52, zk_53, zn_53, zk_54, zn_54, zk_55, zn_55, zk_56, zn_56, zk_57, zn_57, zk_58, zn_58, zk_59, zn_59, zk_60, zn_60, zk_61, zn_61, zk_62, zn_62, zk_63, zn_63, zk_64, zn_64, hc, hz, hgk, s_isIn, s_mAlive hk, s_mAlive hg, zb1_0, zb1_t p6, p1, p2, p3, p5]
            simp
    · rw [zbp_f (fun h => p2 h.2.1)]
      generalize fmk M k = g at *
      simp only [q108_0, q108_1, q108_4, q108_5, q108_8i, q108_8r, q108_8n, q108_9, q108_10, q108_13, q108_14, q108_15i, q108_15r, q108_15n, q108_17, q108_18, q108_19, q108_22, q108_25, q108_26, q108_28, q108_31, q108_34, q108_35, q108_38, q108_40, q108_43, q108_46, q108_47, q108_48, q108_49, q108_52, q108_53, q108_56, q108_57, q108_60, q108_61, q108_64, q108_65, zNC, zcs_0, zcs_i, zcs_r, zcs_l, zpush_0, zpush_i, zpush_l, and_true, true_and, Nat.reduceLT, Nat.reduceLeDiff, Nat.reduceAdd, Nat.reduceMul, reduceIte, ite_true, ite_false, if_true, if_false, not_true_eq_false, not_false_eq_true, false_implies, true_implies, forall_const, implies_true, imp_self, and_self, false_and, and_false, ne_eq, zk_42, zfv_42_0, zf_42_0, zfv_42_1, zf_42_1, zfv_42_2, zf_42_2, zfv_42_3, zfv_42_4, zfv_42_5, zfv_42_6, zfv_42_7, zfv_42_8, zfv_42_9, zf_42_9, zfv_42_10, zf_42_10, zfv_42_11, zf_42_11, zfv_42_12, zfv_42_13, zfv_42_14, zfv_42_15, zfv_42_16, zfv_42_17, zfv_42_18, zf_42_18, zfv_42_19, zf_42_19, zfv_42_20, zfv_42_21, zfv_42_22, zfv_42_23, zf_42_23, zfv_42_24, zfv_42_25, zfv_42_26, zfv_42_27, zfv_42_28, zfv_42_29, zfv_42_30, zfv_42_31, zf_42_31, zk_43, zn_43, zk_44, zn_44, zk_45, zn_45, zk_46, zn_46, zk_47, zn_47, zk_48, zn_48, zk_49, zn_49, zk_50, zn_50, zk_51, zn_51, zk_52, zn_52, zk_53, zn_53, zk_54, zn_54, zk_55, zn_55, zk_56, zn_56, zk_57, zn_57, zk_58, zn_58, zk_59, zn_59, zk_60, zn_60, zk_61, zn_61, zk_62, zn_62, zk_63, zn_63, zk_64, zn_64, hc, hz, hgk, s_isIn, s_mAlive hk, s_mAlive hg, zb1_0, p1, p2]
      simp
  · rw [zbp_f (fun h => p1 h.1)]
    generalize fmk M k = g at *
    simp only [q108_0, q108_1, q108_4, q108_5, q108_8i, q108_8r, q108_8n, q108_9, q108_10, q108_13, q108_14, q108_15i, q108_15r, q108_15n, q108_17, q108_18, q108_19, q108_22, q108_25, q108_26, q108_28, q108_31, q108_34, q108_35, q108_38, q108_40, q108_43, q108_46, q108_47, q108_48, q108_49, q108_52, q108_53, q108_56, q108_57, q108_60, q108_61, q108_64, q108_65, zNC, zcs_0, zcs_i, zcs_r, zcs_l, zpush_0, zpush_i, zpush_l, and_true, true_and, Nat.reduceLT, Nat.reduceLeDiff, Nat.reduceAdd, Nat.reduceMul, reduceIte, ite_true, ite_false, if_true, if_false, not_true_eq_false, not_false_eq_true, false_implies, true_implies, forall_const, implies_true, imp_self, and_self, false_and, and_false, ne_eq, zk_42, zfv_42_0, zf_42_0, zfv_42_1, zf_42_1, zfv_42_2, zf_42_2, zfv_42_3, zfv_42_4, zfv_42_5, zfv_42_6, zfv_42_7, zfv_42_8, zfv_42_9, zf_42_9, zfv_42_10, zf_42_10, zfv_42_11, zf_42_11, zfv_42_12, zfv_42_13, zfv_42_14, zfv_42_15, zfv_42_16, zfv_42_17, zfv_42_18, zf_42_18, zfv_42_19, zf_42_19, zfv_42_20, zfv_42_21, zfv_42_22, zfv_42_23, zf_42_23, zfv_42_24, zfv_42_25, zfv_42_26, zfv_42_27, zfv_42_28, zfv_42_29, zfv_42_30, zfv_42_31, zf_42_31, zk_43, zn_43, zk_44, zn_44, zk_45, zn_45, zk_46, zn_46, zk_47, zn_47, zk_48, zn_48, zk_49, zn_49, zk_50, zn_50, zk_51, zn_51, zk_52, zn_52, zk_53, zn_53, zk_54, zn_54, zk_55, zn_55, zk_56, zn_56, zk_57, zn_57, zk_58, zn_58, zk_59, zn_59, zk_60, zn_60, zk_61, zn_61, zk_62, zn_62, zk_63, zn_63, zk_64, zn_64, hc, hz, hgk, s_isIn, s_mAlive hk, s_mAlive hg, zb1_0, p1]
    simp
theorem s_done_f (hk : k < 6) (hg : fmk M k < 6) (hgk : M 48 k = nI (fmk M k)) {a : Int32} (hok : ¬ fmok M k a) : zQ 109 0 [.ref 42, .int (nI k), .int a] [] M Q ↔ Q (zI (-3)) M := by
  simp only [q109_0, q109_1, q109_2, q109_3, q109_6, q109_9, q109_11, q109_12, q109_13, q109_14, q109_17, q109_18, q109_21, q109_22, q109_23, q109_24, q109_25, q109_28, q109_29, q109_30, q109_33, q109_34, q109_37, q109_38, q109_39, q109_40, q109_41, q109_42, q109_43, q109_46, q109_47, q109_50, q109_53, q109_54, q109_57, q109_58, q109_59, q109_60, q109_63, q109_64, q109_67, q109_68, q109_69, q109_70, q109_73, q109_74, q109_75, q109_76, q109_79, q109_80, q109_83, q109_84, q109_85, q109_86, q109_87, q109_90, q109_91, q109_92, zNC, zcs_0, zcs_i, zcs_r, zcs_l, zpush_0, zpush_i, zpush_l, and_true, true_and, Nat.reduceLT, Nat.reduceLeDiff, Nat.reduceAdd, Nat.reduceMul, reduceIte, ite_true, ite_false, if_true, if_false, not_true_eq_false, not_false_eq_true, false_implies, true_implies, forall_const, implies_true, imp_self, and_self, false_and, and_false, ne_eq, zk_42, zfv_42_0, zf_42_0, zfv_42_1, zf_42_1, zfv_42_2, zf_42_2, zfv_42_3, zfv_42_4, zfv_42_5, zfv_42_6, zfv_42_7, zfv_42_8, zfv_42_9, zf_42_9, zfv_42_10, zf_42_10, zfv_42_11, zf_42_11, zfv_42_12, zfv_42_13, zfv_42_14, zfv_42_15, zfv_42_16, zfv_42_17, zfv_42_18, zf_42_18, zfv_42_19, zf_42_19, zfv_42_20, zfv_42_21, zfv_42_22, zfv_42_23, zf_42_23, zfv_42_24, zfv_42_25, zfv_42_26, zfv_42_27, zfv_42_28, zfv_42_29, zfv_42_30, zfv_42_31, zf_42_31, zk_43, zn_43, zk_44, zn_44, zk_45, zn_45, zk_46, zn_46, zk_47, zn_47, zk_48, zn_48, zk_49, zn_49, zk_50, zn_50, zk_51, zn_51, zk_52, zn_52, zk_53, zn_53, zk_54, zn_54, zk_55, zn_55, zk_56, zn_56, zk_57, zn_57, zk_58, zn_58, zk_59, zn_59, zk_60, zn_60, zk_61, zn_61, zk_62, zn_62, zk_63, zn_63, zk_64, zn_64, s_can hk hg hgk, zbp_f hok] <;> simp
theorem s_done_t (hk : k < 6) (hg : fmk M k < 6) (hgk : M 48 k = nI (fmk M k)) {a : Int32} (hok : fmok M k a) : zQ 109 0 [.ref 42, .int (nI k), .int a] [] M Q ↔ Q (zI (fmsand M k a)) (zup (zup M 42 9 (fmlaid M k a)) 44 k (fmsand M k a)) := by
  have hc : (nI k).toNatClampNeg = k := nI_clamp (by omega)
  have hz := zin_nI (n := 6) hk (by decide)
  have e1 : ∀ Q' : zR → zM → Prop, _ := fun Q' => s_can (M := M) (Q := Q') (a := a) hk hg hgk
  rw [zbp_t hok] at e1
  clear hok
  unfold fmsand fmlaid
  by_cases c0 : a = 0
  · subst c0
    simp only [q109_0, q109_1, q109_2, q109_3, q109_6, q109_9, q109_11, q109_12, q109_13, q109_14, q109_17, q109_18, q109_21, q109_22, q109_23, q109_24, q109_25, q109_28, q109_29, q109_30, q109_33, q109_34, q109_37, q109_38, q109_39, q109_40, q109_41, q109_42, q109_43, q109_46, q109_47, q109_50, q109_53, q109_54, q109_57, q109_58, q109_59, q109_60, q109_63, q109_64, q109_67, q109_68, q109_69, q109_70, q109_73, q109_74, q109_75, q109_76, q109_79, q109_80, q109_83, q109_84, q109_85, q109_86, q109_87, q109_90, q109_91, q109_92, zNC, zcs_0, zcs_i, zcs_r, zcs_l, zpush_0, zpush_i, zpush_l, and_true, true_and, Nat.reduceLT, Nat.reduceLeDiff, Nat.reduceAdd, Nat.reduceMul, reduceIte, ite_true, ite_false, if_true, if_false, not_true_eq_false, not_false_eq_true, false_implies, true_implies, forall_const, implies_true, imp_self, and_self, false_and, and_false, ne_eq, zk_42, zfv_42_0, zf_42_0, zfv_42_1, zf_42_1, zfv_42_2, zf_42_2, zfv_42_3, zfv_42_4, zfv_42_5, zfv_42_6, zfv_42_7, zfv_42_8, zfv_42_9, zf_42_9, zfv_42_10, zf_42_10, zfv_42_11, zf_42_11, zfv_42_12, zfv_42_13, zfv_42_14, zfv_42_15, zfv_42_16, zfv_42_17, zfv_42_18, zf_42_18, zfv_42_19, zf_42_19, zfv_42_20, zfv_42_21, zfv_42_22, zfv_42_23, zf_42_23, zfv_42_24, zfv_42_25, zfv_42_26, zfv_42_27, zfv_42_28, zfv_42_29, zfv_42_30, zfv_42_31, zf_42_31, zk_43, zn_43, zk_44, zn_44, zk_45, zn_45, zk_46, zn_46, zk_47, zn_47, zk_48, zn_48, zk_49, zn_49, zk_50, zn_50, zk_51, zn_51, zk_52, zn_52, zk_53, zn_53, zk_54, zn_54, zk_55, zn_55, zk_56, zn_56, zk_57, zn_57, zk_58, zn_58, zk_59, zn_59, zk_60, zn_60, zk_61, zn_61, zk_62, zn_62, zk_63, zn_63, zk_64, zn_64, hc, hz, e1, zup_app] <;> simp [zup_app]
  · by_cases c1 : a = 1
    · subst c1
      simp only [q109_0, q109_1, q109_2, q109_3, q109_6, q109_9, q109_11, q109_12, q109_13, q109_14, q109_17, q109_18, q109_21, q109_22, q109_23, q109_24, q109_25, q109_28, q109_29, q109_30, q109_33, q109_34, q109_37, q109_38, q109_39, q109_40, q109_41, q109_42, q109_43, q109_46, q109_47, q109_50, q109_53, q109_54, q109_57, q109_58, q109_59, q109_60, q109_63, q109_64, q109_67, q109_68, q109_69, q109_70, q109_73, q109_74, q109_75, q109_76, q109_79, q109_80, q109_83, q109_84, q109_85, q109_86, q109_87, q109_90, q109_91, q109_92, zNC, zcs_0, zcs_i, zcs_r, zcs_l, zpush_0, zpush_i, zpush_l, and_true, true_and, Nat.reduceLT, Nat.reduceLeDiff, Nat.reduceAdd, Nat.reduceMul, reduceIte, ite_true, ite_false, if_true, if_false, not_true_eq_false, not_false_eq_true, false_implies, true_implies, forall_const, implies_true, imp_self, and_self, false_and, and_false, ne_eq, zk_42, zfv_42_0, zf_42_0, zfv_42_1, zf_42_1, zfv_42_2, zf_42_2, zfv_42_3, zfv_42_4, zfv_42_5, zfv_42_6, zfv_42_7, zfv_42_8, zfv_42_9, zf_42_9, zfv_42_10, zf_42_10, zfv_42_11, zf_42_11, zfv_42_12, zfv_42_13, zfv_42_14, zfv_42_15, zfv_42_16, zfv_42_17, zfv_42_18, zf_42_18, zfv_42_19, zf_42_19, zfv_42_20, zfv_42_21, zfv_42_22, zfv_42_23, zf_42_23, zfv_42_24, zfv_42_25, zfv_42_26, zfv_42_27, zfv_42_28, zfv_42_29, zfv_42_30, zfv_42_31, zf_42_31, zk_43, zn_43, zk_44, zn_44, zk_45, zn_45, zk_46, zn_46, zk_47, zn_47, zk_48, zn_48, zk_49, zn_49, zk_50, zn_50, zk_51, zn_51, zk_52, zn_52, zk_53, zn_53, zk_54, zn_54, zk_55, zn_55, zk_56, zn_56, zk_57, zn_57, zk_58, zn_58, zk_59, zn_59, zk_60, zn_60, zk_61, zn_61, zk_62, zn_62, zk_63, zn_63, zk_64, zn_64, hc, hz, e1, zup_app] <;> simp [zup_app]
    · by_cases c2 : a = 2
      · subst c2
        simp only [q109_0, q109_1, q109_2, q109_3, q109_6, q109_9, q109_11, q109_12, q109_13, q109_14, q109_17, q109_18, q109_21, q109_22, q109_23, q109_24, q109_25, q109_28, q109_29, q109_30, q109_33, q109_34, q109_37, q109_38, q109_39, q109_40, q109_41, q109_42, q109_43, q109_46, q109_47, q109_50, q109_53, q109_54, q109_57, q109_58, q109_59, q109_60, q109_63, q109_64, q109_67, q109_68, q109_69, q109_70, q109_73, q109_74, q109_75, q109_76, q109_79, q109_80, q109_83, q109_84, q109_85, q109_86, q109_87, q109_90, q109_91, q109_92, zNC, zcs_0, zcs_i, zcs_r, zcs_l, zpush_0, zpush_i, zpush_l, and_true, true_and, Nat.reduceLT, Nat.reduceLeDiff, Nat.reduceAdd, Nat.reduceMul, reduceIte, ite_true, ite_false, if_true, if_false, not_true_eq_false, not_false_eq_true, false_implies, true_implies, forall_const, implies_true, imp_self, and_self, false_and, and_false, ne_eq, zk_42, zfv_42_0, zf_42_0, zfv_42_1, zf_42_1, zfv_42_2, zf_42_2, zfv_42_3, zfv_42_4, zfv_42_5, zfv_42_6, zfv_42_7, zfv_42_8, zfv_42_9, zf_42_9, zfv_42_10, zf_42_10, zfv_42_11, zf_42_11, zfv_42_12, zfv_42_13, zfv_42_14, zfv_42_15, zfv_42_16, zfv_42_17, zfv_42_18, zf_42_18, zfv_42_19, zf_42_19, zfv_42_20, zfv_42_21, zfv_42_22, zfv_42_23, zf_42_23, zfv_42_24, zfv_42_25, zfv_42_26, zfv_42_27, zfv_42_28, zfv_42_29, zfv_42_30, zfv_42_31, zf_42_31, zk_43, zn_43, zk_44, zn_44, zk_45, zn_45, zk_46, zn_46, zk_47, zn_47, zk_48, zn_48, zk_49, zn_49, zk_50, zn_50, zk_51, zn_51, zk_52, zn_52, zk_53, zn_53, zk_54, zn_54, zk_55, zn_55, zk_56, zn_56, zk_57, zn_57, zk_58, zn_58, zk_59, zn_59, zk_60, zn_60, zk_61, zn_61, zk_62, zn_62, zk_63, zn_63, zk_64, zn_64, hc, hz, e1, zup_app] <;> simp [zup_app]
      · simp only [q109_0, q109_1, q109_2, q109_3, q109_6, q109_9, q109_11, q109_12, q109_13, q109_14, q109_17, q109_18, q109_21, q109_22, q109_23, q109_24, q109_25, q109_28, q109_29, q109_30, q109_33, q109_34, q109_37, q109_38, q109_39, q109_40, q109_41, q109_42, q109_43, q109_46, q109_47, q109_50, q109_53, q109_54, q109_57, q109_58, q109_59, q109_60, q109_63, q109_64, q109_67, q109_68, q109_69, q109_70, q109_73, q109_74, q109_75, q109_76, q109_79, q109_80, q109_83, q109_84, q109_85, q109_86, q109_87, q109_90, q109_91, q109_92, zNC, zcs_0, zcs_i, zcs_r, zcs_l, zpush_0, zpush_i, zpush_l, and_true, true_and, Nat.reduceLT, Nat.reduceLeDiff, Nat.reduceAdd, Nat.reduceMul, reduceIte, ite_true, ite_false, if_true, if_false, not_true_eq_false, not_false_eq_true, false_implies, true_implies, forall_const, implies_true, imp_self, and_self, false_and, and_false, ne_eq, zk_42, zfv_42_0, zf_42_0, zfv_42_1, zf_42_1, zfv_42_2, zf_42_2, zfv_42_3, zfv_42_4, zfv_42_5, zfv_42_6, zfv_42_7, zfv_42_8, zfv_42_9, zf_42_9, zfv_42_10, zf_42_10, zfv_42_11, zf_42_11, zfv_42_12, zfv_42_13, zfv_42_14, zfv_42_15, zfv_42_16, zfv_42_17, zfv_42_18, zf_42_18, zfv_42_19, zf_42_19, zfv_42_20, zfv_42_21, zfv_42_22, zfv_42_23, zf_42_23, zfv_42_24, zfv_42_25, zfv_42_26, zfv_42_27, zfv_42_28, zfv_42_29, zfv_42_30, zfv_42_31, zf_42_31, zk_43, zn_43, zk_44, zn_44, zk_45, zn_45, zk_46, zn_46, zk_47, zn_47, zk_48, zn_48, zk_49, zn_49, zk_50, zn_50, zk_51, zn_51, zk_52, zn_52, zk_53, zn_53, zk_54, zn_54, zk_55, zn_55, zk_56, zn_56, zk_57, zn_57, zk_58, zn_58, zk_59, zn_59, zk_60, zn_60, zk_61, zn_61, zk_62, zn_62, zk_63, zn_63, zk_64, zn_64, hc, hz, e1, c0, c1, c2, zup_app] <;> simp [zup_app]
def mys (M : zM) (n : Nat) : Nat → Int32 := fun i => if i < n then fmsb M i 1 else M 44 i
def MYm (h : Nat) (M : zM) : zM := zup (zrow M 44 (mys M h)) 42 2 (M 42 2 + 1)
theorem mys_0 : zrow M 44 (mys M 0) = M := by
  funext a
  unfold zrow mys
  split
  · rename_i e; rw [e]; funext i; simp
  · rfl
theorem mys_s (n : Nat) : zup (zrow M 44 (mys M n)) 44 n (fmsb M n 1) = zrow M 44 (mys M (n + 1)) := by
  funext a
  unfold zup zrow
  split
  · rw [if_pos rfl]
    funext i
    unfold upd mys
    by_cases e : i = n
    · subst e; rw [if_pos rfl, if_pos (by omega)]
    · rw [if_neg e]
      by_cases e2 : i < n
      · rw [if_pos e2, if_pos (by omega)]
      · rw [if_neg e2, if_neg (by omega)]
  · rfl
theorem fmk_row {f : Nat → Int32} : fmk (zrow M 44 f) k = fmk M k := rfl
theorem l_oneYear (hh : M 42 1 = nI h) (h6 : h ≤ 6) (H : zKm M h) (S : ∀ k, k < h → 0 ≤ M 44 k) : ∀ d k, k + d = h → (zQ 114 2 [.ref 42, .int (nI k)] [] (zrow M 44 (mys M k)) Q ↔ Q none (MYm h M)) := by
  intro d
  induction d with
  | zero =>
    intro k hk
    obtain rfl : k = h := by omega
    rw [q114_2]
    have e1 : zrow M 44 (mys M k) 42 1 = M 42 1 := rfl
    have e2 : zrow M 44 (mys M k) 42 2 = M 42 2 := rfl
    unfold MYm
    simp only [q114_0, q114_1i, q114_1r, q114_1n, q114_3, q114_4, q114_7, q114_10, q114_11, q114_14, q114_15, q114_16, q114_17, q114_18, q114_21, q114_22i, q114_22r, q114_22n, q114_25, q114_28, q114_29, q114_30, q114_33, q114_34, q114_35, q114_38, zNC, zcs_0, zcs_i, zcs_r, zcs_l, zpush_0, zpush_i, zpush_l, and_true, true_and, Nat.reduceLT, Nat.reduceLeDiff, Nat.reduceAdd, Nat.reduceMul, reduceIte, ite_true, ite_false, if_true, if_false, not_true_eq_false, not_false_eq_true, false_implies, true_implies, forall_const, implies_true, imp_self, and_self, false_and, and_false, ne_eq, zk_42, zfv_42_0, zf_42_0, zfv_42_1, zf_42_1, zfv_42_2, zf_42_2, zfv_42_3, zfv_42_4, zfv_42_5, zfv_42_6, zfv_42_7, zfv_42_8, zfv_42_9, zf_42_9, zfv_42_10, zf_42_10, zfv_42_11, zf_42_11, zfv_42_12, zfv_42_13, zfv_42_14, zfv_42_15, zfv_42_16, zfv_42_17, zfv_42_18, zf_42_18, zfv_42_19, zf_42_19, zfv_42_20, zfv_42_21, zfv_42_22, zfv_42_23, zf_42_23, zfv_42_24, zfv_42_25, zfv_42_26, zfv_42_27, zfv_42_28, zfv_42_29, zfv_42_30, zfv_42_31, zf_42_31, zk_43, zn_43, zk_44, zn_44, zk_45, zn_45, zk_46, zn_46, zk_47, zn_47, zk_48, zn_48, zk_49, zn_49, zk_50, zn_50, zk_51, zn_51, zk_52, zn_52, zk_53, zn_53, zk_54, zn_54, zk_55, zn_55, zk_56, zn_56, zk_57, zn_57, zk_58, zn_58, zk_59, zn_59, zk_60, zn_60, zk_61, zn_61, zk_62, zn_62, zk_63, zn_63, zk_64, zn_64, e1, e2, hh, i_le_refl]
  | succ d ih =>
    intro k hk
    have h1 : ¬ nI h ≤ nI k := nI_ge (by omega) (by omega)
    have ih' := ih (k + 1) (by omega)
    rw [q114_2]
    have hc : (nI k).toNatClampNeg = k := nI_clamp (by omega)
    have hz := zin_nI (k := k) (n := 6) (by omega) (by decide)
    obtain ⟨g1, g2⟩ := zKm_at H h6 (show k < h by omega)
    have e1 : zrow M 44 (mys M k) 42 1 = M 42 1 := rfl
    have e5 : zrow M 44 (mys M k) 44 k = M 44 k := by rw [zrow_self]; unfold mys; rw [if_neg (by omega)]
    have e4 : ∀ Q' : zR → zM → Prop, zQ 113 0 [.ref 42, .int (nI k), .int 1, .null] [] (zrow M 44 (mys M k)) Q' ↔ Q' (zI (fmsb M k 1)) (zrow M 44 (mys M k)) := by
      intro Q'
      rw [s_mSb (M := zrow M 44 (mys M k)) (show k < 6 by omega) (show fmk M k < 6 by omega) g2 (by rw [e5]; exact S k (by omega))]
      unfold fmsb
      rw [e5]
      exact Iff.rfl
    rw [← mys_s] at ih'
    rw [← ih']
    simp only [q114_0, q114_1i, q114_1r, q114_1n, q114_3, q114_4, q114_7, q114_10, q114_11, q114_14, q114_15, q114_16, q114_17, q114_18, q114_21, q114_22i, q114_22r, q114_22n, q114_25, q114_28, q114_29, q114_30, q114_33, q114_34, q114_35, q114_38, zNC, zcs_0, zcs_i, zcs_r, zcs_l, zpush_0, zpush_i, zpush_l, and_true, true_and, Nat.reduceLT, Nat.reduceLeDiff, Nat.reduceAdd, Nat.reduceMul, reduceIte, ite_true, ite_false, if_true, if_false, not_true_eq_false, not_false_eq_true, false_implies, true_implies, forall_const, implies_true, imp_self, and_self, false_and, and_false, ne_eq, zk_42, zfv_42_0, zf_42_0, zfv_42_1, zf_42_1, zfv_42_2, zf_42_2, zfv_42_3, zfv_42_4, zfv_42_5, zfv_42_6, zfv_42_7, zfv_42_8, zfv_42_9, zf_42_9, zfv_42_10, zf_42_10, zfv_42_11, zf_42_11, zfv_42_12, zfv_42_13, zfv_42_14, zfv_42_15, zfv_42_16, zfv_42_17, zfv_42_18, zf_42_18, zfv_42_19, zf_42_19, zfv_42_20, zfv_42_21, zfv_42_22, zfv_42_23, zf_42_23, zfv_42_24, zfv_42_25, zfv_42_26, zfv_42_27, zfv_42_28, zfv_42_29, zfv_42_30, zfv_42_31, zf_42_31, zk_43, zn_43, zk_44, zn_44, zk_45, zn_45, zk_46, zn_46, zk_47, zn_47, zk_48, zn_48, zk_49, zn_49, zk_50, zn_50, zk_51, zn_51, zk_52, zn_52, zk_53, zn_53, zk_54, zn_54, zk_55, zn_55, zk_56, zn_56, zk_57, zn_57, zk_58, zn_58, zk_59, zn_59, zk_60, zn_60, zk_61, zn_61, zk_62, zn_62, zk_63, zn_63, zk_64, zn_64, hh, h1, e1, hc, hz, e4, nI_1]
theorem s_oneYear (hh : M 42 1 = nI h) (h6 : h ≤ 6) (H : zKm M h) (S : ∀ k, k < h → 0 ≤ M 44 k) : zQ 114 0 [.ref 42, .null] [] M Q ↔ Q none (MYm h M) := by
  refine Iff.trans ?_ (l_oneYear hh h6 H S h 0 (by omega))
  rw [mys_0]
  simp only [q114_0, q114_1i, q114_1r, q114_1n, q114_3, q114_4, q114_7, q114_10, q114_11, q114_14, q114_15, q114_16, q114_17, q114_18, q114_21, q114_22i, q114_22r, q114_22n, q114_25, q114_28, q114_29, q114_30, q114_33, q114_34, q114_35, q114_38, nI_0]
theorem l_reach (hh : M 42 1 = nI h) (h6 : h ≤ 6) (H : zKm M h) {fr y2 : Int32} : ∀ n i c, i + n = h + 1 → 1 ≤ i → c < h → (zQ 123 23 [.ref 42, .int fr, .int y2, .int (nI c), .int (nI i)] [] M Q ↔ Q (zI (fre (M 48) fr n i (nI c))) M) := by
  intro n
  induction n with
  | zero =>
    intro i c hi h1 hc
    have h2 : nI h < nI i := nI_lt (by omega) (by omega)
    rw [q123_23]
    simp only [q123_0, q123_1, q123_2, q123_5, q123_8, q123_9, q123_10, q123_13, q123_16, q123_17, q123_18, q123_19i, q123_19r, q123_19n, q123_20, q123_21i, q123_21r, q123_21n, q123_25, q123_26, q123_29, q123_32, q123_33, q123_36, q123_37, q123_38i, q123_38r, q123_38n, q123_39, q123_40, q123_41, q123_44, q123_46, q123_47i, q123_47r, q123_47n, q123_50, q123_53, q123_55, zNC, zcs_0, zcs_i, zcs_r, zcs_l, zpush_0, zpush_i, zpush_l, and_true, true_and, Nat.reduceLT, Nat.reduceLeDiff, Nat.reduceAdd, Nat.reduceMul, reduceIte, ite_true, ite_false, if_true, if_false, not_true_eq_false, not_false_eq_true, false_implies, true_implies, forall_const, implies_true, imp_self, and_self, false_and, and_false, ne_eq, zk_42, zfv_42_0, zf_42_0, zfv_42_1, zf_42_1, zfv_42_2, zf_42_2, zfv_42_3, zfv_42_4, zfv_42_5, zfv_42_6, zfv_42_7, zfv_42_8, zfv_42_9, zf_42_9, zfv_42_10, zf_42_10, zfv_42_11, zf_42_11, zfv_42_12, zfv_42_13, zfv_42_14, zfv_42_15, zfv_42_16, zfv_42_17, zfv_42_18, zf_42_18, zfv_42_19, zf_42_19, zfv_42_20, zfv_42_21, zfv_42_22, zfv_42_23, zf_42_23, zfv_42_24, zfv_42_25, zfv_42_26, zfv_42_27, zfv_42_28, zfv_42_29, zfv_42_30, zfv_42_31, zf_42_31, zk_43, zn_43, zk_44, zn_44, zk_45, zn_45, zk_46, zn_46, zk_47, zn_47, zk_48, zn_48, zk_49, zn_49, zk_50, zn_50, zk_51, zn_51, zk_52, zn_52, zk_53, zn_53, zk_54, zn_54, zk_55, zn_55, zk_56, zn_56, zk_57, zn_57, zk_58, zn_58, zk_59, zn_59, zk_60, zn_60, zk_61, zn_61, zk_62, zn_62, zk_63, zn_63, zk_64, zn_64, hh, h2, fre]
  | succ n ih =>
    intro i c hi h1 hcc
    have h2 : ¬ nI h < nI i := nI_nlt (by omega) (by omega)
    have hc : (nI c).toNatClampNeg = c := nI_clamp (by omega)
    have hz := zin_nI (k := c) (n := 6) (by omega) (by decide)
    obtain ⟨g1, g2⟩ := zKm_at H h6 hcc
    have ih' := ih (i + 1) (fmk M c) (by omega) (by omega) g1
    rw [← g2] at ih'
    rw [q123_23]
    by_cases p : M 48 c = fr
    · simp only [q123_0, q123_1, q123_2, q123_5, q123_8, q123_9, q123_10, q123_13, q123_16, q123_17, q123_18, q123_19i, q123_19r, q123_19n, q123_20, q123_21i, q123_21r, q123_21n, q123_25, q123_26, q123_29, q123_32, q123_33, q123_36, q123_37, q123_38i, q123_38r, q123_38n, q123_39, q123_40, q123_41, q123_44, q123_46, q123_47i, q123_47r, q123_47n, q123_50, q123_53, q123_55, zNC, zcs_0, zcs_i, zcs_r, zcs_l, zpush_0, zpush_i, zpush_l, and_true, true_and, Nat.reduceLT, Nat.reduceLeDiff, Nat.reduceAdd, Nat.reduceMul, reduceIte, ite_true, ite_false, if_true, if_false, not_true_eq_false, not_false_eq_true, false_implies, true_implies, forall_const, implies_true, imp_self, and_self, false_and, and_false, ne_eq, zk_42, zfv_42_0, zf_42_0, zfv_42_1, zf_42_1, zfv_42_2, zf_42_2, zfv_42_3, zfv_42_4, zfv_42_5, zfv_42_6, zfv_42_7, zfv_42_8, zfv_42_9, zf_42_9, zfv_42_10, zf_42_10, zfv_42_11, zf_42_11, zfv_42_12, zfv_42_13, zfv_42_14, zfv_42_15, zfv_42_16, zfv_42_17, zfv_42_18, zf_42_18, zfv_42_19, zf_42_19, zfv_42_20, zfv_42_21, zfv_42_22, zfv_42_23, zf_42_23, zfv_42_24, zfv_42_25, zfv_42_26, zfv_42_27, zfv_42_28, zfv_42_29, zfv_42_30, zfv_42_31, zf_42_31, zk_43, zn_43, zk_44, zn_44, zk_45, zn_45, zk_46, zn_46, zk_47, zn_47, zk_48, zn_48, zk_49, zn_49, zk_50, zn_50, zk_51, zn_51, zk_52, zn_52, zk_53, zn_53, zk_54, zn_54, zk_55, zn_55, zk_56, zn_56, zk_57, zn_57, zk_58, zn_58, zk_59, zn_59, zk_60, zn_60, zk_61, zn_61, zk_62, zn_62, zk_63, zn_63, zk_64, zn_64, hh, h2, fre, hc, hz, p]
    · simp only [q123_0, q123_1, q123_2, q123_5, q123_8, q123_9, q123_10, q123_13, q123_16, q123_17, q123_18, q123_19i, q123_19r, q123_19n, q123_20, q123_21i, q123_21r, q123_21n, q123_25, q123_26, q123_29, q123_32, q123_33, q123_36, q123_37, q123_38i, q123_38r, q123_38n, q123_39, q123_40, q123_41, q123_44, q123_46, q123_47i, q123_47r, q123_47n, q123_50, q123_53, q123_55, zNC, zcs_0, zcs_i, zcs_r, zcs_l, zpush_0, zpush_i, zpush_l, and_true, true_and, Nat.reduceLT, Nat.reduceLeDiff, Nat.reduceAdd, Nat.reduceMul, reduceIte, ite_true, ite_false, if_true, if_false, not_true_eq_false, not_false_eq_true, false_implies, true_implies, forall_const, implies_true, imp_self, and_self, false_and, and_false, ne_eq, zk_42, zfv_42_0, zf_42_0, zfv_42_1, zf_42_1, zfv_42_2, zf_42_2, zfv_42_3, zfv_42_4, zfv_42_5, zfv_42_6, zfv_42_7, zfv_42_8, zfv_42_9, zf_42_9, zfv_42_10, zf_42_10, zfv_42_11, zf_42_11, zfv_42_12, zfv_42_13, zfv_42_14, zfv_42_15, zfv_42_16, zfv_42_17, zfv_42_18, zf_42_18, zfv_42_19, zf_42_19, zfv_42_20, zfv_42_21, zfv_42_22, zfv_42_23, zf_42_23, zfv_42_24, zfv_42_25, zfv_42_26, zfv_42_27, zfv_42_28, zfv_42_29, zfv_42_30, zfv_42_31, zf_42_31, zk_43, zn_43, zk_44, zn_44, zk_45, zn_45, zk_46, zn_46, zk_47, zn_47, zk_48, zn_48, zk_49, zn_49, zk_50, zn_50, zk_51, zn_51, zk_52, zn_52, zk_53, zn_53, zk_54, zn_54, zk_55, zn_55, zk_56, zn_56, zk_57, zn_57, zk_58, zn_58, zk_59, zn_59, zk_60, zn_60, zk_61, zn_61, zk_62, zn_62, zk_63, zn_63, zk_64, zn_64, hh, h2, fre, hc, hz, p, nI_1, ih']
theorem l_bits {v : Nat} : ∀ d w c, d ≤ 6 → w < 2 ^ d → (zQ 87 4 [.int (nI v), .int (nI c), .int (nI w)] [] M Q ↔ Q (zI (nI (c + fpop d w))) M) := by
  intro d
  induction d with
  | zero =>
    intro w c hd hw
    have hw0 : w = 0 := by simp at hw; exact hw
    subst hw0
    rw [q87_4]
    have h1 : nI 0 ≤ 0 := by decide
    simp only [q87_0, q87_1i, q87_1r, q87_1n, q87_2, q87_3i, q87_3r, q87_3n, q87_5, q87_8, q87_9, q87_10, q87_11, q87_12, q87_13i, q87_13r, q87_13n, q87_14, q87_15, q87_16, q87_17i, q87_17r, q87_17n, q87_18, q87_21, q87_22, zNC, zcs_0, zcs_i, zcs_r, zcs_l, zpush_0, zpush_i, zpush_l, and_true, true_and, Nat.reduceLT, Nat.reduceLeDiff, Nat.reduceAdd, Nat.reduceMul, reduceIte, ite_true, ite_false, if_true, if_false, not_true_eq_false, not_false_eq_true, false_implies, true_implies, forall_const, implies_true, imp_self, and_self, false_and, and_false, ne_eq, h1, fpop]
    simp
  | succ d ih =>
    intro w c hd hw
    rw [q87_4]
    have hp : 2 ^ d ≤ 2 ^ 6 := Nat.pow_le_pow_right (by omega) (by omega)
    rw [Nat.pow_succ] at hw
    by_cases h0 : w = 0
    · subst h0
      have h1 : nI 0 ≤ 0 := by decide
      have e : ∀ n, fpop n 0 = 0 := by
        intro n
        induction n with
        | zero => rfl
        | succ n ih => simp [fpop, ih]
      simp only [q87_0, q87_1i, q87_1r, q87_1n, q87_2, q87_3i, q87_3r, q87_3n, q87_5, q87_8, q87_9, q87_10, q87_11, q87_12, q87_13i, q87_13r, q87_13n, q87_14, q87_15, q87_16, q87_17i, q87_17r, q87_17n, q87_18, q87_21, q87_22, zNC, zcs_0, zcs_i, zcs_r, zcs_l, zpush_0, zpush_i, zpush_l, and_true, true_and, Nat.reduceLT, Nat.reduceLeDiff, Nat.reduceAdd, Nat.reduceMul, reduceIte, ite_true, ite_false, if_true, if_false, not_true_eq_false, not_false_eq_true, false_implies, true_implies, forall_const, implies_true, imp_self, and_self, false_and, and_false, ne_eq, h1, e]
      simp
    · have h1 : ¬ nI w ≤ 0 := nI_nle (by omega) (by omega)
      have e1 : nI w &&& 1 = nI (w % 2) := fa_mask w 1
      have e2 : nI w >>> ((1 : Int32) &&& 31) = nI (w / 2) := pk_shrN (n := w) (by omega) _ 1 (by decide)
      have ih' := ih (w / 2) (c + w % 2) (by omega) (by omega)
      simp only [fpop]
      rw [← Nat.add_assoc, ← ih']
      simp only [q87_0, q87_1i, q87_1r, q87_1n, q87_2, q87_3i, q87_3r, q87_3n, q87_5, q87_8, q87_9, q87_10, q87_11, q87_12, q87_13i, q87_13r, q87_13n, q87_14, q87_15, q87_16, q87_17i, q87_17r, q87_17n, q87_18, q87_21, q87_22, zNC, zcs_0, zcs_i, zcs_r, zcs_l, zpush_0, zpush_i, zpush_l, and_true, true_and, Nat.reduceLT, Nat.reduceLeDiff, Nat.reduceAdd, Nat.reduceMul, reduceIte, ite_true, ite_false, if_true, if_false, not_true_eq_false, not_false_eq_true, false_implies, true_implies, forall_const, implies_true, imp_self, and_self, false_and, and_false, ne_eq, h1, e1, e2, nI_add]
theorem s_bits {v : Nat} (hv : v < 64) : zQ 87 0 [.int (nI v), .null, .null] [] M Q ↔ Q (zI (nI (fpop 6 v))) M := by
  have := l_bits (M := M) (Q := Q) (v := v) 6 v 0 (by omega) (by omega)
  rw [Nat.zero_add] at this
  rw [← this]
  simp only [q87_0, q87_1i, q87_1r, q87_1n, q87_2, q87_3i, q87_3r, q87_3n, q87_5, q87_8, q87_9, q87_10, q87_11, q87_12, q87_13i, q87_13r, q87_13n, q87_14, q87_15, q87_16, q87_17i, q87_17r, q87_17n, q87_18, q87_21, q87_22, nI_0]
end MO
