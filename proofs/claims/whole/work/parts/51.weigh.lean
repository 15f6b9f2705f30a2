section IV
variable {M M' N : zM} {h y lw c k t a b o n r p g w : Nat} {Q : zR → zM → Prop} {x : Int32}
theorem pop_lt : ∀ h, h ≤ 6 → ∀ w, w < 63 → w + 1 < 2 ^ h → fpop 6 w < h := by decide +kernel
/-- the table behind j steps of weigh, from the set of all houses downwards -/
def WN (M : zM) (h al : Nat) : Nat → zM
  | 0 => zup M 28 al 0
  | j + 1 => zup (WN M h al j) 28 (al - 1 - j) (fmx (WN M h al j) (fpop 6 (al - 1 - j)) (al - 1 - j) h)
theorem WN_ne (M : zM) (h al : Nat) {e : Nat} (he : e ≠ 28) : ∀ j, WN M h al j e = M e := by
  intro j
  induction j with
  | zero => exact zup_ne _ _ _ he
  | succ j ih => exact (zup_ne _ _ _ he).trans ih
theorem l_weigh (hh : M 1 7 = nI h) (h6 : h ≤ 6) {al : Nat} (hal : al + 1 = 2 ^ h) : ∀ d j (v4 v5 : Value), j + d = al → (zQ 3 20 [.ref 27, .ref 1, .int (nI al), .int (nI (al - j) - 1), v4, v5] [] (WN M h al j) Q ↔ Q none (WN M h al al)) := by
  have h64 : 2 ^ h ≤ 2 ^ 6 := Nat.pow_le_pow_right (by omega) h6
  intro d
  induction d with
  | zero =>
    intro j v4 v5 hj
    obtain rfl : j = al := by omega
    have e : nI (j - j) - 1 < 0 := by rw [Nat.sub_self]; decide
    rw [q3_20]
    simp only [q3_0, q3_1, q3_2, q3_5, q3_6, q3_7, q3_8i, q3_8r, q3_8n, q3_9, q3_10, q3_13, q3_14, q3_15, q3_16, q3_17, q3_18, q3_19i, q3_19r, q3_19n, q3_21, q3_24, q3_25, q3_28i, q3_28r, q3_28n, q3_30, q3_31, q3_34, q3_35, q3_36, q3_37, q3_38i, q3_38r, q3_38n, q3_42, q3_43, q3_46, q3_49, q3_50, q3_53, q3_54, q3_55, q3_58, q3_59, q3_60, q3_61, q3_62, q3_64, q3_66, q3_67, q3_70, q3_73, q3_74i, q3_74r, q3_74n, q3_77, q3_83, q3_86, zNC, zcs_0, zcs_i, zcs_r, zcs_l, zpush_0, zpush_i, zpush_l, and_true, true_and, Nat.reduceLT, Nat.reduceLeDiff, Nat.reduceAdd, Nat.reduceMul, reduceIte, ite_true, ite_false, if_true, if_false, not_true_eq_false, not_false_eq_true, false_implies, true_implies, forall_const, implies_true, imp_self, and_self, false_and, and_false, ne_eq, zk_0, zfv_0_0, zfv_0_1, zfv_0_2, zfv_0_3, zfv_0_4, zfv_0_5, zfv_0_6, zf_0_6, zfv_0_7, zf_0_7, zk_25, zfv_25_0, zfv_25_1, zfv_25_2, zf_25_2, zk_26, zn_26, zk_27, zfv_27_0, zk_28, zn_28, zk_29, zfv_29_0, zfv_29_1, zfv_29_2, zfv_29_3, zf_29_3, zk_30, zn_30, zk_31, zn_31, zk_32, zn_32, zk_33, zn_33, zk_34, zfv_34_0, zfv_34_1, zf_34_1, zfv_34_2, zf_34_2, zfv_34_3, zf_34_3, zk_35, zn_35, zk_36, zfv_36_0, zfv_36_1, zf_36_1, zfv_36_2, zf_36_2, zfv_36_3, zf_36_3, zk_37, zn_37, zk_38, zfv_38_0, zfv_38_1, zf_38_1, zfv_38_2, zf_38_2, zfv_38_3, zf_38_3, zk_39, zn_39, zk_40, zfv_40_0, zfv_40_1, zf_40_1, zfv_40_2, zf_40_2, zfv_40_3, zf_40_3, zk_41, zn_41, zk_1, zfv_1_0, zfv_1_1, zfv_1_2, zfv_1_3, zfv_1_4, zfv_1_5, zfv_1_6, zfv_1_7, zf_1_7, zfv_1_8, zf_1_8, zk_9, zfv_9_0, zfv_9_1, zfv_9_2, zfv_9_3, zfv_9_4, zfv_9_5, zfv_9_6, zfv_9_7, zf_9_7, zfv_9_8, zf_9_8, zk_17, zfv_17_0, zfv_17_1, zfv_17_2, zfv_17_3, zfv_17_4, zfv_17_5, zfv_17_6, zfv_17_7, zf_17_7, zfv_17_8, zf_17_8, zk_2, zn_2, zk_3, zn_3, zk_4, zn_4, zk_5, zn_5, zk_6, zn_6, zk_7, zn_7, zk_8, zn_8, zk_10, zn_10, zk_11, zn_11, zk_12, zn_12, zk_13, zn_13, zk_14, zn_14, zk_15, zn_15, zk_16, zn_16, zk_18, zn_18, zk_19, zn_19, zk_20, zn_20, zk_21, zn_21, zk_22, zn_22, zk_23, zn_23, zk_24, zn_24, e]
  | succ d ih =>
    intro j v4 v5 hj
    obtain ⟨w, hw⟩ : ∃ w, al - j = w + 1 := ⟨al - j - 1, by omega⟩
    have ew : nI (al - j) - 1 = nI w := by rw [hw]; exact pk_sub (a := w + 1) (b := 1) (by omega)
    have ew2 : al - 1 - j = w := by omega
    have hw64 : w < 63 := by omega
    have hk := pop_lt h h6 w hw64 (by omega)
    have n1 : ¬ nI w < 0 := nI_pos (by omega)
    have hc : (nI w).toNatClampNeg = w := nI_clamp (by omega)
    have hz := zin_nI (k := w) (n := 64) (by omega) (by decide)
    have hb := fbc_pop w (by omega)
    have ih' := fun v4 v5 => ih (j + 1) v4 v5 (by omega)
    rw [show al - (j + 1) = w by omega] at ih'
    have hN : WN M h al j 1 7 = nI h := by rw [WN_ne M h al (by decide)]; exact hh
    have e0 := l_weighI (N := WN M h al j) (Q := Q) (al := nI al) hN h6 hk (show w < 64 by omega) h 0 (by omega)
    simp only [WN, ew2] at ih'
    generalize WN M h al j = N at *
    have em : nI w + -1 = nI w - 1 := by grind
    rw [q3_20, ew]
    have i0 : nI 0 = 0 := rfl
    simp only [fmx, i0] at e0
    simp only [q3_0, q3_1, q3_2, q3_5, q3_6, q3_7, q3_8i, q3_8r, q3_8n, q3_9, q3_10, q3_13, q3_14, q3_15, q3_16, q3_17, q3_18, q3_19i, q3_19r, q3_19n, q3_21, q3_24, q3_25, q3_28i, q3_28r, q3_28n, q3_30, q3_31, q3_34, q3_35, q3_36, q3_37, q3_38i, q3_38r, q3_38n, q3_42, q3_43, q3_46, q3_49, q3_50, q3_53, q3_54, q3_55, q3_58, q3_59, q3_60, q3_61, q3_62, q3_64, q3_66, q3_67, q3_70, q3_73, q3_74i, q3_74r, q3_74n, q3_77, q3_83, q3_86, zNC, zcs_0, zcs_i, zcs_r, zcs_l, zpush_0, zpush_i, zpush_l, and_true, true_and, Nat.reduceLT, Nat.reduceLeDiff, Nat.reduceAdd, Nat.reduceMul, reduceIte, ite_true, ite_false, if_true, if_false, not_true_eq_false, not_false_eq_true, false_implies, true_implies, forall_const, implies_true, imp_self, and_self, false_and, and_false, ne_eq, zk_0, zfv_0_0, zfv_0_1, zfv_0_2, zfv_0_3, zfv_0_4, zfv_0_5, zfv_0_6, zf_0_6, zfv_0_7, zf_0_7, zk_25, zfv_25_0, zfv_25_1, zfv_25_2, zf_25_2, zk_26, zn_26, zk_27, zfv_27_0, zk_28, zn_28, zk_29, zfv_29_0, zfv_29_1, zfv_29_2, zfv_29_3, zf_29_3, zk_30, zn_30, zk_31, zn_31, zk_32, zn_32, zk_33, zn_33, zk_34, zfv_34_0, zfv_34_1, zf_34_1, zfv_34_2, zf_34_2, zfv_34_3, zf_34_3, zk_35, zn_35, zk_36, zfv_36_0, zfv_36_1, zf_36_1, zfv_36_2, zf_36_2, zfv_36_3, zf_36_3, zk_37, zn_37, zk_38, zfv_38_0, zfv_38_1, zf_38_1, zfv_38_2, zf_38_2, zfv_38_3, zf_38_3, zk_39, zn_39, zk_40, zfv_40_0, zfv_40_1, zf_40_1, zfv_40_2, zf_40_2, zfv_40_3, zf_40_3, zk_41, zn_41, zk_1, zfv_1_0, zfv_1_1, zfv_1_2, zfv_1_3, zfv_1_4, zfv_1_5, zfv_1_6, zfv_1_7, zf_1_7, zfv_1_8, zf_1_8, zk_9, zfv_9_0, zfv_9_1, zfv_9_2, zfv_9_3, zfv_9_4, zfv_9_5, zfv_9_6, zfv_9_7, zf_9_7, zfv_9_8, zf_9_8, zk_17, zfv_17_0, zfv_17_1, zfv_17_2, zfv_17_3, zfv_17_4, zfv_17_5, zfv_17_6, zfv_17_7, zf_17_7, zfv_17_8, zf_17_8, zk_2, zn_2, zk_3, zn_3, zk_4, zn_4, zk_5, zn_5, zk_6, zn_6, zk_7, zn_7, zk_8, zn_8, zk_10, zn_10, zk_11, zn_11, zk_12, zn_12, zk_13, zn_13, zk_14, zn_14, zk_15, zn_15, zk_16, zn_16, zk_18, zn_18, zk_19, zn_19, zk_20, zn_20, zk_21, zn_21, zk_22, zn_22, zk_23, zn_23, zk_24, zn_24, n1, s_bitCount, hb, hc, hz, e0]
    rw [q3_80i]
    simp only [q3_0, q3_1, q3_2, q3_5, q3_6, q3_7, q3_8i, q3_8r, q3_8n, q3_9, q3_10, q3_13, q3_14, q3_15, q3_16, q3_17, q3_18, q3_19i, q3_19r, q3_19n, q3_21, q3_24, q3_25, q3_28i, q3_28r, q3_28n, q3_30, q3_31, q3_34, q3_35, q3_36, q3_37, q3_38i, q3_38r, q3_38n, q3_42, q3_43, q3_46, q3_49, q3_50, q3_53, q3_54, q3_55, q3_58, q3_59, q3_60, q3_61, q3_62, q3_64, q3_66, q3_67, q3_70, q3_73, q3_74i, q3_74r, q3_74n, q3_77, q3_83, q3_86, zNC, zcs_0, zcs_i, zcs_r, zcs_l, zpush_0, zpush_i, zpush_l, and_true, true_and, Nat.reduceLT, Nat.reduceLeDiff, Nat.reduceAdd, Nat.reduceMul, reduceIte, ite_true, ite_false, if_true, if_false, not_true_eq_false, not_false_eq_true, false_implies, true_implies, forall_const, implies_true, imp_self, and_self, false_and, and_false, ne_eq, zk_0, zfv_0_0, zfv_0_1, zfv_0_2, zfv_0_3, zfv_0_4, zfv_0_5, zfv_0_6, zf_0_6, zfv_0_7, zf_0_7, zk_25, zfv_25_0, zfv_25_1, zfv_25_2, zf_25_2, zk_26, zn_26, zk_27, zfv_27_0, zk_28, zn_28, zk_29, zfv_29_0, zfv_29_1, zfv_29_2, zfv_29_3, zf_29_3, zk_30, zn_30, zk_31, zn_31, zk_32, zn_32, zk_33, zn_33, zk_34, zfv_34_0, zfv_34_1, zf_34_1, zfv_34_2, zf_34_2, zfv_34_3, zf_34_3, zk_35, zn_35, zk_36, zfv_36_0, zfv_36_1, zf_36_1, zfv_36_2, zf_36_2, zfv_36_3, zf_36_3, zk_37, zn_37, zk_38, zfv_38_0, zfv_38_1, zf_38_1, zfv_38_2, zf_38_2, zfv_38_3, zf_38_3, zk_39, zn_39, zk_40, zfv_40_0, zfv_40_1, zf_40_1, zfv_40_2, zf_40_2, zfv_40_3, zf_40_3, zk_41, zn_41, zk_1, zfv_1_0, zfv_1_1, zfv_1_2, zfv_1_3, zfv_1_4, zfv_1_5, zfv_1_6, zfv_1_7, zf_1_7, zfv_1_8, zf_1_8, zk_9, zfv_9_0, zfv_9_1, zfv_9_2, zfv_9_3, zfv_9_4, zfv_9_5, zfv_9_6, zfv_9_7, zf_9_7, zfv_9_8, zf_9_8, zk_17, zfv_17_0, zfv_17_1, zfv_17_2, zfv_17_3, zfv_17_4, zfv_17_5, zfv_17_6, zfv_17_7, zf_17_7, zfv_17_8, zf_17_8, zk_2, zn_2, zk_3, zn_3, zk_4, zn_4, zk_5, zn_5, zk_6, zn_6, zk_7, zn_7, zk_8, zn_8, zk_10, zn_10, zk_11, zn_11, zk_12, zn_12, zk_13, zn_13, zk_14, zn_14, zk_15, zn_15, zk_16, zn_16, zk_18, zn_18, zk_19, zn_19, zk_20, zn_20, zk_21, zn_21, zk_22, zn_22, zk_23, zn_23, zk_24, zn_24, em, ih']
end IV
