-- FIRST, NECKS, KINDS, KEEPERS of the reference and of both
section MO
variable {M : zM} {Q : zR → zM → Prop} {t k h g o c p : Nat}
noncomputable def fmso (M : zM) (c : Nat) : Prop := ∀ r, r < c → fmsb M (M 58 r).toNatClampNeg (M 59 r) = M 60 r
def zRm (M : zM) (h c : Nat) : Prop := c ≤ 8 ∧ M 42 23 = nI c ∧ ∀ r, r < c → ∃ g, g < h ∧ M 58 r = nI g
theorem l_mAreSo (h6 : h ≤ 6) (H : zKm M h) (S : ∀ k, k < h → 0 ≤ M 44 k) (R : zRm M h c) : ∀ d r, r + d = c → (zQ 136 4 [.ref 42, .int (zbp (fmso M r)), .int (nI r)] [] M Q ↔ Q (zI (zbp (fmso M c))) M) := by
  obtain ⟨c8, hcn, hg⟩ := R
  intro d
  induction d with
  | zero =>
    intro r hr
    obtain rfl : r = c := by omega
    rw [q136_4]
    simp only [q136_0, q136_1i, q136_1r, q136_1n, q136_2, q136_3i, q136_3r, q136_3n, q136_5, q136_6, q136_9, q136_12, q136_13, q136_16, q136_17, q136_18, q136_21, q136_22, q136_23, q136_24, q136_27, q136_28, q136_29, q136_32, q136_33, q136_36, q136_37, q136_38, q136_41, q136_42, q136_45, q136_46i, q136_46r, q136_46n, q136_47i, q136_47r, q136_47n, q136_50, q136_53, q136_54, zNC, zcs_0, zcs_i, zcs_r, zcs_l, zpush_0, zpush_i, zpush_l, and_true, true_and, Nat.reduceLT, Nat.reduceLeDiff, Nat.reduceAdd, Nat.reduceMul, reduceIte, ite_true, ite_false, if_true, if_false, not_true_eq_false, not_false_eq_true, false_implies, true_implies, forall_const, implies_true, imp_self, and_self, false_and, and_false, ne_eq, zk_42, zfv_42_0, zf_42_0, zfv_42_1, zf_42_1, zfv_42_2, zf_42_2, zfv_42_3, zfv_42_4, zfv_42_5, zfv_42_6, zfv_42_7, zfv_42_8, zfv_42_9, zf_42_9, zfv_42_10, zf_42_10, zfv_42_11, zf_42_11, zfv_42_12, zfv_42_13, zfv_42_14, zfv_42_15, zfv_42_16, zfv_42_17, zfv_42_18, zf_42_18, zfv_42_19, zf_42_19, zfv_42_20, zfv_42_21, zfv_42_22, zfv_42_23, zf_42_23, zfv_42_24, zfv_42_25, zfv_42_26, zfv_42_27, zfv_42_28, zfv_42_29, zfv_42_30, zfv_42_31, zf_42_31, zk_43, zn_43, zk_44, zn_44, zk_45, zn_45, zk_46, zn_46, zk_47, zn_47, zk_48, zn_48, zk_49, zn_49, zk_50, zn_50, zk_51, zn_51, zk_52, zn_52, zk_53, zn_53, zk_54, zn_54, zk_55, zn_55, zk_56, zn_56, zk_57, zn_57, zk_58, zn_58, zk_59, zn_59, zk_60, zn_60, zk_61, zn_61, zk_62, zn_62, zk_63, zn_63, zk_64, zn_64, hcn, i_le_refl, zbp_01]
  | succ d ih =>
    intro r hr
    have h1 : ¬ nI c ≤ nI r := nI_ge (by omega) (by omega)
    have hc : (nI r).toNatClampNeg = r := nI_clamp (by omega)
    have hz := zin_nI (k := r) (n := 8) (by omega) (by decide)
    obtain ⟨g, g1, g2⟩ := hg r (by omega)
    obtain ⟨k1, k2⟩ := zKm_at H h6 g1
    have e3 : ∀ Q' : zR → zM → Prop, _ := fun Q' => s_mSb (M := M) (Q := Q') (show g < 6 by omega) (show fmk M g < 6 by omega) k2 (S g g1) (y := M 59 r)
    have hgc : (nI g).toNatClampNeg = g := nI_clamp (by omega)
    have ih' := ih (r + 1) (by omega)
    rw [q136_4, ← ih']
    by_cases hp : fmso M r
    · by_cases hq : fmsb M g (M 59 r) = M 60 r
      · have hn : fmso M (r + 1) := lt_s hp (by rw [g2, hgc]; exact hq)
        rw [zbp_t hp, zbp_t hn]
        simp only [q136_0, q136_1i, q136_1r, q136_1n, q136_2, q136_3i, q136_3r, q136_3n, q136_5, q136_6, q136_9, q136_12, q136_13, q136_16, q136_17, q136_18, q136_21, q136_22, q136_23, q136_24, q136_27, q136_28, q136_29, q136_32, q136_33, q136_36, q136_37, q136_38, q136_41, q136_42, q136_45, q136_46i, q136_46r, q136_46n, q136_47i, q136_47r, q136_47n, q136_50, q136_53, q136_54, zNC, zcs_0, zcs_i, zcs_r, zcs_l, zpush_0, zpush_i, zpush_l, and_true, true_and, Nat.reduceLT, Nat.reduceLeDiff, Nat.reduceAdd, Nat.reduceMul, reduceIte, ite_true, ite_false, if_true, if_false, not_true_eq_false, not_false_eq_true, false_implies, true_implies, forall_const, implies_true, imp_self, and_self, false_and, and_false, ne_eq, zk_42, zfv_42_0, zf_42_0, zfv_42_1, zf_42_1, zfv_42_2, zf_42_2, zfv_42_3, zfv_42_4, zfv_42_5, zfv_42_6, zfv_42_7, zfv_42_8, zfv_42_9, zf_42_9, zfv_42_10, zf_42_10, zfv_42_11, zf_42_11, zfv_42_12, zfv_42_13, zfv_42_14, zfv_42_15, zfv_42_16, zfv_42_17, zfv_42_18, zf_42_18, zfv_42_19, zf_42_19, zfv_42_20, zfv_42_21, zfv_42_22, zfv_42_23, zf_42_23, zfv_42_24, zfv_42_25, zfv_42_26, zfv_42_27, zfv_42_28, zfv_42_29, zfv_42_30, zfv_42_31, zf_42_31, zk_43, zn_43, zk_44, zn_44, zk_45, zn_45, zk_46, zn_46, zk_47, zn_47, zk_48, zn_48, zk_49, zn_49, zk_50, zn_50, zk_51, zn_51, zk_52, zn_52, zk_53, zn_53, zk_54, zn_54, zk_55, zn_55, zk_56, zn_56, zk_57, zn_57, zk_58, zn_58, zk_59, zn_59, zk_60, zn_60, zk_61, zn_61, zk_62, zn_62, zk_63, zn_63, zk_64, zn_64, hcn, h1, hc, hz, g2, e3, hq, nI_1]
        simp
      · have hn : ¬ fmso M (r + 1) := fun h => hq (by have := h r (by omega); rw [g2, hgc] at this; exact this)
        rw [zbp_t hp, zbp_f hn]
        simp only [q136_0, q136_1i, q136_1r, q136_1n, q136_2, q136_3i, q136_3r, q136_3n, q136_5, q136_6, q136_9, q136_12, q136_13, q136_16, q136_17, q136_18, q136_21, q136_22, q136_23, q136_24, q136_27, q136_28, q136_29, q136_32, q136_33, q136_36, q136_37, q136_38, q136_41, q136_42, q136_45, q136_46i, q136_46r, q136_46n, q136_47i, q136_47r, q136_47n, q136_50, q136_53, q136_54, zNC, zcs_0, zcs_i, zcs_r, zcs_l, zpush_0, zpush_i, zpush_l, and_true, true_and, Nat.reduceLT, Nat.reduceLeDiff, Nat.reduceAdd, Nat.reduceMul, reduceIte, ite_true, ite_false, if_true, if_false, not_true_eq_false, not_false_eq_true, false_implies, true_implies, forall_const, implies_true, imp_self, and_self, false_and, and_false, ne_eq, zk_42, zfv_42_0, zf_42_0, zfv_42_1, zf_42_1, zfv_42_2, zf_42_2, zfv_42_3, zfv_42_4, zfv_42_5, zfv_42_6, zfv_42_7, zfv_42_8, zfv_42_9, zf_42_9, zfv_42_10, zf_42_10, zfv_42_11, zf_42_11, zfv_42_12, zfv_42_13, zfv_42_14, zfv_42_15, zfv_42_16, zfv_42_17, zfv_42_18, zf_42_18, zfv_42_19, zf_42_19, zfv_42_20, zfv_42_21, zfv_42_22, zfv_42_23, zf_42_23, zfv_42_24, zfv_42_25, zfv_42_26, zfv_42_27, zfv_42_28, zfv_42_29, zfv_42_30, zfv_42_31, zf_42_31, zk_43, zn_43, zk_44, zn_44, zk_45, zn_45, zk_46, zn_46, zk_47, zn_47, zk_48, zn_48, zk_49, zn_49, zk_50, zn_50, zk_51, zn_51, zk_52, zn_52, zk_53, zn_53, zk_54, zn_54, zk_55, zn_55, zk_56, zn_56, zk_57, zn_57, zk_58, zn_58, zk_59, zn_59, zk_60, zn_60, zk_61, zn_61, zk_62, zn_62, zk_63, zn_63, zk_64, zn_64, hcn, h1, hc, hz, g2, e3, hq, nI_1]
        simp
    · have hn : ¬ fmso M (r + 1) := fun h => hp (fun r' hr' => h r' (by omega))
      rw [zbp_f hp, zbp_f hn]
      simp only [q136_0, q136_1i, q136_1r, q136_1n, q136_2, q136_3i, q136_3r, q136_3n, q136_5, q136_6, q136_9, q136_12, q136_13, q136_16, q136_17, q136_18, q136_21, q136_22, q136_23, q136_24, q136_27, q136_28, q136_29, q136_32, q136_33, q136_36, q136_37, q136_38, q136_41, q136_42, q136_45, q136_46i, q136_46r, q136_46n, q136_47i, q136_47r, q136_47n, q136_50, q136_53, q136_54, zNC, zcs_0, zcs_i, zcs_r, zcs_l, zpush_0, zpush_i, zpush_l, and_true, true_and, Nat.reduceLT, Nat.reduceLeDiff, Nat.reduceAdd, Nat.reduceMul, reduceIte, ite_true, ite_false, if_true, if_false, not_true_eq_false, not_false_eq_true, false_implies, true_implies, forall_const, implies_true, imp_self, and_self, false_and, and_false, ne_eq, zk_42, zfv_42_0, zf_42_0, zfv_42_1, zf_42_1, zfv_42_2, zf_42_2, zfv_42_3, zfv_42_4, zfv_42_5, zfv_42_6, zfv_42_7, zfv_42_8, zfv_42_9, zf_42_9, zfv_42_10, zf_42_10, zfv_42_11, zf_42_11, zfv_42_12, zfv_42_13, zfv_42_14, zfv_42_15, zfv_42_16, zfv_42_17, zfv_42_18, zf_42_18, zfv_42_19, zf_42_19, zfv_42_20, zfv_42_21, zfv_42_22, zfv_42_23, zf_42_23, zfv_42_24, zfv_42_25, zfv_42_26, zfv_42_27, zfv_42_28, zfv_42_29, zfv_42_30, zfv_42_31, zf_42_31, zk_43, zn_43, zk_44, zn_44, zk_45, zn_45, zk_46, zn_46, zk_47, zn_47, zk_48, zn_48, zk_49, zn_49, zk_50, zn_50, zk_51, zn_51, zk_52, zn_52, zk_53, zn_53, zk_54, zn_54, zk_55, zn_55, zk_56, zn_56, zk_57, zn_57, zk_58, zn_58, zk_59, zn_59, zk_60, zn_60, zk_61, zn_61, zk_62, zn_62, zk_63, zn_63, zk_64, zn_64, hcn, h1, hc, hz, g2, e3, nI_1]
theorem s_mAreSo (h6 : h ≤ 6) (H : zKm M h) (S : ∀ k, k < h → 0 ≤ M 44 k) (R : zRm M h c) : zQ 136 0 [.ref 42, .null, .null] [] M Q ↔ Q (zI (zbp (fmso M c))) M := by
  have e := l_mAreSo (Q := Q) h6 H S R c 0 (by omega)
  rw [zbp_t (show fmso M 0 from fun _ h => absurd h (Nat.not_lt_zero _))] at e
  rw [← e]
  simp only [q136_0, q136_1i, q136_1r, q136_1n, q136_2, q136_3i, q136_3r, q136_3n, q136_5, q136_6, q136_9, q136_12, q136_13, q136_16, q136_17, q136_18, q136_21, q136_22, q136_23, q136_24, q136_27, q136_28, q136_29, q136_32, q136_33, q136_36, q136_37, q136_38, q136_41, q136_42, q136_45, q136_46i, q136_46r, q136_46n, q136_47i, q136_47r, q136_47n, q136_50, q136_53, q136_54, nI_0]
noncomputable def fmsf (M : zM) (p k c : Nat) (v : Nat) : Bool := @decide (fmso (zup M p k (nI v)) c) (Classical.propDecidable _)
theorem l_mNecks (hk : k < 6) (h6 : h ≤ 6) (H : zKm M h) (S : ∀ k, k < h → 0 ≤ M 44 k) (R : zRm M h c) : ∀ d v x, v + d = 10 → (zQ 137 22 [.ref 42, .int (nI k), .int (M 46 k), .int (bset (fmsf M 46 k c) v), .int (nI v)] [] (zup M 46 k x) Q ↔ Q (zI (bset (fmsf M 46 k c) 10)) M) := by
  have hc : (nI k).toNatClampNeg = k := nI_clamp (by omega)
  have hz := zin_nI (k := k) (n := 6) hk (by decide)
  intro d
  induction d with
  | zero =>
    intro v x hv
    obtain rfl : v = 10 := by omega
    have f : (10 : Int32) ≤ nI 10 := i_le_refl _
    rw [q137_22]
    simp only [q137_0, q137_1, q137_2, q137_5, q137_8, q137_9, q137_10, q137_11, q137_14, q137_15, q137_16i, q137_16r, q137_16n, q137_17, q137_18i, q137_18r, q137_18n, q137_19, q137_20i, q137_20r, q137_20n, q137_24, q137_26, q137_29, q137_30, q137_33, q137_34, q137_36, q137_37, q137_38, q137_39, q137_42, q137_45, q137_46, q137_48, q137_49, q137_52, q137_53, q137_54i, q137_54r, q137_54n, q137_55i, q137_55r, q137_55n, q137_58, q137_61, q137_62, q137_65, q137_66, q137_67, q137_68, q137_69, zNC, zcs_0, zcs_i, zcs_r, zcs_l, zpush_0, zpush_i, zpush_l, and_true, true_and, Nat.reduceLT, Nat.reduceLeDiff, Nat.reduceAdd, Nat.reduceMul, reduceIte, ite_true, ite_false, if_true, if_false, not_true_eq_false, not_false_eq_true, false_implies, true_implies, forall_const, implies_true, imp_self, and_self, false_and, and_false, ne_eq, zk_42, zfv_42_0, zf_42_0, zfv_42_1, zf_42_1, zfv_42_2, zf_42_2, zfv_42_3, zfv_42_4, zfv_42_5, zfv_42_6, zfv_42_7, zfv_42_8, zfv_42_9, zf_42_9, zfv_42_10, zf_42_10, zfv_42_11, zf_42_11, zfv_42_12, zfv_42_13, zfv_42_14, zfv_42_15, zfv_42_16, zfv_42_17, zfv_42_18, zf_42_18, zfv_42_19, zf_42_19, zfv_42_20, zfv_42_21, zfv_42_22, zfv_42_23, zf_42_23, zfv_42_24, zfv_42_25, zfv_42_26, zfv_42_27, zfv_42_28, zfv_42_29, zfv_42_30, zfv_42_31, zf_42_31, zk_43, zn_43, zk_44, zn_44, zk_45, zn_45, zk_46, zn_46, zk_47, zn_47, zk_48, zn_48, zk_49, zn_49, zk_50, zn_50, zk_51, zn_51, zk_52, zn_52, zk_53, zn_53, zk_54, zn_54, zk_55, zn_55, zk_56, zn_56, zk_57, zn_57, zk_58, zn_58, zk_59, zn_59, zk_60, zn_60, zk_61, zn_61, zk_62, zn_62, zk_63, zn_63, zk_64, zn_64, f, hc, hz, zup_zup, zup_id]
  | succ d ih =>
    intro v x hv
    have h1 : ¬ (10 : Int32) ≤ nI v := nI_ge (a := v) (b := 10) (by omega) (by omega)
    have e1 : ∀ Q' : zR → zM → Prop, zQ 136 0 [.ref 42, .null, .null] [] (zup M 46 k (nI v)) Q' ↔ Q' (zI (zbp (fmso (zup M 46 k (nI v)) c))) (zup M 46 k (nI v)) := fun Q' => s_mAreSo (M := zup M 46 k (nI v)) h6 H S R
    have ih' := ih (v + 1) (nI v) (by omega)
    rw [q137_22, ← ih']
    simp only [bset]
    by_cases hf : fmso (zup M 46 k (nI v)) c
    · have hf2 : fmsf M 46 k c v = true := by unfold fmsf; exact @decide_eq_true _ (Classical.propDecidable _) hf
      rw [if_pos hf2]
      rw [zbp_t hf] at e1
      simp only [q137_0, q137_1, q137_2, q137_5, q137_8, q137_9, q137_10, q137_11, q137_14, q137_15, q137_16i, q137_16r, q137_16n, q137_17, q137_18i, q137_18r, q137_18n, q137_19, q137_20i, q137_20r, q137_20n, q137_24, q137_26, q137_29, q137_30, q137_33, q137_34, q137_36, q137_37, q137_38, q137_39, q137_42, q137_45, q137_46, q137_48, q137_49, q137_52, q137_53, q137_54i, q137_54r, q137_54n, q137_55i, q137_55r, q137_55n, q137_58, q137_61, q137_62, q137_65, q137_66, q137_67, q137_68, q137_69, zNC, zcs_0, zcs_i, zcs_r, zcs_l, zpush_0, zpush_i, zpush_l, and_true, true_and, Nat.reduceLT, Nat.reduceLeDiff, Nat.reduceAdd, Nat.reduceMul, reduceIte, ite_true, ite_false, if_true, if_false, not_true_eq_false, not_false_eq_true, false_implies, true_implies, forall_const, implies_true, imp_self, and_self, false_and, and_false, ne_eq, zk_42, zfv_42_0, zf_42_0, zfv_42_1, zf_42_1, zfv_42_2, zf_42_2, zfv_42_3, zfv_42_4, zfv_42_5, zfv_42_6, zfv_42_7, zfv_42_8, zfv_42_9, zf_42_9, zfv_42_10, zf_42_10, zfv_42_11, zf_42_11, zfv_42_12, zfv_42_13, zfv_42_14, zfv_42_15, zfv_42_16, zfv_42_17, zfv_42_18, zf_42_18, zfv_42_19, zf_42_19, zfv_42_20, zfv_42_21, zfv_42_22, zfv_42_23, zf_42_23, zfv_42_24, zfv_42_25, zfv_42_26, zfv_42_27, zfv_42_28, zfv_42_29, zfv_42_30, zfv_42_31, zf_42_31, zk_43, zn_43, zk_44, zn_44, zk_45, zn_45, zk_46, zn_46, zk_47, zn_47, zk_48, zn_48, zk_49, zn_49, zk_50, zn_50, zk_51, zn_51, zk_52, zn_52, zk_53, zn_53, zk_54, zn_54, zk_55, zn_55, zk_56, zn_56, zk_57, zn_57, zk_58, zn_58, zk_59, zn_59, zk_60, zn_60, zk_61, zn_61, zk_62, zn_62, zk_63, zn_63, zk_64, zn_64, h1, hc, hz, zup_zup, e1, nI_1] <;> simp
    · have hf2 : ¬ fmsf M 46 k c v = true := by unfold fmsf; exact fun h => hf (@of_decide_eq_true _ (Classical.propDecidable _) h)
      rw [if_neg hf2]
      rw [zbp_f hf] at e1
      simp only [q137_0, q137_1, q137_2, q137_5, q137_8, q137_9, q137_10, q137_11, q137_14, q137_15, q137_16i, q137_16r, q137_16n, q137_17, q137_18i, q137_18r, q137_18n, q137_19, q137_20i, q137_20r, q137_20n, q137_24, q137_26, q137_29, q137_30, q137_33, q137_34, q137_36, q137_37, q137_38, q137_39, q137_42, q137_45, q137_46, q137_48, q137_49, q137_52, q137_53, q137_54i, q137_54r, q137_54n, q137_55i, q137_55r, q137_55n, q137_58, q137_61, q137_62, q137_65, q137_66, q137_67, q137_68, q137_69, zNC, zcs_0, zcs_i, zcs_r, zcs_l, zpush_0, zpush_i, zpush_l, and_true, true_and, Nat.reduceLT, Nat.reduceLeDiff, Nat.reduceAdd, Nat.reduceMul, reduceIte, ite_true, ite_false, if_true, if_false, not_true_eq_false, not_false_eq_true, false_implies, true_implies, forall_const, implies_true, imp_self, and_self, false_and, and_false, ne_eq, zk_42, zfv_42_0, zf_42_0, zfv_42_1, zf_42_1, zfv_42_2, zf_42_2, zfv_42_3, zfv_42_4, zfv_42_5, zfv_42_6, zfv_42_7, zfv_42_8, zfv_42_9, zf_42_9, zfv_42_10, zf_42_10, zfv_42_11, zf_42_11, zfv_42_12, zfv_42_13, zfv_42_14, zfv_42_15, zfv_42_16, zfv_42_17, zfv_42_18, zf_42_18, zfv_42_19, zf_42_19, zfv_42_20, zfv_42_21, zfv_42_22, zfv_42_23, zf_42_23, zfv_42_24, zfv_42_25, zfv_42_26, zfv_42_27, zfv_42_28, zfv_42_29, zfv_42_30, zfv_42_31, zf_42_31, zk_43, zn_43, zk_44, zn_44, zk_45, zn_45, zk_46, zn_46, zk_47, zn_47, zk_48, zn_48, zk_49, zn_49, zk_50, zn_50, zk_51, zn_51, zk_52, zn_52, zk_53, zn_53, zk_54, zn_54, zk_55, zn_55, zk_56, zn_56, zk_57, zn_57, zk_58, zn_58, zk_59, zn_59, zk_60, zn_60, zk_61, zn_61, zk_62, zn_62, zk_63, zn_63, zk_64, zn_64, h1, hc, hz, zup_zup, e1, nI_1] <;> simp
theorem l_mKinds (hk : k < 6) (h6 : h ≤ 6) (H : zKm M h) (S : ∀ k, k < h → 0 ≤ M 44 k) (R : zRm M h c) : ∀ d v x, v + d = 3 → (zQ 138 22 [.ref 42, .int (nI k), .int (M 43 k), .int (bset (fmsf M 43 k c) v), .int (nI v)] [] (zup M 43 k x) Q ↔ Q (zI (bset (fmsf M 43 k c) 3)) M) := by
  have hc : (nI k).toNatClampNeg = k := nI_clamp (by omega)
  have hz := zin_nI (k := k) (n := 6) hk (by decide)
  intro d
  induction d with
  | zero =>
    intro v x hv
    obtain rfl : v = 3 := by omega
    have f : (3 : Int32) ≤ nI 3 := i_le_refl _
    rw [q138_22]
    simp only [q138_0, q138_1, q138_2, q138_5, q138_8, q138_9, q138_10, q138_11, q138_14, q138_15, q138_16i, q138_16r, q138_16n, q138_17, q138_18i, q138_18r, q138_18n, q138_19, q138_20i, q138_20r, q138_20n, q138_24, q138_25, q138_28, q138_29, q138_32, q138_33, q138_35, q138_36, q138_37, q138_38, q138_41, q138_44, q138_45, q138_47, q138_48, q138_51, q138_52, q138_53i, q138_53r, q138_53n, q138_54i, q138_54r, q138_54n, q138_57, q138_60, q138_61, q138_64, q138_65, q138_66, q138_67, q138_68, zNC, zcs_0, zcs_i, zcs_r, zcs_l, zpush_0, zpush_i, zpush_l, and_true, true_and, Nat.reduceLT, Nat.reduceLeDiff, Nat.reduceAdd, Nat.reduceMul, reduceIte, ite_true, ite_false, if_true, if_false, not_true_eq_false, not_false_eq_true, false_implies, true_implies, forall_const, implies_true, imp_self, and_self, false_and, and_false, ne_eq, zk_42, zfv_42_0, zf_42_0, zfv_42_1, zf_42_1, zfv_42_2, zf_42_2, zfv_42_3, zfv_42_4, zfv_42_5, zfv_42_6, zfv_42_7, zfv_42_8, zfv_42_9, zf_42_9, zfv_42_10, zf_42_10, zfv_42_11, zf_42_11, zfv_42_12, zfv_42_13, zfv_42_14, zfv_42_15, zfv_42_16, zfv_42_17, zfv_42_18, zf_42_18, zfv_42_19, zf_42_19, zfv_42_20, zfv_42_21, zfv_42_22, zfv_42_23, zf_42_23, zfv_42_24, zfv_42_25, zfv_42_26, zfv_42_27, zfv_42_28, zfv_42_29, zfv_42_30, zfv_42_31, zf_42_31, zk_43, zn_43, zk_44, zn_44, zk_45, zn_45, zk_46, zn_46, zk_47, zn_47, zk_48, zn_48, zk_49, zn_49, zk_50, zn_50, zk_51, zn_51, zk_52, zn_52, zk_53, zn_53, zk_54, zn_54, zk_55, zn_55, zk_56, zn_56, zk_57, zn_57, zk_58, zn_58, zk_59, zn_59, zk_60, zn_60, zk_61, zn_61, zk_62, zn_62, zk_63, zn_63, zk_64, zn_64, f, hc, hz, zup_zup, zup_id]
  | succ d ih =>
    intro v x hv
    have h1 : ¬ (3 : Int32) ≤ nI v := nI_ge (a := v) (b := 3) (by omega) (by omega)
    have e1 : ∀ Q' : zR → zM → Prop, zQ 136 0 [.ref 42, .null, .null] [] (zup M 43 k (nI v)) Q' ↔ Q' (zI (zbp (fmso (zup M 43 k (nI v)) c))) (zup M 43 k (nI v)) := fun Q' => s_mAreSo (M := zup M 43 k (nI v)) h6 H S R
    have ih' := ih (v + 1) (nI v) (by omega)
    rw [q138_22, ← ih']
    simp only [bset]
    by_cases hf : fmso (zup M 43 k (nI v)) c
    · have hf2 : fmsf M 43 k c v = true := by unfold fmsf; exact @decide_eq_true _ (Classical.propDecidable _) hf
      rw [if_pos hf2]
      rw [zbp_t hf] at e1
      simp only [q138_0, q138_1, q138_2, q138_5, q138_8, q138_9, q138_10, q138_11, q138_14, q138_15, q138_16i, q138_16r, q138_16n, q138_17, q138_18i, q138_18r, q138_18n, q138_19, q138_20i, q138_20r, q138_20n, q138_24, q138_25, q138_28, q138_29, q138_32, q138_33, q138_35, q138_36, q138_37, q138_38, q138_41, q138_44, q138_45, q138_47, q138_48, q138_51, q138_52, q138_53i, q138_53r, q138_53n, q138_54i, q138_54r, q138_54n, q138_57, q138_60, q138_61, q138_64, q138_65, q138_66, q138_67, q138_68, zNC, zcs_0, zcs_i, zcs_r, zcs_l, zpush_0, zpush_i, zpush_l, and_true, true_and, Nat.reduceLT, Nat.reduceLeDiff, Nat.reduceAdd, Nat.reduceMul, reduceIte, ite_true, ite_false, if_true, if_false, not_true_eq_false, not_false_eq_true, false_implies, true_implies, forall_const, implies_true, imp_self, and_self, false_and, and_false, ne_eq, zk_42, zfv_42_0, zf_42_0, zfv_42_1, zf_42_1, zfv_42_2, zf_42_2, zfv_42_3, zfv_42_4, zfv_42_5, zfv_42_6, zfv_42_7, zfv_42_8, zfv_42_9, zf_42_9, zfv_42_10, zf_42_10, zfv_42_11, zf_42_11, zfv_42_12, zfv_42_13, zfv_42_14, zfv_42_15, zfv_42_16, zfv_42_17, zfv_42_18, zf_42_18, zfv_42_19, zf_42_19, zfv_42_20, zfv_42_21, zfv_42_22, zfv_42_23, zf_42_23, zfv_42_24, zfv_42_25, zfv_42_26, zfv_42_27, zfv_42_28, zfv_42_29, zfv_42_30, zfv_42_31, zf_42_31, zk_43, zn_43, zk_44, zn_44, zk_45, zn_45, zk_46, zn_46, zk_47, zn_47, zk_48, zn_48, zk_49, zn_49, zk_50, zn_50, zk_51, zn_51, zk_52, zn_52, zk_53, zn_53, zk_54, zn_54, zk_55, zn_55, zk_56, zn_56, zk_57, zn_57, zk_58, zn_58, zk_59, zn_59, zk_60, zn_60, zk_61, zn_61, zk_62, zn_62, zk_63, zn_63, zk_64, zn_64, h1, hc, hz, zup_zup, e1, nI_1] <;> simp
    · have hf2 : ¬ fmsf M 43 k c v = true := by unfold fmsf; exact fun h => hf (@of_decide_eq_true _ (Classical.propDecidable _) h)
      rw [if_neg hf2]
      rw [zbp_f hf] at e1
      simp only [q138_0, q138_1, q138_2, q138_5, q138_8, q138_9, q138_10, q138_11, q138_14, q138_15, q138_16i, q138_16r, q138_16n, q138_17, q138_18i, q138_18r, q138_18n, q138_19, q138_20i, q138_20r, q138_20n, q138_24, q138_25, q138_28, q138_29, q138_32, q138_33, q138_35, q138_36, q138_37, q138_38, q138_41, q138_44, q138_45, q138_47, q138_48, q138_51, q138_52, q138_53i, q138_53r, q138_53n, q138_54i, q138_54r, q138_54n, q138_57, q138_60, q138_61, q138_64, q138_65, q138_66, q138_67, q138_68, zNC, zcs_0, zcs_i, zcs_r, zcs_l, zpush_0, zpush_i, zpush_l, and_true, true_and, Nat.reduceLT, Nat.reduceLeDiff, Nat.reduceAdd, Nat.reduceMul, reduceIte, ite_true, ite_false, if_true, if_false, not_true_eq_false, not_false_eq_true, false_implies, true_implies, forall_const, implies_true, imp_self, and_self, false_and, and_false, ne_eq, zk_42, zfv_42_0, zf_42_0, zfv_42_1, zf_42_1, zfv_42_2, zf_42_2, zfv_42_3, zfv_42_4, zfv_42_5, zfv_42_6, zfv_42_7, zfv_42_8, zfv_42_9, zf_42_9, zfv_42_10, zf_42_10, zfv_42_11, zf_42_11, zfv_42_12, zfv_42_13, zfv_42_14, zfv_42_15, zfv_42_16, zfv_42_17, zfv_42_18, zf_42_18, zfv_42_19, zf_42_19, zfv_42_20, zfv_42_21, zfv_42_22, zfv_42_23, zf_42_23, zfv_42_24, zfv_42_25, zfv_42_26, zfv_42_27, zfv_42_28, zfv_42_29, zfv_42_30, zfv_42_31, zf_42_31, zk_43, zn_43, zk_44, zn_44, zk_45, zn_45, zk_46, zn_46, zk_47, zn_47, zk_48, zn_48, zk_49, zn_49, zk_50, zn_50, zk_51, zn_51, zk_52, zn_52, zk_53, zn_53, zk_54, zn_54, zk_55, zn_55, zk_56, zn_56, zk_57, zn_57, zk_58, zn_58, zk_59, zn_59, zk_60, zn_60, zk_61, zn_61, zk_62, zn_62, zk_63, zn_63, zk_64, zn_64, h1, hc, hz, zup_zup, e1, nI_1] <;> simp
theorem l_mKeepers (hk : k < 6) (hh : M 42 1 = nI h) (h6 : h ≤ 6) (H : ∀ v, v < h → zKm (zup M 48 k (nI v)) h) (S : ∀ k, k < h → 0 ≤ M 44 k) (R : zRm M h c) : ∀ d v x, v + d = h → (zQ 139 22 [.ref 42, .int (nI k), .int (M 48 k), .int (bset (fmsf M 48 k c) v), .int (nI v)] [] (zup M 48 k x) Q ↔ Q (zI (bset (fmsf M 48 k c) h)) M) := by
  have hc : (nI k).toNatClampNeg = k := nI_clamp (by omega)
  have hz := zin_nI (k := k) (n := 6) hk (by decide)
  have hh2 : ∀ x, zup M 48 k x 42 1 = nI h := fun x => hh
  intro d
  induction d with
  | zero =>
    intro v x hv
    obtain rfl : v = h := by omega
    rw [q139_22]
    simp only [q139_0, q139_1, q139_2, q139_5, q139_8, q139_9, q139_10, q139_11, q139_14, q139_15, q139_16i, q139_16r, q139_16n, q139_17, q139_18i, q139_18r, q139_18n, q139_19, q139_20i, q139_20r, q139_20n, q139_24, q139_25, q139_28, q139_31, q139_32, q139_35, q139_36, q139_38, q139_39, q139_40, q139_41, q139_44, q139_47, q139_48, q139_50, q139_51, q139_54, q139_55, q139_56i, q139_56r, q139_56n, q139_57i, q139_57r, q139_57n, q139_60, q139_63, q139_64, q139_67, q139_68, q139_69, q139_70, q139_71, zNC, zcs_0, zcs_i, zcs_r, zcs_l, zpush_0, zpush_i, zpush_l, and_true, true_and, Nat.reduceLT, Nat.reduceLeDiff, Nat.reduceAdd, Nat.reduceMul, reduceIte, ite_true, ite_false, if_true, if_false, not_true_eq_false, not_false_eq_true, false_implies, true_implies, forall_const, implies_true, imp_self, and_self, false_and, and_false, ne_eq, zk_42, zfv_42_0, zf_42_0, zfv_42_1, zf_42_1, zfv_42_2, zf_42_2, zfv_42_3, zfv_42_4, zfv_42_5, zfv_42_6, zfv_42_7, zfv_42_8, zfv_42_9, zf_42_9, zfv_42_10, zf_42_10, zfv_42_11, zf_42_11, zfv_42_12, zfv_42_13, zfv_42_14, zfv_42_15, zfv_42_16, zfv_42_17, zfv_42_18, zf_42_18, zfv_42_19, zf_42_19, zfv_42_20, zfv_42_21, zfv_42_22, zfv_42_23, zf_42_23, zfv_42_24, zfv_42_25, zfv_42_26, zfv_42_27, zfv_42_28, zfv_42_29, zfv_42_30, zfv_42_31, zf_42_31, zk_43, zn_43, zk_44, zn_44, zk_45, zn_45, zk_46, zn_46, zk_47, zn_47, zk_48, zn_48, zk_49, zn_49, zk_50, zn_50, zk_51, zn_51, zk_52, zn_52, zk_53, zn_53, zk_54, zn_54, zk_55, zn_55, zk_56, zn_56, zk_57, zn_57, zk_58, zn_58, zk_59, zn_59, zk_60, zn_60, zk_61, zn_61, zk_62, zn_62, zk_63, zn_63, zk_64, zn_64, hh2, i_le_refl, hc, hz, zup_zup, zup_id]
  | succ d ih =>
    intro v x hv
    have h1 : ¬ nI h ≤ nI v := nI_ge (by omega) (by omega)
    have e1 : ∀ Q' : zR → zM → Prop, zQ 136 0 [.ref 42, .null, .null] [] (zup M 48 k (nI v)) Q' ↔ Q' (zI (zbp (fmso (zup M 48 k (nI v)) c))) (zup M 48 k (nI v)) := fun Q' => s_mAreSo (M := zup M 48 k (nI v)) h6 (H v (by omega)) S R
    have ih' := ih (v + 1) (nI v) (by omega)
    rw [q139_22, ← ih']
    simp only [bset]
    by_cases hf : fmso (zup M 48 k (nI v)) c
    · have hf2 : fmsf M 48 k c v = true := by unfold fmsf; exact @decide_eq_true _ (Classical.propDecidable _) hf
      rw [if_pos hf2]
      rw [zbp_t hf] at e1
      simp only [q139_0, q139_1, q139_2, q139_5, q139_8, q139_9, q139_10, q139_11, q139_14, q139_15, q139_16i, q139_16r, q139_16n, q139_17, q139_18i, q139_18r, q139_18n, q139_19, q139_20i, q139_20r, q139_20n, q139_24, q139_25, q139_28, q139_31, q139_32, q139_35, q139_36, q139_38, q139_39, q139_40, q139_41, q139_44, q139_47, q139_48, q139_50, q139_51, q139_54, q139_55, q139_56i, q139_56r, q139_56n, q139_57i, q139_57r, q139_57n, q139_60, q139_63, q139_64, q139_67, q139_68, q139_69, q139_70, q139_71, zNC, zcs_0, zcs_i, zcs_r, zcs_l, zpush_0, zpush_i, zpush_l, and_true, true_and, Nat.reduceLT, Nat.reduceLeDiff, Nat.reduceAdd, Nat.reduceMul, reduceIte, ite_true, ite_false, if_true, if_false, not_true_eq_false, not_false_eq_true, false_implies, true_implies, forall_const, implies_true, imp_self, and_self, false_and, and_false, ne_eq, zk_42, zfv_42_0, zf_42_0, zfv_42_1, zf_42_1, zfv_42_2, zf_42_2, zfv_42_3, zfv_42_4, zfv_42_5, zfv_42_6, zfv_42_7, zfv_42_8, zfv_42_9, zf_42_9, zfv_42_10, zf_42_10, zfv_42_11, zf_42_11, zfv_42_12, zfv_42_13, zfv_42_14, zfv_42_15, zfv_42_16, zfv_42_17, zfv_42_18, zf_42_18, zfv_42_19, zf_42_19, zfv_42_20, zfv_42_21, zfv_42_22, zfv_42_23, zf_42_23, zfv_42_24, zfv_42_25, zfv_42_26, zfv_42_27, zfv_42_28, zfv_42_29, zfv_42_30, zfv_42_31, zf_42_31, zk_43, zn_43, zk_44, zn_44, zk_45, zn_45, zk_46, zn_46, zk_47, zn_47, zk_48, zn_48, zk_49, zn_49, zk_50, zn_50, zk_51, zn_51, zk_52, zn_52, zk_53, zn_53, zk_54, zn_54, zk_55, zn_55, zk_56, zn_56, zk_57, zn_57, zk_58, zn_58, zk_59, zn_59, zk_60, zn_60, zk_61, zn_61, zk_62, zn_62, zk_63, zn_63, zk_64, zn_64, hh2, h1, hc, hz, zup_zup, e1, nI_1] <;> simp
    · have hf2 : ¬ fmsf M 48 k c v = true := by unfold fmsf; exact fun h => hf (@of_decide_eq_true _ (Classical.propDecidable _) h)
      rw [if_neg hf2]
      rw [zbp_f hf] at e1
      simp only [q139_0, q139_1, q139_2, q139_5, q139_8, q139_9, q139_10, q139_11, q139_14, q139_15, q139_16i, q139_16r, q139_16n, q139_17, q139_18i, q139_18r, q139_18n, q139_19, q139_20i, q139_20r, q139_20n, q139_24, q139_25, q139_28, q139_31, q139_32, q139_35, q139_36, q139_38, q139_39, q139_40, q139_41, q139_44, q139_47, q139_48, q139_50, q139_51, q139_54, q139_55, q139_56i, q139_56r, q139_56n, q139_57i, q139_57r, q139_57n, q139_60, q139_63, q139_64, q139_67, q139_68, q139_69, q139_70, q139_71, zNC, zcs_0, zcs_i, zcs_r, zcs_l, zpush_0, zpush_i, zpush_l, and_true, true_and, Nat.reduceLT, Nat.reduceLeDiff, Nat.reduceAdd, Nat.reduceMul, reduceIte, ite_true, ite_false, if_true, if_false, not_true_eq_false, not_false_eq_true, false_implies, true_implies, forall_const, implies_true, imp_self, and_self, false_and, and_false, ne_eq, zk_42, zfv_42_0, zf_42_0, zfv_42_1, zf_42_1, zfv_42_2, zf_42_2, zfv_42_3, zfv_42_4, zfv_42_5, zfv_42_6, zfv_42_7, zfv_42_8, zfv_42_9, zf_42_9, zfv_42_10, zf_42_10, zfv_42_11, zf_42_11, zfv_42_12, zfv_42_13, zfv_42_14, zfv_42_15, zfv_42_16, zfv_42_17, zfv_42_18, zf_42_18, zfv_42_19, zf_42_19, zfv_42_20, zfv_42_21, zfv_42_22, zfv_42_23, zf_42_23, zfv_42_24, zfv_42_25, zfv_42_26, zfv_42_27, zfv_42_28, zfv_42_29, zfv_42_30, zfv_42_31, zf_42_31, zk_43, zn_43, zk_44, zn_44, zk_45, zn_45, zk_46, zn_46, zk_47, zn_47, zk_48, zn_48, zk_49, zn_49, zk_50, zn_50, zk_51, zn_51, zk_52, zn_52, zk_53, zn_53, zk_54, zn_54, zk_55, zn_55, zk_56, zn_56, zk_57, zn_57, zk_58, zn_58, zk_59, zn_59, zk_60, zn_60, zk_61, zn_61, zk_62, zn_62, zk_63, zn_63, zk_64, zn_64, hh2, h1, hc, hz, zup_zup, e1, nI_1] <;> simp
end MO
section IV
variable {M M' : zM} {h y lw c k t : Nat}
/-- both sides' READINGS are so together, whatever stands as neck, kind, keeper on both -/
theorem so_iff (p q : Nat → Nat → Int32) (hl : ∀ i, i < h → fml M i = M 8 i) (hs : ∀ i, i < h → M 44 i = M 3 i) (hr : ∀ i, i < h → fmr M i = frk M' 1 i) (e8 : M' 8 = M 8) (e3 : M' 3 = M 3) (R : ∀ r, r < c → M 58 r = M' 30 r ∧ M 59 r = M' 31 r ∧ M 60 r = M' 32 r ∧ ∃ g, g < h ∧ M' 30 r = nI g) (h6 : h ≤ 6) : fmso M c ↔ ∀ r, r < c → fso M' r := by
  unfold fmso fso
  constructor
  · intro H r hrc
    obtain ⟨a, b, d, g, hg, eg⟩ := R r hrc
    have hgc : (nI g).toNatClampNeg = g := nI_clamp (by omega)
    have := H r hrc
    rw [a, b, d, eg, hgc] at this
    rw [eg, hgc, ← this]
    unfold fsbk fmsb
    show fsb (M' 8 g) (M' 3 g) _ _ = _
    rw [hl g hg, hs g hg, hr g hg, e8, e3]
  · intro H r hrc
    obtain ⟨a, b, d, g, hg, eg⟩ := R r hrc
    have hgc : (nI g).toNatClampNeg = g := nI_clamp (by omega)
    have := H r hrc
    rw [eg, hgc] at this
    rw [a, b, d, eg, hgc, ← this]
    unfold fsbk fmsb
    show _ = fsb (M' 8 g) (M' 3 g) _ _
    rw [hl g hg, hs g hg, hr g hg, e8, e3]
end IV
