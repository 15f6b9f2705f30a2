-- SEE: the class reads a whole text into the draft
section IV
variable {M M' : zM} {h y lw c k t a b o n r p m j : Nat} {Q : zR → zM → Prop} {x : Int32} {G : Nat → Int32}
theorem l_readText (hs : zSh c) (hab : a + b ≤ 60) (hG : ∀ z, z < b → M (c + 1) (a + z) = G z) (hm : m ≤ b) (hok : ∀ p, p < m → okc G p) (h2 : 2 ≤ m → h ≤ 6 ∧ fdig (G 1) = nI h) : ∀ d p, p + d = m → (zQ 19 3 [.ref 9, .ref c, .int (nI a), .int (nI b), .int (nI p)] [] (DM M G p) Q ↔ zQ 19 3 [.ref 9, .ref c, .int (nI a), .int (nI b), .int (nI m)] [] (DM M G m) Q) := by
  intro d
  induction d with
  | zero =>
    intro p hp
    obtain rfl : p = m := by omega
    exact Iff.rfl
  | succ d ih =>
    intro p hp
    have hc5 : 15 < c + 1 := by rcases hs with rfl | rfl | rfl | rfl <;> omega
    have e5 : DM M G p (c + 1) (a + p) = G p := by rw [DM_o (Or.inr hc5)]; exact hG p (by omega)
    have h1 : ¬ nI b ≤ nI p := nI_ge (by omega) (by omega)
    have e6 : nI a + nI p = nI (a + p) := nI_add a p
    have hc : (nI (a + p)).toNatClampNeg = a + p := nI_clamp (by omega)
    have hz := zin_nI (k := a + p) (n := 60) (by omega) (by decide)
    obtain ⟨N, -, n2, n3⟩ := t_step (M := M) (G := G) (p := p) (h := h) (by omega) (fun e => h2 (by omega))
    have hk := hok p (by omega)
    rw [zbp_t hk, n2 hk] at n3
    have ih' := ih (p + 1) (by omega)
    rw [q19_3, ← ih']
    rcases hs with rfl | rfl | rfl | rfl <;> simp only [Nat.reduceAdd] at e5 <;> simp only [q19_0, q19_1i, q19_1r, q19_1n, q19_5, q19_6, q19_9, q19_10, q19_12, q19_13, q19_16, q19_17, q19_19, q19_20, q19_21, q19_24, q19_27, q19_29, q19_30i, q19_30r, q19_30n, q19_33, q19_36, q19_37, q19_38, q19_41, q19_42, q19_43, q19_45, q19_46, q19_49, q19_50, q19_51, q19_54, q19_55, q19_56, q19_57, q19_58, q19_61, q19_62i, q19_62r, q19_62n, q19_66, q19_67, q19_70, q19_73, q19_74, q19_77, q19_79, q19_80, q19_83, q19_85, q19_86, q19_87, q19_88, q19_91, q19_93, q19_94, q19_95i, q19_95r, q19_95n, q19_98, q19_101, q19_102, zNC, zcs_0, zcs_i, zcs_r, zcs_l, zpush_0, zpush_i, zpush_l, and_true, true_and, Nat.reduceLT, Nat.reduceLeDiff, Nat.reduceAdd, Nat.reduceMul, reduceIte, ite_true, ite_false, if_true, if_false, not_true_eq_false, not_false_eq_true, false_implies, true_implies, forall_const, implies_true, imp_self, and_self, false_and, and_false, ne_eq, zk_0, zfv_0_0, zfv_0_1, zfv_0_2, zfv_0_3, zfv_0_4, zfv_0_5, zfv_0_6, zf_0_6, zfv_0_7, zf_0_7, zk_25, zfv_25_0, zfv_25_1, zfv_25_2, zf_25_2, zk_26, zn_26, zk_27, zfv_27_0, zk_28, zn_28, zk_29, zfv_29_0, zfv_29_1, zfv_29_2, zfv_29_3, zf_29_3, zk_30, zn_30, zk_31, zn_31, zk_32, zn_32, zk_33, zn_33, zk_34, zfv_34_0, zfv_34_1, zf_34_1, zfv_34_2, zf_34_2, zfv_34_3, zf_34_3, zk_35, zn_35, zk_36, zfv_36_0, zfv_36_1, zf_36_1, zfv_36_2, zf_36_2, zfv_36_3, zf_36_3, zk_37, zn_37, zk_38, zfv_38_0, zfv_38_1, zf_38_1, zfv_38_2, zf_38_2, zfv_38_3, zf_38_3, zk_39, zn_39, zk_40, zfv_40_0, zfv_40_1, zf_40_1, zfv_40_2, zf_40_2, zfv_40_3, zf_40_3, zk_41, zn_41, zk_1, zfv_1_0, zfv_1_1, zfv_1_2, zfv_1_3, zfv_1_4, zfv_1_5, zfv_1_6, zfv_1_7, zf_1_7, zfv_1_8, zf_1_8, zk_9, zfv_9_0, zfv_9_1, zfv_9_2, zfv_9_3, zfv_9_4, zfv_9_5, zfv_9_6, zfv_9_7, zf_9_7, zfv_9_8, zf_9_8, zk_17, zfv_17_0, zfv_17_1, zfv_17_2, zfv_17_3, zfv_17_4, zfv_17_5, zfv_17_6, zfv_17_7, zf_17_7, zfv_17_8, zf_17_8, zk_2, zn_2, zk_3, zn_3, zk_4, zn_4, zk_5, zn_5, zk_6, zn_6, zk_7, zn_7, zk_8, zn_8, zk_10, zn_10, zk_11, zn_11, zk_12, zn_12, zk_13, zn_13, zk_14, zn_14, zk_15, zn_15, zk_16, zn_16, zk_18, zn_18, zk_19, zn_19, zk_20, zn_20, zk_21, zn_21, zk_22, zn_22, zk_23, zn_23, zk_24, zn_24, h1, e6, hc, hz, e5, n3, nI_1] <;> simp
theorem s_readText0 (hs : zSh c) (hab : a + b ≤ 60) (hG : ∀ z, z < b → M (c + 1) (a + z) = G z) (hm : m ≤ b) (hok : ∀ p, p < m → okc G p) (h2 : 2 ≤ m → h ≤ 6 ∧ fdig (G 1) = nI h) : zQ 19 0 [.ref 9, .ref c, .int (nI a), .int (nI b), .null] [] M Q ↔ zQ 19 3 [.ref 9, .ref c, .int (nI a), .int (nI b), .int (nI m)] [] (DM M G m) Q := by
  rw [← l_readText hs hab hG hm hok h2 m 0 (by omega), DM_0]
  simp only [q19_0, q19_1i, q19_1r, q19_1n, q19_5, q19_6, q19_9, q19_10, q19_12, q19_13, q19_16, q19_17, q19_19, q19_20, q19_21, q19_24, q19_27, q19_29, q19_30i, q19_30r, q19_30n, q19_33, q19_36, q19_37, q19_38, q19_41, q19_42, q19_43, q19_45, q19_46, q19_49, q19_50, q19_51, q19_54, q19_55, q19_56, q19_57, q19_58, q19_61, q19_62i, q19_62r, q19_62n, q19_66, q19_67, q19_70, q19_73, q19_74, q19_77, q19_79, q19_80, q19_83, q19_85, q19_86, q19_87, q19_88, q19_91, q19_93, q19_94, q19_95i, q19_95r, q19_95n, q19_98, q19_101, q19_102, nI_0]
theorem s_readText_no (hs : zSh c) (hab : a + b ≤ 60) (hG : ∀ z, z < b → M (c + 1) (a + z) = G z) (hm : m ≤ b) (hok : ∀ p, p < m → okc G p) (hno : m < b → ¬ okc G m) (h2 : 2 ≤ m → h ≤ 6 ∧ fdig (G 1) = nI h) (hbad : ¬ (m = b ∧ 2 ≤ b ∧ b = 2 + 7 * h)) (hQ : ∀ N : zM, (∀ a, a < 9 ∨ 15 < a → N a = M a) → Q (zI (nI m)) N) : zQ 19 0 [.ref 9, .ref c, .int (nI a), .int (nI b), .null] [] M Q := by
  rw [s_readText0 hs hab hG hm hok h2]
  by_cases hmb : m < b
  · have hc5 : 15 < c + 1 := by rcases hs with rfl | rfl | rfl | rfl <;> omega
    have e5 : DM M G m (c + 1) (a + m) = G m := by rw [DM_o (Or.inr hc5)]; exact hG m (by omega)
    have h1 : ¬ nI b ≤ nI m := nI_ge (by omega) (by omega)
    have e6 : nI a + nI m = nI (a + m) := nI_add a m
    have hc : (nI (a + m)).toNatClampNeg = a + m := nI_clamp (by omega)
    have hz := zin_nI (k := a + m) (n := 60) (by omega) (by decide)
    obtain ⟨N, n1, -, n3⟩ := t_step (M := M) (G := G) (p := m) (h := h) (by omega) h2
    have hq := hQ N n1
    rw [zbp_f (hno hmb)] at n3
    rw [q19_3]
    rcases hs with rfl | rfl | rfl | rfl <;> simp only [Nat.reduceAdd] at e5 <;> simp only [q19_0, q19_1i, q19_1r, q19_1n, q19_5, q19_6, q19_9, q19_10, q19_12, q19_13, q19_16, q19_17, q19_19, q19_20, q19_21, q19_24, q19_27, q19_29, q19_30i, q19_30r, q19_30n, q19_33, q19_36, q19_37, q19_38, q19_41, q19_42, q19_43, q19_45, q19_46, q19_49, q19_50, q19_51, q19_54, q19_55, q19_56, q19_57, q19_58, q19_61, q19_62i, q19_62r, q19_62n, q19_66, q19_67, q19_70, q19_73, q19_74, q19_77, q19_79, q19_80, q19_83, q19_85, q19_86, q19_87, q19_88, q19_91, q19_93, q19_94, q19_95i, q19_95r, q19_95n, q19_98, q19_101, q19_102, zNC, zcs_0, zcs_i, zcs_r, zcs_l, zpush_0, zpush_i, zpush_l, and_true, true_and, Nat.reduceLT, Nat.reduceLeDiff, Nat.reduceAdd, Nat.reduceMul, reduceIte, ite_true, ite_false, if_true, if_false, not_true_eq_false, not_false_eq_true, false_implies, true_implies, forall_const, implies_true, imp_self, and_self, false_and, and_false, ne_eq, zk_0, zfv_0_0, zfv_0_1, zfv_0_2, zfv_0_3, zfv_0_4, zfv_0_5, zfv_0_6, zf_0_6, zfv_0_7, zf_0_7, zk_25, zfv_25_0, zfv_25_1, zfv_25_2, zf_25_2, zk_26, zn_26, zk_27, zfv_27_0, zk_28, zn_28, zk_29, zfv_29_0, zfv_29_1, zfv_29_2, zfv_29_3, zf_29_3, zk_30, zn_30, zk_31, zn_31, zk_32, zn_32, zk_33, zn_33, zk_34, zfv_34_0, zfv_34_1, zf_34_1, zfv_34_2, zf_34_2, zfv_34_3, zf_34_3, zk_35, zn_35, zk_36, zfv_36_0, zfv_36_1, zf_36_1, zfv_36_2, zf_36_2, zfv_36_3, zf_36_3, zk_37, zn_37, zk_38, zfv_38_0, zfv_38_1, zf_38_1, zfv_38_2, zf_38_2, zfv_38_3, zf_38_3, zk_39, zn_39, zk_40, zfv_40_0, zfv_40_1, zf_40_1, zfv_40_2, zf_40_2, zfv_40_3, zf_40_3, zk_41, zn_41, zk_1, zfv_1_0, zfv_1_1, zfv_1_2, zfv_1_3, zfv_1_4, zfv_1_5, zfv_1_6, zfv_1_7, zf_1_7, zfv_1_8, zf_1_8, zk_9, zfv_9_0, zfv_9_1, zfv_9_2, zfv_9_3, zfv_9_4, zfv_9_5, zfv_9_6, zfv_9_7, zf_9_7, zfv_9_8, zf_9_8, zk_17, zfv_17_0, zfv_17_1, zfv_17_2, zfv_17_3, zfv_17_4, zfv_17_5, zfv_17_6, zfv_17_7, zf_17_7, zfv_17_8, zf_17_8, zk_2, zn_2, zk_3, zn_3, zk_4, zn_4, zk_5, zn_5, zk_6, zn_6, zk_7, zn_7, zk_8, zn_8, zk_10, zn_10, zk_11, zn_11, zk_12, zn_12, zk_13, zn_13, zk_14, zn_14, zk_15, zn_15, zk_16, zn_16, zk_18, zn_18, zk_19, zn_19, zk_20, zn_20, zk_21, zn_21, zk_22, zn_22, zk_23, zn_23, zk_24, zn_24, h1, e6, hc, hz, e5, n3] <;> exact hq
  · obtain rfl : m = b := by omega
    have hq := hQ (DM M G m) (fun a ha => DM_o ha)
    rw [q19_3]
    by_cases hb2 : m < 2
    · have h3 : nI m < 2 := nI_lt (a := m) (b := 2) hb2 (by omega)
      simp only [q19_0, q19_1i, q19_1r, q19_1n, q19_5, q19_6, q19_9, q19_10, q19_12, q19_13, q19_16, q19_17, q19_19, q19_20, q19_21, q19_24, q19_27, q19_29, q19_30i, q19_30r, q19_30n, q19_33, q19_36, q19_37, q19_38, q19_41, q19_42, q19_43, q19_45, q19_46, q19_49, q19_50, q19_51, q19_54, q19_55, q19_56, q19_57, q19_58, q19_61, q19_62i, q19_62r, q19_62n, q19_66, q19_67, q19_70, q19_73, q19_74, q19_77, q19_79, q19_80, q19_83, q19_85, q19_86, q19_87, q19_88, q19_91, q19_93, q19_94, q19_95i, q19_95r, q19_95n, q19_98, q19_101, q19_102, zNC, zcs_0, zcs_i, zcs_r, zcs_l, zpush_0, zpush_i, zpush_l, and_true, true_and, Nat.reduceLT, Nat.reduceLeDiff, Nat.reduceAdd, Nat.reduceMul, reduceIte, ite_true, ite_false, if_true, if_false, not_true_eq_false, not_false_eq_true, false_implies, true_implies, forall_const, implies_true, imp_self, and_self, false_and, and_false, ne_eq, zk_0, zfv_0_0, zfv_0_1, zfv_0_2, zfv_0_3, zfv_0_4, zfv_0_5, zfv_0_6, zf_0_6, zfv_0_7, zf_0_7, zk_25, zfv_25_0, zfv_25_1, zfv_25_2, zf_25_2, zk_26, zn_26, zk_27, zfv_27_0, zk_28, zn_28, zk_29, zfv_29_0, zfv_29_1, zfv_29_2, zfv_29_3, zf_29_3, zk_30, zn_30, zk_31, zn_31, zk_32, zn_32, zk_33, zn_33, zk_34, zfv_34_0, zfv_34_1, zf_34_1, zfv_34_2, zf_34_2, zfv_34_3, zf_34_3, zk_35, zn_35, zk_36, zfv_36_0, zfv_36_1, zf_36_1, zfv_36_2, zf_36_2, zfv_36_3, zf_36_3, zk_37, zn_37, zk_38, zfv_38_0, zfv_38_1, zf_38_1, zfv_38_2, zf_38_2, zfv_38_3, zf_38_3, zk_39, zn_39, zk_40, zfv_40_0, zfv_40_1, zf_40_1, zfv_40_2, zf_40_2, zfv_40_3, zf_40_3, zk_41, zn_41, zk_1, zfv_1_0, zfv_1_1, zfv_1_2, zfv_1_3, zfv_1_4, zfv_1_5, zfv_1_6, zfv_1_7, zf_1_7, zfv_1_8, zf_1_8, zk_9, zfv_9_0, zfv_9_1, zfv_9_2, zfv_9_3, zfv_9_4, zfv_9_5, zfv_9_6, zfv_9_7, zf_9_7, zfv_9_8, zf_9_8, zk_17, zfv_17_0, zfv_17_1, zfv_17_2, zfv_17_3, zfv_17_4, zfv_17_5, zfv_17_6, zfv_17_7, zf_17_7, zfv_17_8, zf_17_8, zk_2, zn_2, zk_3, zn_3, zk_4, zn_4, zk_5, zn_5, zk_6, zn_6, zk_7, zn_7, zk_8, zn_8, zk_10, zn_10, zk_11, zn_11, zk_12, zn_12, zk_13, zn_13, zk_14, zn_14, zk_15, zn_15, zk_16, zn_16, zk_18, zn_18, zk_19, zn_19, zk_20, zn_20, zk_21, zn_21, zk_22, zn_22, zk_23, zn_23, zk_24, zn_24, i_le_refl, h3]
      exact hq
    · obtain ⟨h6, eh⟩ := h2 (by omega)
      have h3 : ¬ nI m < 2 := nI_nlt (a := m) (b := 2) (by omega) (by omega)
      have h97 : DM M G m 9 7 = nI h := (DM_h (by omega)).trans eh
      have h7 : (2 : Int32) + 7 * nI h = nI (2 + 7 * h) := by show nI 2 + nI 7 * nI h = _; rw [pk_mul, nI_add]
      have hlt : m < 2 + 7 * h := by
        by_cases hh : m < 2 + 7 * h
        · exact hh
        · have hne : ¬ m = 2 + 7 * h := fun e => hbad ⟨rfl, by omega, e⟩
          have := hok (2 + 7 * h) (by omega)
          unfold okc at this
          rw [if_neg (by omega), if_neg (by omega), eh] at this
          have h9 := (nI_ltI (by omega) (by omega)).mp this.1
          omega
      have h8 : ¬ nI (2 + 7 * h) ≤ nI m := nI_ge hlt (by omega)
      simp only [q19_0, q19_1i, q19_1r, q19_1n, q19_5, q19_6, q19_9, q19_10, q19_12, q19_13, q19_16, q19_17, q19_19, q19_20, q19_21, q19_24, q19_27, q19_29, q19_30i, q19_30r, q19_30n, q19_33, q19_36, q19_37, q19_38, q19_41, q19_42, q19_43, q19_45, q19_46, q19_49, q19_50, q19_51, q19_54, q19_55, q19_56, q19_57, q19_58, q19_61, q19_62i, q19_62r, q19_62n, q19_66, q19_67, q19_70, q19_73, q19_74, q19_77, q19_79, q19_80, q19_83, q19_85, q19_86, q19_87, q19_88, q19_91, q19_93, q19_94, q19_95i, q19_95r, q19_95n, q19_98, q19_101, q19_102, zNC, zcs_0, zcs_i, zcs_r, zcs_l, zpush_0, zpush_i, zpush_l, and_true, true_and, Nat.reduceLT, Nat.reduceLeDiff, Nat.reduceAdd, Nat.reduceMul, reduceIte, ite_true, ite_false, if_true, if_false, not_true_eq_false, not_false_eq_true, false_implies, true_implies, forall_const, implies_true, imp_self, and_self, false_and, and_false, ne_eq, zk_0, zfv_0_0, zfv_0_1, zfv_0_2, zfv_0_3, zfv_0_4, zfv_0_5, zfv_0_6, zf_0_6, zfv_0_7, zf_0_7, zk_25, zfv_25_0, zfv_25_1, zfv_25_2, zf_25_2, zk_26, zn_26, zk_27, zfv_27_0, zk_28, zn_28, zk_29, zfv_29_0, zfv_29_1, zfv_29_2, zfv_29_3, zf_29_3, zk_30, zn_30, zk_31, zn_31, zk_32, zn_32, zk_33, zn_33, zk_34, zfv_34_0, zfv_34_1, zf_34_1, zfv_34_2, zf_34_2, zfv_34_3, zf_34_3, zk_35, zn_35, zk_36, zfv_36_0, zfv_36_1, zf_36_1, zfv_36_2, zf_36_2, zfv_36_3, zf_36_3, zk_37, zn_37, zk_38, zfv_38_0, zfv_38_1, zf_38_1, zfv_38_2, zf_38_2, zfv_38_3, zf_38_3, zk_39, zn_39, zk_40, zfv_40_0, zfv_40_1, zf_40_1, zfv_40_2, zf_40_2, zfv_40_3, zf_40_3, zk_41, zn_41, zk_1, zfv_1_0, zfv_1_1, zfv_1_2, zfv_1_3, zfv_1_4, zfv_1_5, zfv_1_6, zfv_1_7, zf_1_7, zfv_1_8, zf_1_8, zk_9, zfv_9_0, zfv_9_1, zfv_9_2, zfv_9_3, zfv_9_4, zfv_9_5, zfv_9_6, zfv_9_7, zf_9_7, zfv_9_8, zf_9_8, zk_17, zfv_17_0, zfv_17_1, zfv_17_2, zfv_17_3, zfv_17_4, zfv_17_5, zfv_17_6, zfv_17_7, zf_17_7, zfv_17_8, zf_17_8, zk_2, zn_2, zk_3, zn_3, zk_4, zn_4, zk_5, zn_5, zk_6, zn_6, zk_7, zn_7, zk_8, zn_8, zk_10, zn_10, zk_11, zn_11, zk_12, zn_12, zk_13, zn_13, zk_14, zn_14, zk_15, zn_15, zk_16, zn_16, zk_18, zn_18, zk_19, zn_19, zk_20, zn_20, zk_21, zn_21, zk_22, zn_22, zk_23, zn_23, zk_24, zn_24, i_le_refl, h3, h97, h7, h8]
      exact hq
def SK (M : zM) (k : Nat) : zM := fun a i => if a = 11 ∧ i < k then M 12 i else if a = 16 ∧ i < k then 0 else M a i
theorem SK_s : zup (zup (SK M k) 11 k (M 12 k)) 16 k 0 = SK M (k + 1) := by
  funext a i
  simp only [zup_app]
  unfold SK
  by_cases e : i = k
  · subst e
    repeat' split
    all_goals first | omega | rfl | simp_all
  · repeat' split
    all_goals first | omega | rfl | simp_all
theorem l_sand (hh : M 9 7 = nI h) (h6 : h ≤ 6) {x2 x3 : Int32} {v1 : Value} : ∀ d k, k + d = h → (zQ 19 64 [.ref 9, v1, .int x2, .int x3, .int (nI k)] [] (SK M k) Q ↔ Q (zI (-1)) (SK M h)) := by
  intro d
  induction d with
  | zero =>
    intro k hk
    obtain rfl : k = h := by omega
    have e7 : SK M k 9 7 = nI k := hh
    rw [q19_64]
    simp only [q19_0, q19_1i, q19_1r, q19_1n, q19_5, q19_6, q19_9, q19_10, q19_12, q19_13, q19_16, q19_17, q19_19, q19_20, q19_21, q19_24, q19_27, q19_29, q19_30i, q19_30r, q19_30n, q19_33, q19_36, q19_37, q19_38, q19_41, q19_42, q19_43, q19_45, q19_46, q19_49, q19_50, q19_51, q19_54, q19_55, q19_56, q19_57, q19_58, q19_61, q19_62i, q19_62r, q19_62n, q19_66, q19_67, q19_70, q19_73, q19_74, q19_77, q19_79, q19_80, q19_83, q19_85, q19_86, q19_87, q19_88, q19_91, q19_93, q19_94, q19_95i, q19_95r, q19_95n, q19_98, q19_101, q19_102, zNC, zcs_0, zcs_i, zcs_r, zcs_l, zpush_0, zpush_i, zpush_l, and_true, true_and, Nat.reduceLT, Nat.reduceLeDiff, Nat.reduceAdd, Nat.reduceMul, reduceIte, ite_true, ite_false, if_true, if_false, not_true_eq_false, not_false_eq_true, false_implies, true_implies, forall_const, implies_true, imp_self, and_self, false_and, and_false, ne_eq, zk_0, zfv_0_0, zfv_0_1, zfv_0_2, zfv_0_3, zfv_0_4, zfv_0_5, zfv_0_6, zf_0_6, zfv_0_7, zf_0_7, zk_25, zfv_25_0, zfv_25_1, zfv_25_2, zf_25_2, zk_26, zn_26, zk_27, zfv_27_0, zk_28, zn_28, zk_29, zfv_29_0, zfv_29_1, zfv_29_2, zfv_29_3, zf_29_3, zk_30, zn_30, zk_31, zn_31, zk_32, zn_32, zk_33, zn_33, zk_34, zfv_34_0, zfv_34_1, zf_34_1, zfv_34_2, zf_34_2, zfv_34_3, zf_34_3, zk_35, zn_35, zk_36, zfv_36_0, zfv_36_1, zf_36_1, zfv_36_2, zf_36_2, zfv_36_3, zf_36_3, zk_37, zn_37, zk_38, zfv_38_0, zfv_38_1, zf_38_1, zfv_38_2, zf_38_2, zfv_38_3, zf_38_3, zk_39, zn_39, zk_40, zfv_40_0, zfv_40_1, zf_40_1, zfv_40_2, zf_40_2, zfv_40_3, zf_40_3, zk_41, zn_41, zk_1, zfv_1_0, zfv_1_1, zfv_1_2, zfv_1_3, zfv_1_4, zfv_1_5, zfv_1_6, zfv_1_7, zf_1_7, zfv_1_8, zf_1_8, zk_9, zfv_9_0, zfv_9_1, zfv_9_2, zfv_9_3, zfv_9_4, zfv_9_5, zfv_9_6, zfv_9_7, zf_9_7, zfv_9_8, zf_9_8, zk_17, zfv_17_0, zfv_17_1, zfv_17_2, zfv_17_3, zfv_17_4, zfv_17_5, zfv_17_6, zfv_17_7, zf_17_7, zfv_17_8, zf_17_8, zk_2, zn_2, zk_3, zn_3, zk_4, zn_4, zk_5, zn_5, zk_6, zn_6, zk_7, zn_7, zk_8, zn_8, zk_10, zn_10, zk_11, zn_11, zk_12, zn_12, zk_13, zn_13, zk_14, zn_14, zk_15, zn_15, zk_16, zn_16, zk_18, zn_18, zk_19, zn_19, zk_20, zn_20, zk_21, zn_21, zk_22, zn_22, zk_23, zn_23, zk_24, zn_24, e7, i_le_refl]
  | succ d ih =>
    intro k hk
    have e7 : SK M k 9 7 = nI h := hh
    have e12 : SK M k 12 k = M 12 k := rfl
    have ev : vp_nar .boolean 0 = (0 : Int32) := by decide
    have h1 : ¬ nI h ≤ nI k := nI_ge (by omega) (by omega)
    have hc : (nI k).toNatClampNeg = k := nI_clamp (by omega)
    have hz := zin_nI (k := k) (n := 6) (by omega) (by decide)
    have ih' := ih (k + 1) (by omega)
    rw [← SK_s] at ih'
    rw [q19_64, ← ih']
    simp only [q19_0, q19_1i, q19_1r, q19_1n, q19_5, q19_6, q19_9, q19_10, q19_12, q19_13, q19_16, q19_17, q19_19, q19_20, q19_21, q19_24, q19_27, q19_29, q19_30i, q19_30r, q19_30n, q19_33, q19_36, q19_37, q19_38, q19_41, q19_42, q19_43, q19_45, q19_46, q19_49, q19_50, q19_51, q19_54, q19_55, q19_56, q19_57, q19_58, q19_61, q19_62i, q19_62r, q19_62n, q19_66, q19_67, q19_70, q19_73, q19_74, q19_77, q19_79, q19_80, q19_83, q19_85, q19_86, q19_87, q19_88, q19_91, q19_93, q19_94, q19_95i, q19_95r, q19_95n, q19_98, q19_101, q19_102, zNC, zcs_0, zcs_i, zcs_r, zcs_l, zpush_0, zpush_i, zpush_l, and_true, true_and, Nat.reduceLT, Nat.reduceLeDiff, Nat.reduceAdd, Nat.reduceMul, reduceIte, ite_true, ite_false, if_true, if_false, not_true_eq_false, not_false_eq_true, false_implies, true_implies, forall_const, implies_true, imp_self, and_self, false_and, and_false, ne_eq, zk_0, zfv_0_0, zfv_0_1, zfv_0_2, zfv_0_3, zfv_0_4, zfv_0_5, zfv_0_6, zf_0_6, zfv_0_7, zf_0_7, zk_25, zfv_25_0, zfv_25_1, zfv_25_2, zf_25_2, zk_26, zn_26, zk_27, zfv_27_0, zk_28, zn_28, zk_29, zfv_29_0, zfv_29_1, zfv_29_2, zfv_29_3, zf_29_3, zk_30, zn_30, zk_31, zn_31, zk_32, zn_32, zk_33, zn_33, zk_34, zfv_34_0, zfv_34_1, zf_34_1, zfv_34_2, zf_34_2, zfv_34_3, zf_34_3, zk_35, zn_35, zk_36, zfv_36_0, zfv_36_1, zf_36_1, zfv_36_2, zf_36_2, zfv_36_3, zf_36_3, zk_37, zn_37, zk_38, zfv_38_0, zfv_38_1, zf_38_1, zfv_38_2, zf_38_2, zfv_38_3, zf_38_3, zk_39, zn_39, zk_40, zfv_40_0, zfv_40_1, zf_40_1, zfv_40_2, zf_40_2, zfv_40_3, zf_40_3, zk_41, zn_41, zk_1, zfv_1_0, zfv_1_1, zfv_1_2, zfv_1_3, zfv_1_4, zfv_1_5, zfv_1_6, zfv_1_7, zf_1_7, zfv_1_8, zf_1_8, zk_9, zfv_9_0, zfv_9_1, zfv_9_2, zfv_9_3, zfv_9_4, zfv_9_5, zfv_9_6, zfv_9_7, zf_9_7, zfv_9_8, zf_9_8, zk_17, zfv_17_0, zfv_17_1, zfv_17_2, zfv_17_3, zfv_17_4, zfv_17_5, zfv_17_6, zfv_17_7, zf_17_7, zfv_17_8, zf_17_8, zk_2, zn_2, zk_3, zn_3, zk_4, zn_4, zk_5, zn_5, zk_6, zn_6, zk_7, zn_7, zk_8, zn_8, zk_10, zn_10, zk_11, zn_11, zk_12, zn_12, zk_13, zn_13, zk_14, zn_14, zk_15, zn_15, zk_16, zn_16, zk_18, zn_18, zk_19, zn_19, zk_20, zn_20, zk_21, zn_21, zk_22, zn_22, zk_23, zn_23, zk_24, zn_24, e7, e12, ev, h1, hc, hz, nI_1]
theorem s_readText_ok (hs : zSh c) (hab : a + b ≤ 60) (hG : ∀ z, z < b → M (c + 1) (a + z) = G z) (hok : ∀ p, p < b → okc G p) (h2 : 2 ≤ h) (h6 : h ≤ 6) (eh : fdig (G 1) = nI h) (hb : b = 2 + 7 * h) (hQ : ∀ N : zM, (∀ a, a < 9 ∨ 16 < a → N a = M a) → N 9 7 = nI h → N 9 8 = 0 → (∀ k, k < h → N 10 k = fknd (G (3 + 7 * k)) ∧ N 11 k = 10 * fdig (G (4 + 7 * k)) + fdig (G (5 + 7 * k)) ∧ N 12 k = 10 * fdig (G (4 + 7 * k)) + fdig (G (5 + 7 * k)) ∧ N 13 k = fdig (G (6 + 7 * k)) ∧ N 14 k = fdig (G (7 + 7 * k)) ∧ N 15 k = fdig (G (8 + 7 * k)) ∧ N 16 k = 0) → Q (zI (-1)) N) : zQ 19 0 [.ref 9, .ref c, .int (nI a), .int (nI b), .null] [] M Q := by
  rw [s_readText0 hs hab hG (Nat.le_refl b) hok (fun _ => ⟨h6, eh⟩), q19_3]
  have h3 : ¬ nI b < 2 := nI_nlt (a := b) (b := 2) (by omega) (by omega)
  have h97 : DM M G b 9 7 = nI h := (DM_h (by omega)).trans eh
  have h7 : (2 : Int32) + 7 * nI h = nI b := by show nI 2 + nI 7 * nI h = _; rw [pk_mul, nI_add, hb]
  have e := l_sand (M := zup (DM M G b) 9 8 0) (Q := Q) (x2 := nI a) (x3 := nI b) (v1 := .ref c) h97 h6 h 0 (by omega)
  have e0 : SK (zup (DM M G b) 9 8 0) 0 = zup (DM M G b) 9 8 0 := by
    funext a i
    unfold SK
    rw [if_neg (by omega), if_neg (by omega)]
  have i0 : nI 0 = 0 := rfl
  rw [e0, i0] at e
  simp only [q19_0, q19_1i, q19_1r, q19_1n, q19_5, q19_6, q19_9, q19_10, q19_12, q19_13, q19_16, q19_17, q19_19, q19_20, q19_21, q19_24, q19_27, q19_29, q19_30i, q19_30r, q19_30n, q19_33, q19_36, q19_37, q19_38, q19_41, q19_42, q19_43, q19_45, q19_46, q19_49, q19_50, q19_51, q19_54, q19_55, q19_56, q19_57, q19_58, q19_61, q19_62i, q19_62r, q19_62n, q19_66, q19_67, q19_70, q19_73, q19_74, q19_77, q19_79, q19_80, q19_83, q19_85, q19_86, q19_87, q19_88, q19_91, q19_93, q19_94, q19_95i, q19_95r, q19_95n, q19_98, q19_101, q19_102, zNC, zcs_0, zcs_i, zcs_r, zcs_l, zpush_0, zpush_i, zpush_l, and_true, true_and, Nat.reduceLT, Nat.reduceLeDiff, Nat.reduceAdd, Nat.reduceMul, reduceIte, ite_true, ite_false, if_true, if_false, not_true_eq_false, not_false_eq_true, false_implies, true_implies, forall_const, implies_true, imp_self, and_self, false_and, and_false, ne_eq, zk_0, zfv_0_0, zfv_0_1, zfv_0_2, zfv_0_3, zfv_0_4, zfv_0_5, zfv_0_6, zf_0_6, zfv_0_7, zf_0_7, zk_25, zfv_25_0, zfv_25_1, zfv_25_2, zf_25_2, zk_26, zn_26, zk_27, zfv_27_0, zk_28, zn_28, zk_29, zfv_29_0, zfv_29_1, zfv_29_2, zfv_29_3, zf_29_3, zk_30, zn_30, zk_31, zn_31, zk_32, zn_32, zk_33, zn_33, zk_34, zfv_34_0, zfv_34_1, zf_34_1, zfv_34_2, zf_34_2, zfv_34_3, zf_34_3, zk_35, zn_35, zk_36, zfv_36_0, zfv_36_1, zf_36_1, zfv_36_2, zf_36_2, zfv_36_3, zf_36_3, zk_37, zn_37, zk_38, zfv_38_0, zfv_38_1, zf_38_1, zfv_38_2, zf_38_2, zfv_38_3, zf_38_3, zk_39, zn_39, zk_40, zfv_40_0, zfv_40_1, zf_40_1, zfv_40_2, zf_40_2, zfv_40_3, zf_40_3, zk_41, zn_41, zk_1, zfv_1_0, zfv_1_1, zfv_1_2, zfv_1_3, zfv_1_4, zfv_1_5, zfv_1_6, zfv_1_7, zf_1_7, zfv_1_8, zf_1_8, zk_9, zfv_9_0, zfv_9_1, zfv_9_2, zfv_9_3, zfv_9_4, zfv_9_5, zfv_9_6, zfv_9_7, zf_9_7, zfv_9_8, zf_9_8, zk_17, zfv_17_0, zfv_17_1, zfv_17_2, zfv_17_3, zfv_17_4, zfv_17_5, zfv_17_6, zfv_17_7, zf_17_7, zfv_17_8, zf_17_8, zk_2, zn_2, zk_3, zn_3, zk_4, zn_4, zk_5, zn_5, zk_6, zn_6, zk_7, zn_7, zk_8, zn_8, zk_10, zn_10, zk_11, zn_11, zk_12, zn_12, zk_13, zn_13, zk_14, zn_14, zk_15, zn_15, zk_16, zn_16, zk_18, zn_18, zk_19, zn_19, zk_20, zn_20, zk_21, zn_21, zk_22, zn_22, zk_23, zn_23, zk_24, zn_24, i_le_refl, h3, h97, h7, e]
  refine hQ _ (fun a ha => ?_) h97 rfl (fun k hk => ⟨?_, ?_, ?_, ?_, ?_, ?_, ?_⟩)
  · funext i
    unfold SK
    rw [if_neg (by omega), if_neg (by omega), zup_ne _ _ _ (by omega), DM_o (by omega)]
  · show DM M G b 10 k = _
    unfold DM
    rw [if_neg (by omega), if_pos rfl, if_pos (by omega)]
  · unfold SK
    rw [if_pos ⟨rfl, hk⟩]
    show DM M G b 12 k = _
    unfold DM
    rw [if_neg (by omega), if_neg (by omega), if_pos rfl, if_pos (by omega)]
  · show DM M G b 12 k = _
    unfold DM
    rw [if_neg (by omega), if_neg (by omega), if_pos rfl, if_pos (by omega)]
  · show DM M G b 13 k = _
    unfold DM
    rw [if_neg (by omega), if_neg (by omega), if_neg (by omega), if_pos rfl, if_pos (by omega)]
  · show DM M G b 14 k = _
    unfold DM
    rw [if_neg (by omega), if_neg (by omega), if_neg (by omega), if_neg (by omega), if_pos rfl, if_pos (by omega)]
  · show DM M G b 15 k = _
    unfold DM
    rw [if_neg (by omega), if_neg (by omega), if_neg (by omega), if_neg (by omega), if_neg (by omega), if_pos rfl, if_pos (by omega)]
  · unfold SK
    rw [if_neg (by omega), if_pos ⟨rfl, hk⟩]
end IV
