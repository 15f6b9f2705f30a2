-- SEE: the reference's reader from its start; what both sides leave
section IV
variable {M M' N N' : zM} {h y lw c k t a b o n r p m j i : Nat} {Q : zR → zM → Prop} {x : Int32} {G : Nat → Int32}
theorem s_readsSee (hab : a + b ≤ 240) (h60 : b ≤ 60) (hok : ∀ p, p < m → okc (fcA M a b) p) (hno : ¬ okc (fcA M a b) m) (h2 : 2 ≤ m → 2 ≤ h ∧ h ≤ 6 ∧ fdig (fcA M a b 1) = nI h) (hQ : ∀ N : zM, RS M N m → (2 ≤ m → m = 2 + 7 * h → N 42 11 = nI h ∧ ∀ k, k < h → RV N (fcA M a b) k) → Q (zI (zbp (2 ≤ m ∧ m = 2 + 7 * h ∧ b = 2 + 7 * h))) N) : zQ 96 0 [.ref 42, .int (nI a), .int (nI b), .null, .null] [] M Q := by
  have i0 : nI 0 = 0 := rfl
  have c0 : ∀ Q' : zR → zM → Prop, _ := fun Q' => h_cod (M := M) (Q := Q') (r := 0) hab (by decide)
  simp only [i0] at c0
  have r0 : ∀ v, zup M 42 10 v 42 10 = v := fun v => by rw [zup_app, if_pos rfl, if_pos rfl]
  by_cases m0 : m = 0
  · subst m0
    have hq := hQ (zup M 42 10 0) ⟨fun a ha h42 => zup_ne _ _ _ h42, fun i h10 h11 => by rw [zup_app, if_pos rfl, if_neg h10], by rw [zup_app, if_pos rfl, if_pos rfl]; rfl⟩ (fun e => absurd e (by decide))
    rw [zbp_f (fun e => absurd e.1 (by decide))] at hq
    have g0 : ¬ fcA M a b 0 = 115 := hno
    simp only [q96_0, q96_1, q96_2, q96_5, q96_6, q96_7, q96_8, q96_11, q96_13, q96_16, q96_17, q96_18, q96_19, q96_20, q96_23, q96_24, q96_25, q96_28, q96_29, q96_30, q96_31, q96_32, q96_33, q96_34, q96_36, q96_39, q96_42, q96_43, q96_46, q96_49, q96_50, q96_53, q96_54i, q96_54r, q96_54n, q96_55, q96_56i, q96_56r, q96_56n, q96_60, q96_61, q96_64, q96_67, q96_68, q96_71, q96_72, q96_73, q96_74, q96_76, q96_79i, q96_79r, q96_79n, q96_80i, q96_80r, q96_80n, q96_83, q96_86, q96_87, q96_90, q96_91, q96_94, q96_95, q96_98, q96_99, q96_102, q96_103, zNC, zcs_0, zcs_i, zcs_r, zcs_l, zpush_0, zpush_i, zpush_l, and_true, true_and, Nat.reduceLT, Nat.reduceLeDiff, Nat.reduceAdd, Nat.reduceMul, reduceIte, ite_true, ite_false, if_true, if_false, not_true_eq_false, not_false_eq_true, false_implies, true_implies, forall_const, implies_true, imp_self, and_self, false_and, and_false, ne_eq, zk_42, zfv_42_0, zf_42_0, zfv_42_1, zf_42_1, zfv_42_2, zf_42_2, zfv_42_3, zfv_42_4, zfv_42_5, zfv_42_6, zfv_42_7, zfv_42_8, zfv_42_9, zf_42_9, zfv_42_10, zf_42_10, zfv_42_11, zf_42_11, zfv_42_12, zfv_42_13, zfv_42_14, zfv_42_15, zfv_42_16, zfv_42_17, zfv_42_18, zf_42_18, zfv_42_19, zf_42_19, zfv_42_20, zfv_42_21, zfv_42_22, zfv_42_23, zf_42_23, zfv_42_24, zfv_42_25, zfv_42_26, zfv_42_27, zfv_42_28, zfv_42_29, zfv_42_30, zfv_42_31, zf_42_31, zk_43, zn_43, zk_44, zn_44, zk_45, zn_45, zk_46, zn_46, zk_47, zn_47, zk_48, zn_48, zk_49, zn_49, zk_50, zn_50, zk_51, zn_51, zk_52, zn_52, zk_53, zn_53, zk_54, zn_54, zk_55, zn_55, zk_56, zn_56, zk_57, zn_57, zk_58, zn_58, zk_59, zn_59, zk_60, zn_60, zk_61, zn_61, zk_62, zn_62, zk_63, zn_63, zk_64, zn_64, c0, g0]
    try simp
    exact hq
  have g0 : fcA M a b 0 = 115 := hok 0 (by omega)
  by_cases m1 : m = 1
  · subst m1
    have hn1 : ¬ (2 ≤ fdig (fcA M a b 1) ∧ fdig (fcA M a b 1) ≤ 6) := hno
    have g1 : ¬ (2 ≤ fcA M a b 1 - 48 ∧ fcA M a b 1 - 48 ≤ 6) := fun e => hn1 (by
      rw [fdig_v ⟨i_trans (by decide) e.1, i_trans e.2 (by decide)⟩]; exact e)
    have f1 : ∀ Q' : zR → zM → Prop, _ := fun Q' => h_figF (M := M) (Q := Q') (r := 1) (x1 := 0) (x2 := 2) (x3 := 6) hab (by decide) (by decide) g1
    have i1 : nI 1 = 1 := rfl
    simp only [i1] at f1
    have hq := hQ (zup (zup M 42 10 1) 42 11 (-9)) ⟨fun a ha h42 => by rw [zup_ne _ _ _ h42, zup_ne _ _ _ h42], fun i h10 h11 => by rw [zup_app, if_pos rfl, if_neg h11, zup_app, if_pos rfl, if_neg h10], by rw [zup_app, if_pos rfl, if_neg (by decide), zup_app, if_pos rfl, if_pos rfl]; rfl⟩ (fun e => absurd e (by decide))
    rw [zbp_f (fun e => absurd e.1 (by decide))] at hq
    have n9 : (-9 : Int32) ≤ 0 := by decide
    have z01 : (0 : Int32) + 1 = 1 := by decide
    have r11 : ∀ N v, zup N 42 11 v 42 11 = v := fun N v => by rw [zup_app, if_pos rfl, if_pos rfl]
    simp only [q96_0, q96_1, q96_2, q96_5, q96_6, q96_7, q96_8, q96_11, q96_13, q96_16, q96_17, q96_18, q96_19, q96_20, q96_23, q96_24, q96_25, q96_28, q96_29, q96_30, q96_31, q96_32, q96_33, q96_34, q96_36, q96_39, q96_42, q96_43, q96_46, q96_49, q96_50, q96_53, q96_54i, q96_54r, q96_54n, q96_55, q96_56i, q96_56r, q96_56n, q96_60, q96_61, q96_64, q96_67, q96_68, q96_71, q96_72, q96_73, q96_74, q96_76, q96_79i, q96_79r, q96_79n, q96_80i, q96_80r, q96_80n, q96_83, q96_86, q96_87, q96_90, q96_91, q96_94, q96_95, q96_98, q96_99, q96_102, q96_103, zNC, zcs_0, zcs_i, zcs_r, zcs_l, zpush_0, zpush_i, zpush_l, and_true, true_and, Nat.reduceLT, Nat.reduceLeDiff, Nat.reduceAdd, Nat.reduceMul, reduceIte, ite_true, ite_false, if_true, if_false, not_true_eq_false, not_false_eq_true, false_implies, true_implies, forall_const, implies_true, imp_self, and_self, false_and, and_false, ne_eq, zk_42, zfv_42_0, zf_42_0, zfv_42_1, zf_42_1, zfv_42_2, zf_42_2, zfv_42_3, zfv_42_4, zfv_42_5, zfv_42_6, zfv_42_7, zfv_42_8, zfv_42_9, zf_42_9, zfv_42_10, zf_42_10, zfv_42_11, zf_42_11, zfv_42_12, zfv_42_13, zfv_42_14, zfv_42_15, zfv_42_16, zfv_42_17, zfv_42_18, zf_42_18, zfv_42_19, zf_42_19, zfv_42_20, zfv_42_21, zfv_42_22, zfv_42_23, zf_42_23, zfv_42_24, zfv_42_25, zfv_42_26, zfv_42_27, zfv_42_28, zfv_42_29, zfv_42_30, zfv_42_31, zf_42_31, zk_43, zn_43, zk_44, zn_44, zk_45, zn_45, zk_46, zn_46, zk_47, zn_47, zk_48, zn_48, zk_49, zn_49, zk_50, zn_50, zk_51, zn_51, zk_52, zn_52, zk_53, zn_53, zk_54, zn_54, zk_55, zn_55, zk_56, zn_56, zk_57, zn_57, zk_58, zn_58, zk_59, zn_59, zk_60, zn_60, zk_61, zn_61, zk_62, zn_62, zk_63, zn_63, zk_64, zn_64, c0, g0, r0, r11, z01, zup_zup, f1, n9]
    rw [q96_58]
    simp only [q96_0, q96_1, q96_2, q96_5, q96_6, q96_7, q96_8, q96_11, q96_13, q96_16, q96_17, q96_18, q96_19, q96_20, q96_23, q96_24, q96_25, q96_28, q96_29, q96_30, q96_31, q96_32, q96_33, q96_34, q96_36, q96_39, q96_42, q96_43, q96_46, q96_49, q96_50, q96_53, q96_54i, q96_54r, q96_54n, q96_55, q96_56i, q96_56r, q96_56n, q96_60, q96_61, q96_64, q96_67, q96_68, q96_71, q96_72, q96_73, q96_74, q96_76, q96_79i, q96_79r, q96_79n, q96_80i, q96_80r, q96_80n, q96_83, q96_86, q96_87, q96_90, q96_91, q96_94, q96_95, q96_98, q96_99, q96_102, q96_103, zNC, zcs_0, zcs_i, zcs_r, zcs_l, zpush_0, zpush_i, zpush_l, and_true, true_and, Nat.reduceLT, Nat.reduceLeDiff, Nat.reduceAdd, Nat.reduceMul, reduceIte, ite_true, ite_false, if_true, if_false, not_true_eq_false, not_false_eq_true, false_implies, true_implies, forall_const, implies_true, imp_self, and_self, false_and, and_false, ne_eq, zk_42, zfv_42_0, zf_42_0, zfv_42_1, zf_42_1, zfv_42_2, zf_42_2, zfv_42_3, zfv_42_4, zfv_42_5, zfv_42_6, zfv_42_7, zfv_42_8, zfv_42_9, zf_42_9, zfv_42_10, zf_42_10, zfv_42_11, zf_42_11, zfv_42_12, zfv_42_13, zfv_42_14, zfv_42_15, zfv_42_16, zfv_42_17, zfv_42_18, zf_42_18, zfv_42_19, zf_42_19, zfv_42_20, zfv_42_21, zfv_42_22, zfv_42_23, zf_42_23, zfv_42_24, zfv_42_25, zfv_42_26, zfv_42_27, zfv_42_28, zfv_42_29, zfv_42_30, zfv_42_31, zf_42_31, zk_43, zn_43, zk_44, zn_44, zk_45, zn_45, zk_46, zn_46, zk_47, zn_47, zk_48, zn_48, zk_49, zn_49, zk_50, zn_50, zk_51, zn_51, zk_52, zn_52, zk_53, zn_53, zk_54, zn_54, zk_55, zn_55, zk_56, zn_56, zk_57, zn_57, zk_58, zn_58, zk_59, zn_59, zk_60, zn_60, zk_61, zn_61, zk_62, zn_62, zk_63, zn_63, zk_64, zn_64, r11, n9]
    try simp
    exact hq
  obtain ⟨a2, a6, eh⟩ := h2 (by omega)
  have hn1 : 2 ≤ fdig (fcA M a b 1) ∧ fdig (fcA M a b 1) ≤ 6 := hok 1 (by omega)
  have v1 := fdig_v (fdig_0.mp (i_trans (by decide) hn1.1))
  have g1 : 2 ≤ fcA M a b 1 - 48 ∧ fcA M a b 1 - 48 ≤ 6 := by rw [← v1]; exact hn1
  have f1 : ∀ Q' : zR → zM → Prop, _ := fun Q' => h_figT (M := M) (Q := Q') (r := 1) (p := 2) (x1 := 0) (x2 := 2) (x3 := 6) hab (by decide) (by decide) g1 (by decide)
  rw [← v1, eh] at f1
  have i1 : nI 1 = 1 := rfl
  simp only [i1] at f1
  have z01 : (0 : Int32) + 1 = 1 := by decide
  have r11 : ∀ N v, zup N 42 11 v 42 11 = v := fun N v => by rw [zup_app, if_pos rfl, if_pos rfl]
  have nh : ¬ nI h ≤ 0 := nI_nle (by omega) (by omega)
  have e := l_readsSee (M := M) (Q := Q) hab h60 a2 a6 eh hok hno (fun N hS hV => by
    have hq := hQ N hS (fun _ => hV)
    have ep : (2 ≤ m ∧ m = 2 + 7 * h ∧ b = 2 + 7 * h) = (m = 2 + 7 * h ∧ b = 2 + 7 * h) := propext ⟨fun e => e.2, fun e => ⟨by omega, e⟩⟩
    rw [ep] at hq
    exact hq) h 0 (zup (zup M 42 10 (nI 2)) 42 11 (nI h)) (by omega) (by omega) ⟨fun a ha h42 => by rw [zup_ne _ _ _ h42, zup_ne _ _ _ h42], fun i h10 h11 => by rw [zup_app, if_pos rfl, if_neg h11, zup_app, if_pos rfl, if_neg h10], by rw [zup_app, if_pos rfl, if_neg (by decide), zup_app, if_pos rfl, if_pos rfl]⟩ (by rw [zup_app, if_pos rfl, if_pos rfl]) (fun k' hk' => absurd hk' (Nat.not_lt_zero _))
  simp only [q96_0, q96_1, q96_2, q96_5, q96_6, q96_7, q96_8, q96_11, q96_13, q96_16, q96_17, q96_18, q96_19, q96_20, q96_23, q96_24, q96_25, q96_28, q96_29, q96_30, q96_31, q96_32, q96_33, q96_34, q96_36, q96_39, q96_42, q96_43, q96_46, q96_49, q96_50, q96_53, q96_54i, q96_54r, q96_54n, q96_55, q96_56i, q96_56r, q96_56n, q96_60, q96_61, q96_64, q96_67, q96_68, q96_71, q96_72, q96_73, q96_74, q96_76, q96_79i, q96_79r, q96_79n, q96_80i, q96_80r, q96_80n, q96_83, q96_86, q96_87, q96_90, q96_91, q96_94, q96_95, q96_98, q96_99, q96_102, q96_103, zNC, zcs_0, zcs_i, zcs_r, zcs_l, zpush_0, zpush_i, zpush_l, and_true, true_and, Nat.reduceLT, Nat.reduceLeDiff, Nat.reduceAdd, Nat.reduceMul, reduceIte, ite_true, ite_false, if_true, if_false, not_true_eq_false, not_false_eq_true, false_implies, true_implies, forall_const, implies_true, imp_self, and_self, false_and, and_false, ne_eq, zk_42, zfv_42_0, zf_42_0, zfv_42_1, zf_42_1, zfv_42_2, zf_42_2, zfv_42_3, zfv_42_4, zfv_42_5, zfv_42_6, zfv_42_7, zfv_42_8, zfv_42_9, zf_42_9, zfv_42_10, zf_42_10, zfv_42_11, zf_42_11, zfv_42_12, zfv_42_13, zfv_42_14, zfv_42_15, zfv_42_16, zfv_42_17, zfv_42_18, zf_42_18, zfv_42_19, zf_42_19, zfv_42_20, zfv_42_21, zfv_42_22, zfv_42_23, zf_42_23, zfv_42_24, zfv_42_25, zfv_42_26, zfv_42_27, zfv_42_28, zfv_42_29, zfv_42_30, zfv_42_31, zf_42_31, zk_43, zn_43, zk_44, zn_44, zk_45, zn_45, zk_46, zn_46, zk_47, zn_47, zk_48, zn_48, zk_49, zn_49, zk_50, zn_50, zk_51, zn_51, zk_52, zn_52, zk_53, zn_53, zk_54, zn_54, zk_55, zn_55, zk_56, zn_56, zk_57, zn_57, zk_58, zn_58, zk_59, zn_59, zk_60, zn_60, zk_61, zn_61, zk_62, zn_62, zk_63, zn_63, zk_64, zn_64, c0, g0, r0, r11, z01, zup_zup, f1, nh]
  try simp
  exact e
/-- what becomeLike leaves in town 1 -/
theorem ML1_o (ha : a = 0 ∨ 8 < a) : ML1 M a = M a := by
  unfold ML1
  rw [bl_o1 a (by omega), zup_ne _ _ _ (by omega), zup_ne _ _ _ (by omega)]
theorem ML1_7 : ML1 M 1 7 = M 9 7 := by
  unfold ML1
  rw [bl_o1 1 (by omega)]
  show zup M 1 7 (M 9 7) 1 7 = _
  rw [zup_app, if_pos rfl, if_pos rfl]
theorem ML1_8 : ML1 M 1 8 = M 9 8 := by
  unfold ML1
  rw [bl_o1 1 (by omega), zup_app, if_pos rfl, if_pos rfl]
theorem ML1_k (hk : k < 6) : ML1 M 2 k = M 10 k ∧ ML1 M 3 k = M 11 k ∧ ML1 M 4 k = M 12 k ∧ ML1 M 5 k = M 13 k ∧ ML1 M 6 k = M 14 k ∧ ML1 M 7 k = M 15 k ∧ ML1 M 8 k = vp_nar .boolean (M 16 k) := by
  refine ⟨?_, ?_, ?_, ?_, ?_, ?_, ?_⟩ <;> (unfold ML1 bl; rw [if_pos ⟨by omega, by omega, hk⟩]; rfl)
/-- the reference's rows behind x copied houses -/
def CK (K : zM) (x : Nat) : zM := fun a i => if i < x then (if a = 43 then K 49 i else if a = 44 then K 50 i else if a = 45 then K 50 i else if a = 46 then K 51 i else if a = 47 then K 52 i else if a = 48 then K 53 i else K a i) else K a i
theorem CK_o (ha : a < 43 ∨ 48 < a) : CK M k a = M a := by
  funext i
  unfold CK
  rw [if_neg (by omega : ¬ a = 43), if_neg (by omega : ¬ a = 44), if_neg (by omega : ¬ a = 45), if_neg (by omega : ¬ a = 46), if_neg (by omega : ¬ a = 47), if_neg (by omega : ¬ a = 48)]
  split <;> rfl
theorem CK_s : zup (zup (zup (zup (zup (zup (CK M k) 43 k (M 49 k)) 44 k (M 50 k)) 45 k (M 50 k)) 46 k (M 51 k)) 47 k (M 52 k)) 48 k (M 53 k) = CK M (k + 1) := by
  funext a i
  simp only [zup_app]
  unfold CK
  by_cases e : i = k
  · subst e
    have g1 : ¬ i < i := by omega
    have g2 : i < i + 1 := by omega
    simp only [if_neg g1, if_pos g2, if_true]
    have ha : a = 43 ∨ a = 44 ∨ a = 45 ∨ a = 46 ∨ a = 47 ∨ a = 48 ∨ (a < 43 ∨ 48 < a) := by omega
    rcases ha with rfl | rfl | rfl | rfl | rfl | rfl | ha
    all_goals first | (simp; done) | skip
    rw [if_neg (by omega : ¬ a = 48), if_neg (by omega : ¬ a = 47), if_neg (by omega : ¬ a = 46), if_neg (by omega : ¬ a = 45), if_neg (by omega : ¬ a = 44), if_neg (by omega : ¬ a = 43), if_neg (by omega : ¬ a = 43), if_neg (by omega : ¬ a = 44), if_neg (by omega : ¬ a = 45), if_neg (by omega : ¬ a = 46), if_neg (by omega : ¬ a = 47), if_neg (by omega : ¬ a = 48)]
  · have e1 : (i < k) = (i < k + 1) := by simp; omega
    simp only [if_neg e, e1]
    have ha : a = 43 ∨ a = 44 ∨ a = 45 ∨ a = 46 ∨ a = 47 ∨ a = 48 ∨ (a < 43 ∨ 48 < a) := by omega
    rcases ha with rfl | rfl | rfl | rfl | rfl | rfl | ha
    all_goals first | (simp; done) | skip
    rw [if_neg (by omega : ¬ a = 48), if_neg (by omega : ¬ a = 47), if_neg (by omega : ¬ a = 46), if_neg (by omega : ¬ a = 45), if_neg (by omega : ¬ a = 44), if_neg (by omega : ¬ a = 43)]
theorem CK_0 : CK M 0 = M := by
  funext a i
  unfold CK
  rw [if_neg (by omega)]
theorem l_seeCopy (hh : M 42 1 = nI h) (h6 : h ≤ 6) {x1 x2 x3 x4 x5 : Int32} : ∀ d k, k + d = h → (zQ 98 100 [.ref 42, .int x1, .int x2, .int x3, .int x4, .int x5, .int (nI k)] [] (CK M k) Q ↔ Q (zI (nI h)) (zup (zup (CK M h) 42 23 0) 42 0 0)) := by
  intro d
  induction d with
  | zero =>
    intro k hk
    obtain rfl : k = h := by omega
    have e1 : CK M k 42 1 = nI k := by rw [CK_o (by omega)]; exact hh
    have e2 : ∀ v, zup (CK M k) 42 23 v 42 1 = nI k := fun v => e1
    rw [q98_100]
    simp only [q98_0, q98_1, q98_4, q98_7, q98_8, q98_9, q98_12, q98_13, q98_14, q98_15, q98_16, q98_19, q98_22, q98_25, q98_26, q98_28, q98_31, q98_32, q98_33, q98_34, q98_35, q98_36, q98_38, q98_39, q98_42i, q98_42r, q98_42n, q98_44, q98_46, q98_49, q98_51, q98_52, q98_53, q98_55, q98_56, q98_57, q98_58, q98_59, q98_61, q98_64, q98_67, q98_68, q98_70, q98_71, q98_74, q98_75, q98_78, q98_79, q98_80, q98_81, q98_84, q98_87, q98_88, q98_89, q98_92, q98_93, q98_94, q98_97, q98_98i, q98_98r, q98_98n, q98_102, q98_103, q98_106, q98_109, q98_110, q98_113, q98_115, q98_116, q98_119, q98_121, q98_122, q98_123, q98_124, q98_127, q98_129, q98_130, q98_133, q98_135, q98_136, q98_137, q98_138, q98_141, q98_143, q98_144, q98_147, q98_149, q98_150, q98_151, q98_152, q98_155, q98_157, q98_158, q98_161, q98_163, q98_164, q98_165, q98_166, q98_169, q98_171, q98_172, q98_175, q98_177, q98_178, q98_179, q98_180, q98_183, q98_185, q98_186, q98_189, q98_191, q98_192, q98_193i, q98_193r, q98_193n, q98_196, q98_199, q98_200, q98_201, q98_204, q98_205, q98_206, q98_209, q98_212, zNC, zcs_0, zcs_i, zcs_r, zcs_l, zpush_0, zpush_i, zpush_l, and_true, true_and, Nat.reduceLT, Nat.reduceLeDiff, Nat.reduceAdd, Nat.reduceMul, reduceIte, ite_true, ite_false, if_true, if_false, not_true_eq_false, not_false_eq_true, false_implies, true_implies, forall_const, implies_true, imp_self, and_self, false_and, and_false, ne_eq, zk_42, zfv_42_0, zf_42_0, zfv_42_1, zf_42_1, zfv_42_2, zf_42_2, zfv_42_3, zfv_42_4, zfv_42_5, zfv_42_6, zfv_42_7, zfv_42_8, zfv_42_9, zf_42_9, zfv_42_10, zf_42_10, zfv_42_11, zf_42_11, zfv_42_12, zfv_42_13, zfv_42_14, zfv_42_15, zfv_42_16, zfv_42_17, zfv_42_18, zf_42_18, zfv_42_19, zf_42_19, zfv_42_20, zfv_42_21, zfv_42_22, zfv_42_23, zf_42_23, zfv_42_24, zfv_42_25, zfv_42_26, zfv_42_27, zfv_42_28, zfv_42_29, zfv_42_30, zfv_42_31, zf_42_31, zk_43, zn_43, zk_44, zn_44, zk_45, zn_45, zk_46, zn_46, zk_47, zn_47, zk_48, zn_48, zk_49, zn_49, zk_50, zn_50, zk_51, zn_51, zk_52, zn_52, zk_53, zn_53, zk_54, zn_54, zk_55, zn_55, zk_56, zn_56, zk_57, zn_57, zk_58, zn_58, zk_59, zn_59, zk_60, zn_60, zk_61, zn_61, zk_62, zn_62, zk_63, zn_63, zk_64, zn_64, e1, e2, i_le_refl, s_refused]
  | succ d ih =>
    intro k hk
    have e1 : CK M k 42 1 = nI h := by rw [CK_o (by omega)]; exact hh
    have h1 : ¬ nI h ≤ nI k := nI_ge (by omega) (by omega)
    have hc : (nI k).toNatClampNeg = k := nI_clamp (by omega)
    have hz := zin_nI (k := k) (n := 6) (by omega) (by decide)
    have ih' := ih (k + 1) (by omega)
    rw [← CK_s] at ih'
    rw [q98_100, ← ih']
    simp only [q98_0, q98_1, q98_4, q98_7, q98_8, q98_9, q98_12, q98_13, q98_14, q98_15, q98_16, q98_19, q98_22, q98_25, q98_26, q98_28, q98_31, q98_32, q98_33, q98_34, q98_35, q98_36, q98_38, q98_39, q98_42i, q98_42r, q98_42n, q98_44, q98_46, q98_49, q98_51, q98_52, q98_53, q98_55, q98_56, q98_57, q98_58, q98_59, q98_61, q98_64, q98_67, q98_68, q98_70, q98_71, q98_74, q98_75, q98_78, q98_79, q98_80, q98_81, q98_84, q98_87, q98_88, q98_89, q98_92, q98_93, q98_94, q98_97, q98_98i, q98_98r, q98_98n, q98_102, q98_103, q98_106, q98_109, q98_110, q98_113, q98_115, q98_116, q98_119, q98_121, q98_122, q98_123, q98_124, q98_127, q98_129, q98_130, q98_133, q98_135, q98_136, q98_137, q98_138, q98_141, q98_143, q98_144, q98_147, q98_149, q98_150, q98_151, q98_152, q98_155, q98_157, q98_158, q98_161, q98_163, q98_164, q98_165, q98_166, q98_169, q98_171, q98_172, q98_175, q98_177, q98_178, q98_179, q98_180, q98_183, q98_185, q98_186, q98_189, q98_191, q98_192, q98_193i, q98_193r, q98_193n, q98_196, q98_199, q98_200, q98_201, q98_204, q98_205, q98_206, q98_209, q98_212, zNC, zcs_0, zcs_i, zcs_r, zcs_l, zpush_0, zpush_i, zpush_l, and_true, true_and, Nat.reduceLT, Nat.reduceLeDiff, Nat.reduceAdd, Nat.reduceMul, reduceIte, ite_true, ite_false, if_true, if_false, not_true_eq_false, not_false_eq_true, false_implies, true_implies, forall_const, implies_true, imp_self, and_self, false_and, and_false, ne_eq, zk_42, zfv_42_0, zf_42_0, zfv_42_1, zf_42_1, zfv_42_2, zf_42_2, zfv_42_3, zfv_42_4, zfv_42_5, zfv_42_6, zfv_42_7, zfv_42_8, zfv_42_9, zf_42_9, zfv_42_10, zf_42_10, zfv_42_11, zf_42_11, zfv_42_12, zfv_42_13, zfv_42_14, zfv_42_15, zfv_42_16, zfv_42_17, zfv_42_18, zf_42_18, zfv_42_19, zf_42_19, zfv_42_20, zfv_42_21, zfv_42_22, zfv_42_23, zf_42_23, zfv_42_24, zfv_42_25, zfv_42_26, zfv_42_27, zfv_42_28, zfv_42_29, zfv_42_30, zfv_42_31, zf_42_31, zk_43, zn_43, zk_44, zn_44, zk_45, zn_45, zk_46, zn_46, zk_47, zn_47, zk_48, zn_48, zk_49, zn_49, zk_50, zn_50, zk_51, zn_51, zk_52, zn_52, zk_53, zn_53, zk_54, zn_54, zk_55, zn_55, zk_56, zn_56, zk_57, zn_57, zk_58, zn_58, zk_59, zn_59, zk_60, zn_60, zk_61, zn_61, zk_62, zn_62, zk_63, zn_63, zk_64, zn_64, e1, h1, hc, hz, zup_app, Nat.reduceEqDiff, CK_o (M := M) (k := k) (a := 49) (by omega), CK_o (M := M) (k := k) (a := 50) (by omega), CK_o (M := M) (k := k) (a := 51) (by omega), CK_o (M := M) (k := k) (a := 52) (by omega), CK_o (M := M) (k := k) (a := 53) (by omega), nI_1]
theorem zV_keep (J : zV M) (e : ∀ a, (1 ≤ a ∧ a ≤ 8) ∨ (29 ≤ a ∧ a ≤ 41) ∨ (43 ≤ a ∧ a ≤ 48) ∨ (58 ≤ a ∧ a ≤ 63) → N a = M a) (e1 : N 42 1 = M 42 1) (e2 : N 42 2 = M 42 2) (e9 : N 42 9 = M 42 9) (e23 : N 42 23 = M 42 23) (Z : J0 N) : zV N := by
  obtain ⟨h, y, lw, c, T, R, S, -⟩ := J
  exact ⟨h, y, lw, c, JT_congr T (fun a ha => e a (by omega)) e1 e2 e9, JR_congr R (fun a ha => e a (by omega)) e23, JS_congr S (fun a ha => e a (by omega)), Z⟩
end IV
