-- CHRONICLE: how both begin, how the reference ends
section IV
variable {M M' C R N W : zM} {h y lw c k t a a' b o n r p m j i y0 : Nat} {Q : zR → zM → Prop} {x : Int32} {P S : Nat → Bool} {f G : Nat → Int32}
theorem JT_pw (T : JT M h y lw) (e17 : M' 1 7 = M 1 7) (e18 : M' 1 8 = M 1 8) (e1 : M' 42 1 = M 42 1) (e2 : M' 42 2 = M 42 2) (e9 : M' 42 9 = M 42 9) (e : ∀ a, (2 ≤ a ∧ a ≤ 8) ∨ (43 ≤ a ∧ a ≤ 48) → ∀ k, k < h → M' a k = M a k) : JT M' h y lw := by
  obtain ⟨t1, t2, t3, t4, t5, t6, t7, t8, t9, G⟩ := T
  refine ⟨e17.trans t1, e1.trans t2, e18.trans t3, e2.trans t4, e9.trans t5, t6, t7, t8, t9, fun k hk => ?_⟩
  have G := G k hk
  unfold JG at *
  rw [e 43 (by omega) k hk, e 44 (by omega) k hk, e 45 (by omega) k hk, e 46 (by omega) k hk, e 47 (by omega) k hk, e 48 (by omega) k hk, e 2 (by omega) k hk, e 3 (by omega) k hk, e 4 (by omega) k hk, e 5 (by omega) k hk, e 6 (by omega) k hk, e 7 (by omega) k hk, e 8 (by omega) k hk]
  exact G
theorem ML2_o (ha : a < 17 ∨ 24 < a) : ML2 M a = M a := by
  unfold ML2
  rw [bl_o2 a (by omega), zup_ne _ _ _ (by omega), zup_ne _ _ _ (by omega)]
theorem ML2_7 : ML2 M 17 7 = M 1 7 := by
  unfold ML2
  rw [bl_o2 17 (by omega)]
  show zup M 17 7 (M 1 7) 17 7 = _
  rw [zup_app, if_pos rfl, if_pos rfl]
theorem ML2_8 : ML2 M 17 8 = M 1 8 := by
  unfold ML2
  rw [bl_o2 17 (by omega), zup_app, if_pos rfl, if_pos rfl]
theorem ML2_k (hk : k < 6) : ML2 M 18 k = M 2 k ∧ ML2 M 19 k = M 3 k ∧ ML2 M 20 k = M 4 k ∧ ML2 M 21 k = M 5 k ∧ ML2 M 22 k = M 6 k ∧ ML2 M 23 k = M 7 k ∧ ML2 M 24 k = vp_nar .boolean (M 8 k) := by
  refine ⟨?_, ?_, ?_, ?_, ?_, ?_, ?_⟩ <;> (unfold ML2 bl; rw [if_pos ⟨by omega, by omega, hk⟩]; rfl)
def D9 (N : zM) (k : Nat) : Nat → Int32 := fun i => if i < k then -9 else N 26 i
theorem D9_0 : zrow N 26 (D9 N 0) = N := by
  funext a
  unfold zrow D9
  split
  · rename_i e; rw [e]; funext i; rw [if_neg (by omega)]
  · rfl
theorem D9_s : zup (zrow N 26 (D9 N k)) 26 k (-9) = zrow N 26 (D9 N (k + 1)) := by
  funext a i
  rw [zup_app]
  unfold zrow D9
  by_cases ea : a = 26
  · subst ea
    simp only [if_true]
    by_cases ei : i = k
    · subst ei
      rw [if_pos rfl, if_pos (by omega)]
    · rw [if_neg ei]
      have e1 : (i < k) = (i < k + 1) := by simp; omega
      simp only [e1]
  · simp only [if_neg ea]
def C0 (M : zM) : zM := zrow (zup (ML2 M) 25 2 0) 26 (D9 (zup (ML2 M) 25 2 0) 6)
theorem l_play9 : ∀ d k, k + d = 6 → (zQ 12 16 [.ref 25, .ref 1, .ref c, .int (nI a), .int (nI n), .int (nI k)] [] (zrow N 26 (D9 N k)) Q ↔ zQ 12 41 [.ref 25, .ref 1, .ref c, .int (nI a), .int (nI n), .int (nI 0)] [] (zrow N 26 (D9 N 6)) Q) := by
  intro d
  induction d with
  | zero =>
    intro k hk
    obtain rfl : k = 6 := by omega
    have f : (6 : Int32) ≤ nI 6 := i_le_refl _
    have i0 : nI 0 = 0 := rfl
    rw [q12_16]
    simp only [q12_0, q12_1, q12_4, q12_5, q12_8, q12_9, q12_10, q12_13, q12_14i, q12_14r, q12_14n, q12_18, q12_20, q12_23, q12_24, q12_27, q12_29, q12_31, q12_32i, q12_32r, q12_32n, q12_35, q12_38, q12_39i, q12_39r, q12_39n, q12_43, q12_45, q12_48, q12_49, q12_50, q12_53, q12_54, q12_55, q12_57, q12_58, q12_59, q12_60, q12_61, q12_64, q12_65, q12_66, q12_68, q12_69, q12_70, q12_71, q12_72, q12_73, q12_76, q12_79, q12_81, q12_82i, q12_82r, q12_82n, q12_85, q12_88, q12_90, zNC, zcs_0, zcs_i, zcs_r, zcs_l, zpush_0, zpush_i, zpush_l, and_true, true_and, Nat.reduceLT, Nat.reduceLeDiff, Nat.reduceAdd, Nat.reduceMul, reduceIte, ite_true, ite_false, if_true, if_false, not_true_eq_false, not_false_eq_true, false_implies, true_implies, forall_const, implies_true, imp_self, and_self, false_and, and_false, ne_eq, zk_0, zfv_0_0, zfv_0_1, zfv_0_2, zfv_0_3, zfv_0_4, zfv_0_5, zfv_0_6, zf_0_6, zfv_0_7, zf_0_7, zk_25, zfv_25_0, zfv_25_1, zfv_25_2, zf_25_2, zk_26, zn_26, zk_27, zfv_27_0, zk_28, zn_28, zk_29, zfv_29_0, zfv_29_1, zfv_29_2, zfv_29_3, zf_29_3, zk_30, zn_30, zk_31, zn_31, zk_32, zn_32, zk_33, zn_33, zk_34, zfv_34_0, zfv_34_1, zf_34_1, zfv_34_2, zf_34_2, zfv_34_3, zf_34_3, zk_35, zn_35, zk_36, zfv_36_0, zfv_36_1, zf_36_1, zfv_36_2, zf_36_2, zfv_36_3, zf_36_3, zk_37, zn_37, zk_38, zfv_38_0, zfv_38_1, zf_38_1, zfv_38_2, zf_38_2, zfv_38_3, zf_38_3, zk_39, zn_39, zk_40, zfv_40_0, zfv_40_1, zf_40_1, zfv_40_2, zf_40_2, zfv_40_3, zf_40_3, zk_41, zn_41, zk_1, zfv_1_0, zfv_1_1, zfv_1_2, zfv_1_3, zfv_1_4, zfv_1_5, zfv_1_6, zfv_1_7, zf_1_7, zfv_1_8, zf_1_8, zk_9, zfv_9_0, zfv_9_1, zfv_9_2, zfv_9_3, zfv_9_4, zfv_9_5, zfv_9_6, zfv_9_7, zf_9_7, zfv_9_8, zf_9_8, zk_17, zfv_17_0, zfv_17_1, zfv_17_2, zfv_17_3, zfv_17_4, zfv_17_5, zfv_17_6, zfv_17_7, zf_17_7, zfv_17_8, zf_17_8, zk_2, zn_2, zk_3, zn_3, zk_4, zn_4, zk_5, zn_5, zk_6, zn_6, zk_7, zn_7, zk_8, zn_8, zk_10, zn_10, zk_11, zn_11, zk_12, zn_12, zk_13, zn_13, zk_14, zn_14, zk_15, zn_15, zk_16, zn_16, zk_18, zn_18, zk_19, zn_19, zk_20, zn_20, zk_21, zn_21, zk_22, zn_22, zk_23, zn_23, zk_24, zn_24, f, i0]
  | succ d ih =>
    intro k hk
    have h1 : ¬ (6 : Int32) ≤ nI k := nI_ge (a := k) (b := 6) (by omega) (by omega)
    have hc : (nI k).toNatClampNeg = k := nI_clamp (by omega)
    have hz := zin_nI (k := k) (n := 6) (by omega) (by decide)
    have ih' := ih (k + 1) (by omega)
    rw [← D9_s] at ih'
    rw [q12_16, ← ih']
    simp only [q12_0, q12_1, q12_4, q12_5, q12_8, q12_9, q12_10, q12_13, q12_14i, q12_14r, q12_14n, q12_18, q12_20, q12_23, q12_24, q12_27, q12_29, q12_31, q12_32i, q12_32r, q12_32n, q12_35, q12_38, q12_39i, q12_39r, q12_39n, q12_43, q12_45, q12_48, q12_49, q12_50, q12_53, q12_54, q12_55, q12_57, q12_58, q12_59, q12_60, q12_61, q12_64, q12_65, q12_66, q12_68, q12_69, q12_70, q12_71, q12_72, q12_73, q12_76, q12_79, q12_81, q12_82i, q12_82r, q12_82n, q12_85, q12_88, q12_90, zNC, zcs_0, zcs_i, zcs_r, zcs_l, zpush_0, zpush_i, zpush_l, and_true, true_and, Nat.reduceLT, Nat.reduceLeDiff, Nat.reduceAdd, Nat.reduceMul, reduceIte, ite_true, ite_false, if_true, if_false, not_true_eq_false, not_false_eq_true, false_implies, true_implies, forall_const, implies_true, imp_self, and_self, false_and, and_false, ne_eq, zk_0, zfv_0_0, zfv_0_1, zfv_0_2, zfv_0_3, zfv_0_4, zfv_0_5, zfv_0_6, zf_0_6, zfv_0_7, zf_0_7, zk_25, zfv_25_0, zfv_25_1, zfv_25_2, zf_25_2, zk_26, zn_26, zk_27, zfv_27_0, zk_28, zn_28, zk_29, zfv_29_0, zfv_29_1, zfv_29_2, zfv_29_3, zf_29_3, zk_30, zn_30, zk_31, zn_31, zk_32, zn_32, zk_33, zn_33, zk_34, zfv_34_0, zfv_34_1, zf_34_1, zfv_34_2, zf_34_2, zfv_34_3, zf_34_3, zk_35, zn_35, zk_36, zfv_36_0, zfv_36_1, zf_36_1, zfv_36_2, zf_36_2, zfv_36_3, zf_36_3, zk_37, zn_37, zk_38, zfv_38_0, zfv_38_1, zf_38_1, zfv_38_2, zf_38_2, zfv_38_3, zf_38_3, zk_39, zn_39, zk_40, zfv_40_0, zfv_40_1, zf_40_1, zfv_40_2, zf_40_2, zfv_40_3, zf_40_3, zk_41, zn_41, zk_1, zfv_1_0, zfv_1_1, zfv_1_2, zfv_1_3, zfv_1_4, zfv_1_5, zfv_1_6, zfv_1_7, zf_1_7, zfv_1_8, zf_1_8, zk_9, zfv_9_0, zfv_9_1, zfv_9_2, zfv_9_3, zfv_9_4, zfv_9_5, zfv_9_6, zfv_9_7, zf_9_7, zfv_9_8, zf_9_8, zk_17, zfv_17_0, zfv_17_1, zfv_17_2, zfv_17_3, zfv_17_4, zfv_17_5, zfv_17_6, zfv_17_7, zf_17_7, zfv_17_8, zf_17_8, zk_2, zn_2, zk_3, zn_3, zk_4, zn_4, zk_5, zn_5, zk_6, zn_6, zk_7, zn_7, zk_8, zn_8, zk_10, zn_10, zk_11, zn_11, zk_12, zn_12, zk_13, zn_13, zk_14, zn_14, zk_15, zn_15, zk_16, zn_16, zk_18, zn_18, zk_19, zn_19, zk_20, zn_20, zk_21, zn_21, zk_22, zn_22, zk_23, zn_23, zk_24, zn_24, h1, hc, hz, nI_1]
theorem s_play0 : zQ 12 0 [.ref 25, .ref 1, .ref c, .int (nI a), .int (nI n), .null] [] M Q ↔ zQ 12 41 [.ref 25, .ref 1, .ref c, .int (nI a), .int (nI n), .int (nI 0)] [] (C0 M) Q := by
  unfold C0
  rw [← l_play9 6 0 (by omega), D9_0]
  simp only [q12_0, q12_1, q12_4, q12_5, q12_8, q12_9, q12_10, q12_13, q12_14i, q12_14r, q12_14n, q12_18, q12_20, q12_23, q12_24, q12_27, q12_29, q12_31, q12_32i, q12_32r, q12_32n, q12_35, q12_38, q12_39i, q12_39r, q12_39n, q12_43, q12_45, q12_48, q12_49, q12_50, q12_53, q12_54, q12_55, q12_57, q12_58, q12_59, q12_60, q12_61, q12_64, q12_65, q12_66, q12_68, q12_69, q12_70, q12_71, q12_72, q12_73, q12_76, q12_79, q12_81, q12_82i, q12_82r, q12_82n, q12_85, q12_88, q12_90, zNC, zcs_0, zcs_i, zcs_r, zcs_l, zpush_0, zpush_i, zpush_l, and_true, true_and, Nat.reduceLT, Nat.reduceLeDiff, Nat.reduceAdd, Nat.reduceMul, reduceIte, ite_true, ite_false, if_true, if_false, not_true_eq_false, not_false_eq_true, false_implies, true_implies, forall_const, implies_true, imp_self, and_self, false_and, and_false, ne_eq, zk_0, zfv_0_0, zfv_0_1, zfv_0_2, zfv_0_3, zfv_0_4, zfv_0_5, zfv_0_6, zf_0_6, zfv_0_7, zf_0_7, zk_25, zfv_25_0, zfv_25_1, zfv_25_2, zf_25_2, zk_26, zn_26, zk_27, zfv_27_0, zk_28, zn_28, zk_29, zfv_29_0, zfv_29_1, zfv_29_2, zfv_29_3, zf_29_3, zk_30, zn_30, zk_31, zn_31, zk_32, zn_32, zk_33, zn_33, zk_34, zfv_34_0, zfv_34_1, zf_34_1, zfv_34_2, zf_34_2, zfv_34_3, zf_34_3, zk_35, zn_35, zk_36, zfv_36_0, zfv_36_1, zf_36_1, zfv_36_2, zf_36_2, zfv_36_3, zf_36_3, zk_37, zn_37, zk_38, zfv_38_0, zfv_38_1, zf_38_1, zfv_38_2, zf_38_2, zfv_38_3, zf_38_3, zk_39, zn_39, zk_40, zfv_40_0, zfv_40_1, zf_40_1, zfv_40_2, zf_40_2, zfv_40_3, zf_40_3, zk_41, zn_41, zk_1, zfv_1_0, zfv_1_1, zfv_1_2, zfv_1_3, zfv_1_4, zfv_1_5, zfv_1_6, zfv_1_7, zf_1_7, zfv_1_8, zf_1_8, zk_9, zfv_9_0, zfv_9_1, zfv_9_2, zfv_9_3, zfv_9_4, zfv_9_5, zfv_9_6, zfv_9_7, zf_9_7, zfv_9_8, zf_9_8, zk_17, zfv_17_0, zfv_17_1, zfv_17_2, zfv_17_3, zfv_17_4, zfv_17_5, zfv_17_6, zfv_17_7, zf_17_7, zfv_17_8, zf_17_8, zk_2, zn_2, zk_3, zn_3, zk_4, zn_4, zk_5, zn_5, zk_6, zn_6, zk_7, zn_7, zk_8, zn_8, zk_10, zn_10, zk_11, zn_11, zk_12, zn_12, zk_13, zn_13, zk_14, zn_14, zk_15, zn_15, zk_16, zn_16, zk_18, zn_18, zk_19, zn_19, zk_20, zn_20, zk_21, zn_21, zk_22, zn_22, zk_23, zn_23, zk_24, zn_24, s_like2, nI_0]
def RWk (W : zM) (k : Nat) : zM := fun a i => if i < k then (if a = 54 then W 44 i else if a = 55 then -9 else W a i) else W a i
theorem RWk_o (ha : a ≠ 54 ∧ a ≠ 55) : RWk W k a = W a := by
  funext i
  unfold RWk
  rw [if_neg ha.1, if_neg ha.2]
  split <;> rfl
theorem RWk_0 : RWk W 0 = W := by
  funext a i
  unfold RWk
  rw [if_neg (by omega)]
theorem RWk_s : zup (zup (RWk W k) 54 k (W 44 k)) 55 k (-9) = RWk W (k + 1) := by
  funext a i
  simp only [zup_app]
  unfold RWk
  by_cases ei : i = k
  · subst ei
    have g1 : ¬ i < i := by omega
    have g2 : i < i + 1 := by omega
    simp only [if_neg g1, if_pos g2, if_true]
    by_cases a55 : a = 55
    · subst a55; rfl
    · by_cases a54 : a = 54
      · subst a54; rfl
      · simp only [if_neg a55, if_neg a54]
  · have e1 : (i < k) = (i < k + 1) := by simp; omega
    simp only [if_neg ei, e1]
    by_cases a55 : a = 55
    · subst a55; rfl
    · by_cases a54 : a = 54
      · subst a54; rfl
      · simp only [if_neg a55, if_neg a54]
def RW (W : zM) (h : Nat) : zM := zup (zup (RWk W h) 42 18 (W 42 9)) 42 19 (W 42 2)
theorem l_rw (hm : W 42 1 = nI h) (h6 : h ≤ 6) {x1 x2 x3 x4 x5 x6 x7 : Int32} : ∀ d k, k + d = h → (zQ 122 167 [.ref 42, .int x1, .int x2, .int x3, .int x4, .int x5, .int x6, .int x7, .int (nI k), .null] [] (RWk W k) Q ↔ zQ 122 205 [.ref 42, .int x1, .int x2, .int x3, .int x4, .int x5, .int x6, .int x7, .int (nI h), .null] [] (RWk W h) Q) := by
  intro d
  induction d with
  | zero =>
    intro k hk
    obtain rfl : k = h := by omega
    have e1 : RWk W k 42 1 = nI k := by rw [RWk_o (by decide)]; exact hm
    rw [q122_167]
    simp only [q122_0, q122_1, q122_4, q122_7, q122_8, q122_9, q122_12, q122_13, q122_15, q122_16, q122_17, q122_20, q122_23, q122_26, q122_28, q122_29, q122_32, q122_35, q122_38, q122_41, q122_43, q122_44, q122_47, q122_50, q122_53, q122_56, q122_57, q122_60, q122_61i, q122_61r, q122_61n, q122_63, q122_64, q122_65, q122_66, q122_69, q122_72, q122_75, q122_77, q122_78, q122_79, q122_82, q122_85, q122_88, q122_90, q122_93, q122_94, q122_96, q122_99, q122_100, q122_101, q122_104, q122_107, q122_108, q122_110, q122_113, q122_114, q122_115, q122_116, q122_117, q122_118, q122_121, q122_123, q122_124, q122_125, q122_128i, q122_128r, q122_128n, q122_130, q122_132, q122_135, q122_137, q122_138, q122_139, q122_141, q122_142, q122_143, q122_144, q122_145, q122_147, q122_150i, q122_150r, q122_150n, q122_152, q122_154, q122_157, q122_158, q122_160, q122_163, q122_164, q122_165i, q122_165r, q122_165n, q122_169, q122_170, q122_173, q122_176, q122_177, q122_180, q122_182, q122_183, q122_186, q122_188, q122_189, q122_190, q122_191, q122_194, q122_196, q122_198, q122_199i, q122_199r, q122_199n, q122_202, q122_206, q122_207, q122_210, q122_213, q122_214, q122_215, q122_218, q122_221, q122_222, q122_224, q122_225, q122_226, q122_227, q122_228, q122_230, q122_232, q122_235i, q122_235r, q122_235n, q122_237, q122_238i, q122_238r, q122_238n, q122_242, q122_243, q122_246, q122_249, q122_250, q122_253, q122_255, q122_256, q122_259, q122_261, q122_262, q122_263i, q122_263r, q122_263n, q122_266, q122_269, q122_270, q122_271, q122_274, q122_277, q122_278, q122_279, q122_282, q122_285, q122_286, q122_288, q122_291, zNC, zcs_0, zcs_i, zcs_r, zcs_l, zpush_0, zpush_i, zpush_l, and_true, true_and, Nat.reduceLT, Nat.reduceLeDiff, Nat.reduceAdd, Nat.reduceMul, reduceIte, ite_true, ite_false, if_true, if_false, not_true_eq_false, not_false_eq_true, false_implies, true_implies, forall_const, implies_true, imp_self, and_self, false_and, and_false, ne_eq, zk_42, zfv_42_0, zf_42_0, zfv_42_1, zf_42_1, zfv_42_2, zf_42_2, zfv_42_3, zfv_42_4, zfv_42_5, zfv_42_6, zfv_42_7, zfv_42_8, zfv_42_9, zf_42_9, zfv_42_10, zf_42_10, zfv_42_11, zf_42_11, zfv_42_12, zfv_42_13, zfv_42_14, zfv_42_15, zfv_42_16, zfv_42_17, zfv_42_18, zf_42_18, zfv_42_19, zf_42_19, zfv_42_20, zfv_42_21, zfv_42_22, zfv_42_23, zf_42_23, zfv_42_24, zfv_42_25, zfv_42_26, zfv_42_27, zfv_42_28, zfv_42_29, zfv_42_30, zfv_42_31, zf_42_31, zk_43, zn_43, zk_44, zn_44, zk_45, zn_45, zk_46, zn_46, zk_47, zn_47, zk_48, zn_48, zk_49, zn_49, zk_50, zn_50, zk_51, zn_51, zk_52, zn_52, zk_53, zn_53, zk_54, zn_54, zk_55, zn_55, zk_56, zn_56, zk_57, zn_57, zk_58, zn_58, zk_59, zn_59, zk_60, zn_60, zk_61, zn_61, zk_62, zn_62, zk_63, zn_63, zk_64, zn_64, e1, i_le_refl]
  | succ d ih =>
    intro k hk
    have e1 : RWk W k 42 1 = nI h := by rw [RWk_o (by decide)]; exact hm
    have e44 : RWk W k 44 = W 44 := RWk_o (by decide)
    have h1 : ¬ nI h ≤ nI k := nI_ge (by omega) (by omega)
    have hc : (nI k).toNatClampNeg = k := nI_clamp (by omega)
    have hz := zin_nI (k := k) (n := 6) (by omega) (by decide)
    have ih' := ih (k + 1) (by omega)
    rw [← RWk_s] at ih'
    rw [q122_167, ← ih']
    simp only [q122_0, q122_1, q122_4, q122_7, q122_8, q122_9, q122_12, q122_13, q122_15, q122_16, q122_17, q122_20, q122_23, q122_26, q122_28, q122_29, q122_32, q122_35, q122_38, q122_41, q122_43, q122_44, q122_47, q122_50, q122_53, q122_56, q122_57, q122_60, q122_61i, q122_61r, q122_61n, q122_63, q122_64, q122_65, q122_66, q122_69, q122_72, q122_75, q122_77, q122_78, q122_79, q122_82, q122_85, q122_88, q122_90, q122_93, q122_94, q122_96, q122_99, q122_100, q122_101, q122_104, q122_107, q122_108, q122_110, q122_113, q122_114, q122_115, q122_116, q122_117, q122_118, q122_121, q122_123, q122_124, q122_125, q122_128i, q122_128r, q122_128n, q122_130, q122_132, q122_135, q122_137, q122_138, q122_139, q122_141, q122_142, q122_143, q122_144, q122_145, q122_147, q122_150i, q122_150r, q122_150n, q122_152, q122_154, q122_157, q122_158, q122_160, q122_163, q122_164, q122_165i, q122_165r, q122_165n, q122_169, q122_170, q122_173, q122_176, q122_177, q122_180, q122_182, q122_183, q122_186, q122_188, q122_189, q122_190, q122_191, q122_194, q122_196, q122_198, q122_199i, q122_199r, q122_199n, q122_202, q122_206, q122_207, q122_210, q122_213, q122_214, q122_215, q122_218, q122_221, q122_222, q122_224, q122_225, q122_226, q122_227, q122_228, q122_230, q122_232, q122_235i, q122_235r, q122_235n, q122_237, q122_238i, q122_238r, q122_238n, q122_242, q122_243, q122_246, q122_249, q122_250, q122_253, q122_255, q122_256, q122_259, q122_261, q122_262, q122_263i, q122_263r, q122_263n, q122_266, q122_269, q122_270, q122_271, q122_274, q122_277, q122_278, q122_279, q122_282, q122_285, q122_286, q122_288, q122_291, zNC, zcs_0, zcs_i, zcs_r, zcs_l, zpush_0, zpush_i, zpush_l, and_true, true_and, Nat.reduceLT, Nat.reduceLeDiff, Nat.reduceAdd, Nat.reduceMul, reduceIte, ite_true, ite_false, if_true, if_false, not_true_eq_false, not_false_eq_true, false_implies, true_implies, forall_const, implies_true, imp_self, and_self, false_and, and_false, ne_eq, zk_42, zfv_42_0, zf_42_0, zfv_42_1, zf_42_1, zfv_42_2, zf_42_2, zfv_42_3, zfv_42_4, zfv_42_5, zfv_42_6, zfv_42_7, zfv_42_8, zfv_42_9, zf_42_9, zfv_42_10, zf_42_10, zfv_42_11, zf_42_11, zfv_42_12, zfv_42_13, zfv_42_14, zfv_42_15, zfv_42_16, zfv_42_17, zfv_42_18, zf_42_18, zfv_42_19, zf_42_19, zfv_42_20, zfv_42_21, zfv_42_22, zfv_42_23, zf_42_23, zfv_42_24, zfv_42_25, zfv_42_26, zfv_42_27, zfv_42_28, zfv_42_29, zfv_42_30, zfv_42_31, zf_42_31, zk_43, zn_43, zk_44, zn_44, zk_45, zn_45, zk_46, zn_46, zk_47, zn_47, zk_48, zn_48, zk_49, zn_49, zk_50, zn_50, zk_51, zn_51, zk_52, zn_52, zk_53, zn_53, zk_54, zn_54, zk_55, zn_55, zk_56, zn_56, zk_57, zn_57, zk_58, zn_58, zk_59, zn_59, zk_60, zn_60, zk_61, zn_61, zk_62, zn_62, zk_63, zn_63, zk_64, zn_64, e1, e44, h1, hc, hz, nI_1]
theorem vb_zb {p : Prop} [Decidable p] : vp_nar .boolean (zb1 p) = zb1 p := by
  by_cases h : p
  · rw [zb1_t h]; decide
  · rw [zb1_f h]; decide
theorem CR_start (T : JT M h y lw) (hW : ∀ a, 26 < a → W a = M a) : CR (C0 (zup M 0 7 0)) (RW W h) h y lw y := by
  have h6 := T.2.2.2.2.2.2.1
  have c17 : C0 (zup M 0 7 0) 17 = ML2 (zup M 0 7 0) 17 := rfl
  have cm : ∀ a, 17 ≤ a → a ≤ 24 → C0 (zup M 0 7 0) a = ML2 (zup M 0 7 0) a := fun a h1 h2 => by
    unfold C0
    rw [zrow_ne _ _ (by omega), zup_ne _ _ _ (by omega)]
  have r : ∀ a, a ≠ 42 → a ≠ 54 → a ≠ 55 → RW W h a = W a := fun a a1 a2 a3 => by
    unfold RW
    rw [zup_ne _ _ _ a1, zup_ne _ _ _ a1, RWk_o ⟨a2, a3⟩]
  have r42 : ∀ i, i ≠ 18 → i ≠ 19 → RW W h 42 i = W 42 i := fun i i1 i2 => by
    unfold RW
    rw [zup_app, if_pos rfl, if_neg i2, zup_app, if_pos rfl, if_neg i1, RWk_o (by decide)]
  have w42 := hW 42 (by decide)
  have r54 : ∀ i, i < h → RW W h 54 i = W 44 i := fun i hi => by
    show RWk W h 54 i = _
    unfold RWk
    rw [if_pos hi, if_pos rfl]
  have r55 : ∀ i, i < h → RW W h 55 i = -9 := fun i hi => by
    show RWk W h 55 i = _
    unfold RWk
    rw [if_pos hi, if_neg (by decide), if_pos rfl]
  refine ⟨JT_pw T ?_ ?_ ?_ ?_ ?_ (fun a ha i hi => ?_), Nat.le_refl _, ?_, ?_, fun i hi => ⟨?_, ?_⟩, fun i hi hi6 => ?_⟩
  · show C0 (zup M 0 7 0) 17 7 = _
    rw [c17, ML2_7]; rfl
  · show C0 (zup M 0 7 0) 17 8 = _
    rw [c17, ML2_8]; rfl
  · show RW W h 42 1 = _
    rw [r42 1 (by decide) (by decide), w42]
  · show RW W h 42 2 = _
    rw [r42 2 (by decide) (by decide), w42]
  · show RW W h 42 9 = _
    rw [r42 9 (by decide) (by decide), w42]
  · by_cases h8 : a ≤ 8
    · obtain ⟨e1, e2, e3, e4, e5, e6, e7⟩ := ML2_k (M := zup M 0 7 0) (k := i) (by omega)
      rw [vw_c (by omega) h8, cm (a + 16) (by omega) (by omega)]
      have g8 : M 8 i = zb1 (lw.testBit i = true) := (T.2.2.2.2.2.2.2.2.2 i hi).1.2.2.2.2.2.2
      have z : ∀ a, a ≠ 0 → zup M 0 7 0 a = M a := fun a ha => zup_ne _ _ _ ha
      have ha2 : a = 2 ∨ a = 3 ∨ a = 4 ∨ a = 5 ∨ a = 6 ∨ a = 7 ∨ a = 8 := by omega
      rcases ha2 with rfl | rfl | rfl | rfl | rfl | rfl | rfl
      · exact e1
      · exact e2
      · exact e3
      · exact e4
      · exact e5
      · exact e6
      · refine e7.trans ?_
        rw [z 8 (by decide), g8]
        exact vb_zb
    · rw [vw_r (by omega), r a (by omega) (by omega) (by omega), hW a (by omega)]
  · show W 42 2 = _
    rw [w42]; exact T.2.2.2.1
  · rw [Nat.sub_self]; rfl
  · rw [r55 i hi]
    show D9 _ 6 i = -9
    unfold D9
    rw [if_pos (by omega)]
  · rw [r54 i hi, r55 i hi, r 44 (by decide) (by decide) (by decide)]
    exact ⟨fun e => ⟨e, by decide⟩, fun e => e.1⟩
  · show D9 _ 6 i = -9
    unfold D9
    rw [if_pos hi6]
def RB (N : zM) (k : Nat) : zM := fun a i => if a = 44 ∧ i < k then N 54 i else N a i
theorem RB_o (ha : a ≠ 44) : RB N k a = N a := by
  funext i
  unfold RB
  rw [if_neg (fun e => ha e.1)]
theorem RB_0 : RB N 0 = N := by
  funext a i
  unfold RB
  rw [if_neg (by omega)]
theorem RB_s : zup (RB N k) 44 k (N 54 k) = RB N (k + 1) := by
  funext a i
  rw [zup_app]
  unfold RB
  by_cases ea : a = 44
  · subst ea
    simp only [if_true, true_and]
    by_cases ei : i = k
    · subst ei
      rw [if_pos rfl, if_pos (by omega)]
    · rw [if_neg ei]
      have e1 : (i < k) = (i < k + 1) := by simp; omega
      simp only [e1]
  · simp only [if_neg ea, ea, false_and, if_false]
def RF (N : zM) (h : Nat) : zM := zup (zup (zup (RB N h) 42 9 (N 42 18)) 42 2 (N 42 19)) 42 0 0
theorem l_rb (hm : N 42 1 = nI h) (h6 : h ≤ 6) {x1 x2 x3 x4 x5 x6 x7 v : Int32} : ∀ d k, k + d = h → (zQ 122 240 [.ref 42, .int x1, .int x2, .int x3, .int x4, .int x5, .int x6, .int x7, .int v, .int (nI k)] [] (RB N k) Q ↔ Q (zI v) (RF N h)) := by
  intro d
  induction d with
  | zero =>
    intro k hk
    obtain rfl : k = h := by omega
    have e1 : RB N k 42 1 = nI k := by rw [RB_o (by decide)]; exact hm
    have e18 : RB N k 42 18 = N 42 18 := by rw [RB_o (by decide)]
    have e19 : ∀ v, zup (RB N k) 42 9 v 42 19 = N 42 19 := fun v => by
      rw [zup_app, if_pos rfl, if_neg (by decide), RB_o (by decide)]
    rw [q122_240]
    unfold RF
    simp only [q122_0, q122_1, q122_4, q122_7, q122_8, q122_9, q122_12, q122_13, q122_15, q122_16, q122_17, q122_20, q122_23, q122_26, q122_28, q122_29, q122_32, q122_35, q122_38, q122_41, q122_43, q122_44, q122_47, q122_50, q122_53, q122_56, q122_57, q122_60, q122_61i, q122_61r, q122_61n, q122_63, q122_64, q122_65, q122_66, q122_69, q122_72, q122_75, q122_77, q122_78, q122_79, q122_82, q122_85, q122_88, q122_90, q122_93, q122_94, q122_96, q122_99, q122_100, q122_101, q122_104, q122_107, q122_108, q122_110, q122_113, q122_114, q122_115, q122_116, q122_117, q122_118, q122_121, q122_123, q122_124, q122_125, q122_128i, q122_128r, q122_128n, q122_130, q122_132, q122_135, q122_137, q122_138, q122_139, q122_141, q122_142, q122_143, q122_144, q122_145, q122_147, q122_150i, q122_150r, q122_150n, q122_152, q122_154, q122_157, q122_158, q122_160, q122_163, q122_164, q122_165i, q122_165r, q122_165n, q122_169, q122_170, q122_173, q122_176, q122_177, q122_180, q122_182, q122_183, q122_186, q122_188, q122_189, q122_190, q122_191, q122_194, q122_196, q122_198, q122_199i, q122_199r, q122_199n, q122_202, q122_206, q122_207, q122_210, q122_213, q122_214, q122_215, q122_218, q122_221, q122_222, q122_224, q122_225, q122_226, q122_227, q122_228, q122_230, q122_232, q122_235i, q122_235r, q122_235n, q122_237, q122_238i, q122_238r, q122_238n, q122_242, q122_243, q122_246, q122_249, q122_250, q122_253, q122_255, q122_256, q122_259, q122_261, q122_262, q122_263i, q122_263r, q122_263n, q122_266, q122_269, q122_270, q122_271, q122_274, q122_277, q122_278, q122_279, q122_282, q122_285, q122_286, q122_288, q122_291, zNC, zcs_0, zcs_i, zcs_r, zcs_l, zpush_0, zpush_i, zpush_l, and_true, true_and, Nat.reduceLT, Nat.reduceLeDiff, Nat.reduceAdd, Nat.reduceMul, reduceIte, ite_true, ite_false, if_true, if_false, not_true_eq_false, not_false_eq_true, false_implies, true_implies, forall_const, implies_true, imp_self, and_self, false_and, and_false, ne_eq, zk_42, zfv_42_0, zf_42_0, zfv_42_1, zf_42_1, zfv_42_2, zf_42_2, zfv_42_3, zfv_42_4, zfv_42_5, zfv_42_6, zfv_42_7, zfv_42_8, zfv_42_9, zf_42_9, zfv_42_10, zf_42_10, zfv_42_11, zf_42_11, zfv_42_12, zfv_42_13, zfv_42_14, zfv_42_15, zfv_42_16, zfv_42_17, zfv_42_18, zf_42_18, zfv_42_19, zf_42_19, zfv_42_20, zfv_42_21, zfv_42_22, zfv_42_23, zf_42_23, zfv_42_24, zfv_42_25, zfv_42_26, zfv_42_27, zfv_42_28, zfv_42_29, zfv_42_30, zfv_42_31, zf_42_31, zk_43, zn_43, zk_44, zn_44, zk_45, zn_45, zk_46, zn_46, zk_47, zn_47, zk_48, zn_48, zk_49, zn_49, zk_50, zn_50, zk_51, zn_51, zk_52, zn_52, zk_53, zn_53, zk_54, zn_54, zk_55, zn_55, zk_56, zn_56, zk_57, zn_57, zk_58, zn_58, zk_59, zn_59, zk_60, zn_60, zk_61, zn_61, zk_62, zn_62, zk_63, zn_63, zk_64, zn_64, e1, e18, e19, i_le_refl, s_refused]
  | succ d ih =>
    intro k hk
    have e1 : RB N k 42 1 = nI h := by rw [RB_o (by decide)]; exact hm
    have e54 : RB N k 54 = N 54 := RB_o (by decide)
    have h1 : ¬ nI h ≤ nI k := nI_ge (by omega) (by omega)
    have hc : (nI k).toNatClampNeg = k := nI_clamp (by omega)
    have hz := zin_nI (k := k) (n := 6) (by omega) (by decide)
    have ih' := ih (k + 1) (by omega)
    rw [← RB_s] at ih'
    rw [q122_240, ← ih']
    simp only [q122_0, q122_1, q122_4, q122_7, q122_8, q122_9, q122_12, q122_13, q122_15, q122_16, q122_17, q122_20, q122_23, q122_26, q122_28, q122_29, q122_32, q122_35, q122_38, q122_41, q122_43, q122_44, q122_47, q122_50, q122_53, q122_56, q122_57, q122_60, q122_61i, q122_61r, q122_61n, q122_63, q122_64, q122_65, q122_66, q122_69, q122_72, q122_75, q122_77, q122_78, q122_79, q122_82, q122_85, q122_88, q122_90, q122_93, q122_94, q122_96, q122_99, q122_100, q122_101, q122_104, q122_107, q122_108, q122_110, q122_113, q122_114, q122_115, q122_116, q122_117, q122_118, q122_121, q122_123, q122_124, q122_125, q122_128i, q122_128r, q122_128n, q122_130, q122_132, q122_135, q122_137, q122_138, q122_139, q122_141, q122_142, q122_143, q122_144, q122_145, q122_147, q122_150i, q122_150r, q122_150n, q122_152, q122_154, q122_157, q122_158, q122_160, q122_163, q122_164, q122_165i, q122_165r, q122_165n, q122_169, q122_170, q122_173, q122_176, q122_177, q122_180, q122_182, q122_183, q122_186, q122_188, q122_189, q122_190, q122_191, q122_194, q122_196, q122_198, q122_199i, q122_199r, q122_199n, q122_202, q122_206, q122_207, q122_210, q122_213, q122_214, q122_215, q122_218, q122_221, q122_222, q122_224, q122_225, q122_226, q122_227, q122_228, q122_230, q122_232, q122_235i, q122_235r, q122_235n, q122_237, q122_238i, q122_238r, q122_238n, q122_242, q122_243, q122_246, q122_249, q122_250, q122_253, q122_255, q122_256, q122_259, q122_261, q122_262, q122_263i, q122_263r, q122_263n, q122_266, q122_269, q122_270, q122_271, q122_274, q122_277, q122_278, q122_279, q122_282, q122_285, q122_286, q122_288, q122_291, zNC, zcs_0, zcs_i, zcs_r, zcs_l, zpush_0, zpush_i, zpush_l, and_true, true_and, Nat.reduceLT, Nat.reduceLeDiff, Nat.reduceAdd, Nat.reduceMul, reduceIte, ite_true, ite_false, if_true, if_false, not_true_eq_false, not_false_eq_true, false_implies, true_implies, forall_const, implies_true, imp_self, and_self, false_and, and_false, ne_eq, zk_42, zfv_42_0, zf_42_0, zfv_42_1, zf_42_1, zfv_42_2, zf_42_2, zfv_42_3, zfv_42_4, zfv_42_5, zfv_42_6, zfv_42_7, zfv_42_8, zfv_42_9, zf_42_9, zfv_42_10, zf_42_10, zfv_42_11, zf_42_11, zfv_42_12, zfv_42_13, zfv_42_14, zfv_42_15, zfv_42_16, zfv_42_17, zfv_42_18, zf_42_18, zfv_42_19, zf_42_19, zfv_42_20, zfv_42_21, zfv_42_22, zfv_42_23, zf_42_23, zfv_42_24, zfv_42_25, zfv_42_26, zfv_42_27, zfv_42_28, zfv_42_29, zfv_42_30, zfv_42_31, zf_42_31, zk_43, zn_43, zk_44, zn_44, zk_45, zn_45, zk_46, zn_46, zk_47, zn_47, zk_48, zn_48, zk_49, zn_49, zk_50, zn_50, zk_51, zn_51, zk_52, zn_52, zk_53, zn_53, zk_54, zn_54, zk_55, zn_55, zk_56, zn_56, zk_57, zn_57, zk_58, zn_58, zk_59, zn_59, zk_60, zn_60, zk_61, zn_61, zk_62, zn_62, zk_63, zn_63, zk_64, zn_64, e1, e54, h1, hc, hz, nI_1]
end IV
