-- CHRONICLE: the method
section IV
variable {M M' C R N W : zM} {h y lw c k t a a' b o n r p m j i y0 : Nat} {Q : zR → zM → Prop} {x x1 x2 x3 x4 x5 : Int32} {P S : Nat → Bool} {f G g : Nat → Int32}
def fask (x : Int32) : Prop := (0 ≤ x ∧ x ≤ 3) ∨ (10 ≤ x ∧ x ≤ 15) ∨ (20 ≤ x ∧ x ≤ 25)
theorem sub_n (x : Int32) {d : Int32} {D : Nat} (hd : d.toInt = D) (hD : D ≤ 100) : (0 ≤ (x - d).toInt ∧ (x - d).toInt < 6) ↔ ((D : Int) ≤ x.toInt ∧ x.toInt ≤ D + 5) := by
  have e : (x - d).toInt = (x.toInt - D).bmod (2 ^ 32) := by rw [Int32.toInt_sub, hd]
  have h1 := Int32.toInt_lt x
  have h2 := Int32.le_toInt x
  simp only [Int.bmod] at e
  split at e <;> omega
theorem ask_iff : ((0 ≤ x ∧ x < 4) ∨ (0 ≤ x - 10 ∧ x - 10 < 6) ∨ (0 ≤ x - 20 ∧ x - 20 < 6)) ↔ fask x := by
  have h1 := sub_n x (d := 10) (D := 10) (by decide) (by decide)
  have h2 := sub_n x (d := 20) (D := 20) (by decide) (by decide)
  unfold fask
  have t15 : (15 : Int32).toInt = 15 := by decide
  have t25 : (25 : Int32).toInt = 25 := by decide
  simp only [fa_le, fa_lt, zt_0, zt_3, zt_4, zt_6, zt_10, zt_20, t15, t25]
  omega
theorem ask_cases (h : fask x) : x = 1 ∨ (¬ x = 1 ∧ (x = 0 ∨ x = 2 ∨ x = 3 ∨ (∃ j, j < 6 ∧ x = nI (10 + j)) ∨ (∃ j, j < 6 ∧ x = nI (20 + j)))) := by
  have nat : ∀ v : Int32, 0 ≤ v → ∃ n : Nat, n < 2 ^ 31 ∧ v = nI n := fun v hv => nI_of (x := v) (by simp only [fa_lt, fa_le] at *; omega)
  rcases h with ⟨h1, h2⟩ | ⟨h1, h2⟩ | ⟨h1, h2⟩
  · obtain ⟨n, hn, rfl⟩ := nat x h1
    have := (nI_leI (a := n) (b := 3) hn (by omega)).mp h2
    have : n = 0 ∨ n = 1 ∨ n = 2 ∨ n = 3 := by omega
    rcases this with rfl | rfl | rfl | rfl
    · exact Or.inr ⟨by decide, Or.inl rfl⟩
    · exact Or.inl rfl
    · exact Or.inr ⟨by decide, Or.inr (Or.inl rfl)⟩
    · exact Or.inr ⟨by decide, Or.inr (Or.inr (Or.inl rfl))⟩
  · obtain ⟨n, hn, rfl⟩ := nat x (i_trans (by decide) h1)
    have a1 := (nI_leI (a := 10) (b := n) (by omega) hn).mp h1
    have a2 := (nI_leI (a := n) (b := 15) hn (by omega)).mp h2
    exact Or.inr ⟨fun e => by have := (nI_eq (a := n) (b := 1) hn (by omega)).mp e; omega, Or.inr (Or.inr (Or.inr (Or.inl ⟨n - 10, by omega, by congr 1; omega⟩)))⟩
  · obtain ⟨n, hn, rfl⟩ := nat x (i_trans (by decide) h1)
    have a1 := (nI_leI (a := 20) (b := n) (by omega) hn).mp h1
    have a2 := (nI_leI (a := n) (b := 25) hn (by omega)).mp h2
    exact Or.inr ⟨fun e => by have := (nI_eq (a := n) (b := 1) hn (by omega)).mp e; omega, Or.inr (Or.inr (Or.inr (Or.inr ⟨n - 20, by omega, by congr 1; omega⟩)))⟩
noncomputable def zask (x : Int32) : Int32 := zbp (fask x)
theorem s_ask : zQ 122 13 [.ref 42, .int x1, .int x2, .int x3, .int x4, .int x5, .null, .null, .null, .null] [] M Q ↔ zQ 122 63 [.ref 42, .int x1, .int x2, .int x3, .int x4, .int x5, .int (zbp (fask x5)), .null, .null, .null] [] M Q := by
  have l10 : (10 ≤ x5.toInt64 ↔ 10 ≤ x5) := fa_wide_le 10 x5
  have l15 : (x5.toInt64 ≤ 15 ↔ x5 ≤ 15) := fa_wide_le x5 15
  have l20 : (20 ≤ x5.toInt64 ↔ 20 ≤ x5) := fa_wide_le 20 x5
  have l25 : (x5.toInt64 ≤ 25 ↔ x5 ≤ 25) := fa_wide_le x5 25
  rw [q122_13]
  by_cases c1 : 0 ≤ x5 ∧ x5 ≤ 3
  · rw [zbp_t (show fask x5 from Or.inl c1)]
    simp only [q122_0, q122_1, q122_4, q122_7, q122_8, q122_9, q122_12, q122_15, q122_16, q122_17, q122_20, q122_23, q122_26, q122_28, q122_29, q122_32, q122_35, q122_38, q122_41, q122_43, q122_44, q122_47, q122_50, q122_53, q122_56, q122_57, q122_60, q122_61i, q122_61r, q122_61n, q122_64, q122_65, q122_66, q122_69, q122_72, q122_75, q122_77, q122_78, q122_79, q122_82, q122_85, q122_88, q122_90, q122_93, q122_94, q122_96, q122_99, q122_100, q122_101, q122_104, q122_107, q122_108, q122_110, q122_113, q122_114, q122_115, q122_116, q122_117, q122_118, q122_121, q122_123, q122_124, q122_125, q122_128i, q122_128r, q122_128n, q122_130, q122_132, q122_135, q122_137, q122_138, q122_139, q122_141, q122_142, q122_143, q122_144, q122_145, q122_147, q122_150i, q122_150r, q122_150n, q122_152, q122_154, q122_157, q122_158, q122_160, q122_163, q122_164, q122_165i, q122_165r, q122_165n, q122_169, q122_170, q122_173, q122_176, q122_177, q122_180, q122_182, q122_183, q122_186, q122_188, q122_189, q122_190, q122_191, q122_194, q122_196, q122_198, q122_199i, q122_199r, q122_199n, q122_202, q122_206, q122_207, q122_210, q122_213, q122_214, q122_215, q122_218, q122_221, q122_222, q122_224, q122_225, q122_226, q122_227, q122_228, q122_230, q122_232, q122_235i, q122_235r, q122_235n, q122_237, q122_238i, q122_238r, q122_238n, q122_242, q122_243, q122_246, q122_249, q122_250, q122_253, q122_255, q122_256, q122_259, q122_261, q122_262, q122_263i, q122_263r, q122_263n, q122_266, q122_269, q122_270, q122_271, q122_274, q122_277, q122_278, q122_279, q122_282, q122_285, q122_286, q122_288, q122_291, zNC, zcs_0, zcs_i, zcs_r, zcs_l, zpush_0, zpush_i, zpush_l, and_true, true_and, Nat.reduceLT, Nat.reduceLeDiff, Nat.reduceAdd, Nat.reduceMul, reduceIte, ite_true, ite_false, if_true, if_false, not_true_eq_false, not_false_eq_true, false_implies, true_implies, forall_const, implies_true, imp_self, and_self, false_and, and_false, ne_eq, zk_42, zfv_42_0, zf_42_0, zfv_42_1, zf_42_1, zfv_42_2, zf_42_2, zfv_42_3, zfv_42_4, zfv_42_5, zfv_42_6, zfv_42_7, zfv_42_8, zfv_42_9, zf_42_9, zfv_42_10, zf_42_10, zfv_42_11, zf_42_11, zfv_42_12, zfv_42_13, zfv_42_14, zfv_42_15, zfv_42_16, zfv_42_17, zfv_42_18, zf_42_18, zfv_42_19, zf_42_19, zfv_42_20, zfv_42_21, zfv_42_22, zfv_42_23, zf_42_23, zfv_42_24, zfv_42_25, zfv_42_26, zfv_42_27, zfv_42_28, zfv_42_29, zfv_42_30, zfv_42_31, zf_42_31, zk_43, zn_43, zk_44, zn_44, zk_45, zn_45, zk_46, zn_46, zk_47, zn_47, zk_48, zn_48, zk_49, zn_49, zk_50, zn_50, zk_51, zn_51, zk_52, zn_52, zk_53, zn_53, zk_54, zn_54, zk_55, zn_55, zk_56, zn_56, zk_57, zn_57, zk_58, zn_58, zk_59, zn_59, zk_60, zn_60, zk_61, zn_61, zk_62, zn_62, zk_63, zn_63, zk_64, zn_64, s_in, i64_0, (i64_c _).2.2.1, l10, l15, l20, l25, zb1_0, c1]
  · by_cases c2 : 10 ≤ x5 ∧ x5 ≤ 15
    · rw [zbp_t (show fask x5 from Or.inr (Or.inl c2))]
      simp only [q122_0, q122_1, q122_4, q122_7, q122_8, q122_9, q122_12, q122_15, q122_16, q122_17, q122_20, q122_23, q122_26, q122_28, q122_29, q122_32, q122_35, q122_38, q122_41, q122_43, q122_44, q122_47, q122_50, q122_53, q122_56, q122_57, q122_60, q122_61i, q122_61r, q122_61n, q122_64, q122_65, q122_66, q122_69, q122_72, q122_75, q122_77, q122_78, q122_79, q122_82, q122_85, q122_88, q122_90, q122_93, q122_94, q122_96, q122_99, q122_100, q122_101, q122_104, q122_107, q122_108, q122_110, q122_113, q122_114, q122_115, q122_116, q122_117, q122_118, q122_121, q122_123, q122_124, q122_125, q122_128i, q122_128r, q122_128n, q122_130, q122_132, q122_135, q122_137, q122_138, q122_139, q122_141, q122_142, q122_143, q122_144, q122_145, q122_147, q122_150i, q122_150r, q122_150n, q122_152, q122_154, q122_157, q122_158, q122_160, q122_163, q122_164, q122_165i, q122_165r, q122_165n, q122_169, q122_170, q122_173, q122_176, q122_177, q122_180, q122_182, q122_183, q122_186, q122_188, q122_189, q122_190, q122_191, q122_194, q122_196, q122_198, q122_199i, q122_199r, q122_199n, q122_202, q122_206, q122_207, q122_210, q122_213, q122_214, q122_215, q122_218, q122_221, q122_222, q122_224, q122_225, q122_226, q122_227, q122_228, q122_230, q122_232, q122_235i, q122_235r, q122_235n, q122_237, q122_238i, q122_238r, q122_238n, q122_242, q122_243, q122_246, q122_249, q122_250, q122_253, q122_255, q122_256, q122_259, q122_261, q122_262, q122_263i, q122_263r, q122_263n, q122_266, q122_269, q122_270, q122_271, q122_274, q122_277, q122_278, q122_279, q122_282, q122_285, q122_286, q122_288, q122_291, zNC, zcs_0, zcs_i, zcs_r, zcs_l, zpush_0, zpush_i, zpush_l, and_true, true_and, Nat.reduceLT, Nat.reduceLeDiff, Nat.reduceAdd, Nat.reduceMul, reduceIte, ite_true, ite_false, if_true, if_false, not_true_eq_false, not_false_eq_true, false_implies, true_implies, forall_const, implies_true, imp_self, and_self, false_and, and_false, ne_eq, zk_42, zfv_42_0, zf_42_0, zfv_42_1, zf_42_1, zfv_42_2, zf_42_2, zfv_42_3, zfv_42_4, zfv_42_5, zfv_42_6, zfv_42_7, zfv_42_8, zfv_42_9, zf_42_9, zfv_42_10, zf_42_10, zfv_42_11, zf_42_11, zfv_42_12, zfv_42_13, zfv_42_14, zfv_42_15, zfv_42_16, zfv_42_17, zfv_42_18, zf_42_18, zfv_42_19, zf_42_19, zfv_42_20, zfv_42_21, zfv_42_22, zfv_42_23, zf_42_23, zfv_42_24, zfv_42_25, zfv_42_26, zfv_42_27, zfv_42_28, zfv_42_29, zfv_42_30, zfv_42_31, zf_42_31, zk_43, zn_43, zk_44, zn_44, zk_45, zn_45, zk_46, zn_46, zk_47, zn_47, zk_48, zn_48, zk_49, zn_49, zk_50, zn_50, zk_51, zn_51, zk_52, zn_52, zk_53, zn_53, zk_54, zn_54, zk_55, zn_55, zk_56, zn_56, zk_57, zn_57, zk_58, zn_58, zk_59, zn_59, zk_60, zn_60, zk_61, zn_61, zk_62, zn_62, zk_63, zn_63, zk_64, zn_64, s_in, i64_0, (i64_c _).2.2.1, l10, l15, l20, l25, zb1_0, c1, c2]
    · by_cases c3 : 20 ≤ x5 ∧ x5 ≤ 25
      · rw [zbp_t (show fask x5 from Or.inr (Or.inr c3))]
        simp only [q122_0, q122_1, q122_4, q122_7, q122_8, q122_9, q122_12, q122_15, q122_16, q122_17, q122_20, q122_23, q122_26, q122_28, q122_29, q122_32, q122_35, q122_38, q122_41, q122_43, q122_44, q122_47, q122_50, q122_53, q122_56, q122_57, q122_60, q122_61i, q122_61r, q122_61n, q122_64, q122_65, q122_66, q122_69, q122_72, q122_75, q122_77, q122_78, q122_79, q122_82, q122_85, q122_88, q122_90, q122_93, q122_94, q122_96, q122_99, q122_100, q122_101, q122_104, q122_107, q122_108, q122_110, q122_113, q122_114, q122_115, q122_116, q122_117, q122_118, q122_121, q122_123, q122_124, q122_125, q122_128i, q122_128r, q122_128n, q122_130, q122_132, q122_135, q122_137, q122_138, q122_139, q122_141, q122_142, q122_143, q122_144, q122_145, q122_147, q122_150i, q122_150r, q122_150n, q122_152, q122_154, q122_157, q122_158, q122_160, q122_163, q122_164, q122_165i, q122_165r, q122_165n, q122_169, q122_170, q122_173, q122_176, q122_177, q122_180, q122_182, q122_183, q122_186, q122_188, q122_189, q122_190, q122_191, q122_194, q122_196, q122_198, q122_199i, q122_199r, q122_199n, q122_202, q122_206, q122_207, q122_210, q122_213, q122_214, q122_215, q122_218, q122_221, q122_222, q122_224, q122_225, q122_226, q122_227, q122_228, q122_230, q122_232, q122_235i, q122_235r, q122_235n, q122_237, q122_238i, q122_238r, q122_238n, q122_242, q122_243, q122_246, q122_249, q122_250, q122_253, q122_255, q122_256, q122_259, q122_261, q122_262, q122_263i, q122_263r, q122_263n, q122_266, q122_269, q122_270, q122_271, q122_274, q122_277, q122_278, q122_279, q122_282, q122_285, q122_286, q122_288, q122_291, zNC, zcs_0, zcs_i, zcs_r, zcs_l, zpush_0, zpush_i, zpush_l, and_true, true_and, Nat.reduceLT, Nat.reduceLeDiff, Nat.reduceAdd, Nat.reduceMul, reduceIte, ite_true, ite_false, if_true, if_false, not_true_eq_false, not_false_eq_true, false_implies, true_implies, forall_const, implies_true, imp_self, and_self, false_and, and_false, ne_eq, zk_42, zfv_42_0, zf_42_0, zfv_42_1, zf_42_1, zfv_42_2, zf_42_2, zfv_42_3, zfv_42_4, zfv_42_5, zfv_42_6, zfv_42_7, zfv_42_8, zfv_42_9, zf_42_9, zfv_42_10, zf_42_10, zfv_42_11, zf_42_11, zfv_42_12, zfv_42_13, zfv_42_14, zfv_42_15, zfv_42_16, zfv_42_17, zfv_42_18, zf_42_18, zfv_42_19, zf_42_19, zfv_42_20, zfv_42_21, zfv_42_22, zfv_42_23, zf_42_23, zfv_42_24, zfv_42_25, zfv_42_26, zfv_42_27, zfv_42_28, zfv_42_29, zfv_42_30, zfv_42_31, zf_42_31, zk_43, zn_43, zk_44, zn_44, zk_45, zn_45, zk_46, zn_46, zk_47, zn_47, zk_48, zn_48, zk_49, zn_49, zk_50, zn_50, zk_51, zn_51, zk_52, zn_52, zk_53, zn_53, zk_54, zn_54, zk_55, zn_55, zk_56, zn_56, zk_57, zn_57, zk_58, zn_58, zk_59, zn_59, zk_60, zn_60, zk_61, zn_61, zk_62, zn_62, zk_63, zn_63, zk_64, zn_64, s_in, i64_0, (i64_c _).2.2.1, l10, l15, l20, l25, zb1_0, c1, c2, c3]
      · rw [zbp_f (fun e => e.elim c1 (fun e => e.elim c2 c3))]
        simp only [q122_0, q122_1, q122_4, q122_7, q122_8, q122_9, q122_12, q122_15, q122_16, q122_17, q122_20, q122_23, q122_26, q122_28, q122_29, q122_32, q122_35, q122_38, q122_41, q122_43, q122_44, q122_47, q122_50, q122_53, q122_56, q122_57, q122_60, q122_61i, q122_61r, q122_61n, q122_64, q122_65, q122_66, q122_69, q122_72, q122_75, q122_77, q122_78, q122_79, q122_82, q122_85, q122_88, q122_90, q122_93, q122_94, q122_96, q122_99, q122_100, q122_101, q122_104, q122_107, q122_108, q122_110, q122_113, q122_114, q122_115, q122_116, q122_117, q122_118, q122_121, q122_123, q122_124, q122_125, q122_128i, q122_128r, q122_128n, q122_130, q122_132, q122_135, q122_137, q122_138, q122_139, q122_141, q122_142, q122_143, q122_144, q122_145, q122_147, q122_150i, q122_150r, q122_150n, q122_152, q122_154, q122_157, q122_158, q122_160, q122_163, q122_164, q122_165i, q122_165r, q122_165n, q122_169, q122_170, q122_173, q122_176, q122_177, q122_180, q122_182, q122_183, q122_186, q122_188, q122_189, q122_190, q122_191, q122_194, q122_196, q122_198, q122_199i, q122_199r, q122_199n, q122_202, q122_206, q122_207, q122_210, q122_213, q122_214, q122_215, q122_218, q122_221, q122_222, q122_224, q122_225, q122_226, q122_227, q122_228, q122_230, q122_232, q122_235i, q122_235r, q122_235n, q122_237, q122_238i, q122_238r, q122_238n, q122_242, q122_243, q122_246, q122_249, q122_250, q122_253, q122_255, q122_256, q122_259, q122_261, q122_262, q122_263i, q122_263r, q122_263n, q122_266, q122_269, q122_270, q122_271, q122_274, q122_277, q122_278, q122_279, q122_282, q122_285, q122_286, q122_288, q122_291, zNC, zcs_0, zcs_i, zcs_r, zcs_l, zpush_0, zpush_i, zpush_l, and_true, true_and, Nat.reduceLT, Nat.reduceLeDiff, Nat.reduceAdd, Nat.reduceMul, reduceIte, ite_true, ite_false, if_true, if_false, not_true_eq_false, not_false_eq_true, false_implies, true_implies, forall_const, implies_true, imp_self, and_self, false_and, and_false, ne_eq, zk_42, zfv_42_0, zf_42_0, zfv_42_1, zf_42_1, zfv_42_2, zf_42_2, zfv_42_3, zfv_42_4, zfv_42_5, zfv_42_6, zfv_42_7, zfv_42_8, zfv_42_9, zf_42_9, zfv_42_10, zf_42_10, zfv_42_11, zf_42_11, zfv_42_12, zfv_42_13, zfv_42_14, zfv_42_15, zfv_42_16, zfv_42_17, zfv_42_18, zf_42_18, zfv_42_19, zf_42_19, zfv_42_20, zfv_42_21, zfv_42_22, zfv_42_23, zf_42_23, zfv_42_24, zfv_42_25, zfv_42_26, zfv_42_27, zfv_42_28, zfv_42_29, zfv_42_30, zfv_42_31, zf_42_31, zk_43, zn_43, zk_44, zn_44, zk_45, zn_45, zk_46, zn_46, zk_47, zn_47, zk_48, zn_48, zk_49, zn_49, zk_50, zn_50, zk_51, zn_51, zk_52, zn_52, zk_53, zn_53, zk_54, zn_54, zk_55, zn_55, zk_56, zn_56, zk_57, zn_57, zk_58, zn_58, zk_59, zn_59, zk_60, zn_60, zk_61, zn_61, zk_62, zn_62, zk_63, zn_63, zk_64, zn_64, s_in, i64_0, (i64_c _).2.2.1, l10, l15, l20, l25, zb1_0, c1, c2, c3]
theorem fpr_congr {hI : Int32} : ∀ d p, (∀ z, z < 2 * (p + d) → f z = g z) → fpr f hI d p = fpr g hI d p := by
  intro d
  induction d with
  | zero => intro p _; rfl
  | succ d ih =>
    intro p e
    simp only [fpr]
    rw [e (2 * p) (by omega), e (2 * p + 1) (by omega), ih (p + 1) (fun z hz => e z (by omega))]
theorem fpr_val {hI : Int32} : ∀ d p, fpr f hI d p = 0 ∨ fpr f hI d p = -1 ∨ fpr f hI d p = -2 := by
  intro d
  induction d with
  | zero => intro p; exact Or.inl rfl
  | succ d ih =>
    intro p
    have := ih (p + 1)
    simp only [fpr]
    repeat' split
    all_goals first | exact this | exact Or.inr (Or.inl rfl) | exact Or.inr (Or.inr rfl)
theorem s_pBarred (hm : M 42 1 = nI h) (hab : a + 2 * n ≤ 240) : zQ 121 0 [.ref 42, .int (nI a), .int (nI n), .null, .null, .null] [] M Q ↔ Q (zI (fpr (fun z => M 63 (a + z)) (nI h) n 0)) M := by
  have e := l_pBarred (Q := Q) hm hab n 0 .null .null (by omega)
  rw [← e]
  simp only [q121_0, q121_1i, q121_1r, q121_1n, q121_3, q121_4, q121_7, q121_8, q121_11, q121_12, q121_13, q121_14, q121_15, q121_16, q121_17i, q121_17r, q121_17n, q121_19, q121_20, q121_23, q121_24, q121_25, q121_26, q121_27, q121_28, q121_29, q121_30, q121_31i, q121_31r, q121_31n, q121_33, q121_35, q121_36, q121_37, q121_40, q121_43, q121_46, q121_48, q121_50, q121_53, q121_55, q121_57, q121_60, q121_62, q121_63, q121_64, q121_67, q121_70, q121_73, q121_75, q121_76, q121_78, q121_80, q121_83, q121_84, q121_86, q121_89, q121_92, q121_93, q121_94i, q121_94r, q121_94n, q121_97, q121_100, q121_101, nI_0]
theorem two_l : ∀ b, b < 21 → (2 : Int64) * (nI b).toInt64 = (nI (2 * b)).toInt64 := by decide +kernel
theorem J_restore (J : zV M) (hJ : JT M h y lw) (hC : ∀ a, (a < 17 ∨ 26 < a) → C a = zup M 0 7 0 a) (hN : FM (RW C h) N) : zV (RF N h) := by
  have r : ∀ a, a ≠ 42 → a ≠ 54 → a ≠ 55 → RW C h a = C a := fun a a1 a2 a3 => by
    unfold RW
    rw [zup_ne _ _ _ a1, zup_ne _ _ _ a1, RWk_o ⟨a2, a3⟩]
  have f : ∀ a, (a < 17 ∨ 26 < a) → a ≠ 0 → a ≠ 42 → a ≠ 44 → a ≠ 54 → a ≠ 55 → RF N h a = M a := fun a h1 a0 a1 a2 a3 a4 => by
    unfold RF
    rw [zup_ne _ _ _ a1, zup_ne _ _ _ a1, zup_ne _ _ _ a1, RB_o a2, hN.1 a a1 a2 a4, r a a1 a3 a4, hC a h1, zup_ne _ _ _ a0]
  have c42 : C 42 = M 42 := (hC 42 (by omega)).trans (zup_ne _ _ _ (by decide))
  have rw42 : ∀ i, i ≠ 18 → i ≠ 19 → RW C h 42 i = M 42 i := fun i i1 i2 => by
    unfold RW
    rw [zup_app, if_pos rfl, if_neg i2, zup_app, if_pos rfl, if_neg i1, RWk_o (by decide), c42]
  have f42 : ∀ i, i ≠ 0 → i ≠ 2 → i ≠ 9 → i ≠ 18 → i ≠ 19 → RF N h 42 i = M 42 i := fun i i0 i2 i9 i18 i19 => by
    unfold RF
    rw [zup_app, if_pos rfl, if_neg i0, zup_app, if_pos rfl, if_neg i2, zup_app, if_pos rfl, if_neg i9, RB_o (by decide), hN.2 i i2 i9, rw42 i i18 i19]
  have f0 : RF N h 0 = zup M 0 7 0 0 := by
    unfold RF
    rw [zup_ne _ _ _ (by decide), zup_ne _ _ _ (by decide), zup_ne _ _ _ (by decide), RB_o (by decide), hN.1 0 (by decide) (by decide) (by decide), r 0 (by decide) (by decide) (by decide), hC 0 (by omega)]
  have e2 : RF N h 42 2 = M 42 2 := by
    show N 42 19 = _
    rw [hN.2 19 (by decide) (by decide)]
    show C 42 2 = _
    rw [c42]
  have e9 : RF N h 42 9 = M 42 9 := by
    show N 42 18 = _
    rw [hN.2 18 (by decide) (by decide)]
    show C 42 9 = _
    rw [c42]
  have e44 : ∀ i, i < h → RF N h 44 i = M 44 i := fun i hi => by
    show RB N h 44 i = _
    unfold RB
    rw [if_pos ⟨rfl, hi⟩, hN.1 54 (by decide) (by decide) (by decide)]
    show RWk C h 54 i = _
    unfold RWk
    rw [if_pos hi, if_pos rfl, hC 44 (by omega)]
    rfl
  obtain ⟨h', y', lw', c', T, R, S, Z⟩ := J
  have hh : h' = h := by
    have h1 := T.1
    rw [hJ.1] at h1
    have a6 := hJ.2.2.2.2.2.2.1
    have b6 := T.2.2.2.2.2.2.1
    exact ((nI_eq (by omega) (by omega)).mp h1).symm
  subst hh
  refine ⟨h', y', lw', c', JT_pw T ?_ ?_ (f42 1 (by decide) (by decide) (by decide) (by decide) (by decide)) e2 e9 (fun a ha i hi => ?_), JR_congr R (fun a ha => f a (by omega) (by omega) (by omega) (by omega) (by omega) (by omega)) (f42 23 (by decide) (by decide) (by decide) (by decide) (by decide)), JS_congr S (fun a ha => f a (by omega) (by omega) (by omega) (by omega) (by omega) (by omega)), ?_, ?_⟩
  · rw [f 1 (by omega) (by decide) (by decide) (by decide) (by decide) (by decide)]
  · rw [f 1 (by omega) (by decide) (by decide) (by decide) (by decide) (by decide)]
  · by_cases a44 : a = 44
    · subst a44; exact e44 i hi
    · rw [f a (by omega) (by omega) (by omega) a44 (by omega) (by omega)]
  · rw [f0, f42 31 (by decide) (by decide) (by decide) (by decide) (by decide)]
    exact Z.1
  · rw [f0]
    show zup M 0 7 0 0 7 = 0
    rw [zup_app, if_pos rfl, if_pos rfl]
theorem chr_ref (J : zV M) (hJ : JT M h y lw) (hk : k < 4) (hx : 0 ≤ nI k ∧ nI k < 4) (hl : 0 ≤ x2 ∧ x2 ≤ 2) (hb : b ≤ 20) (hask : fask x) (h0 : ¬ h = 0) (hf : fcb M k x2 (nI a) (nI (2 * b)).toInt64 = 0) (hab : a + 2 * b ≤ 60) (hpr : fpr (fun z => M 63 (60 * k + a + z)) (nI h) b 0 = 0) (hC : ∀ a, (a < 17 ∨ 26 < a) → C a = zup M 0 7 0 a) (hN : FM (RW C h) N) {v : Int32} (hv : ∀ Q : zR → zM → Prop, zQ 120 7 [.ref 42, .int (nI (60 * k + a)), .int (nI b), .int x, .int (-9), .int 0] [] (RW C h) Q ↔ Q (zI v) N) : zQ 122 0 [.ref 42, .int (nI k), .int x2, .int (nI a), .int (nI b), .int x, .null, .null, .null, .null] [] C (fun r2 M2 => r2 = zI v ∧ zV M2) := by
  have w : ∀ a, 26 < a → C a = M a := fun a ha => (hC a (Or.inr ha)).trans (zup_ne _ _ _ (by omega))
  have h6 := hJ.2.2.2.2.2.2.1
  have e3 : ∀ Q' : zR → zM → Prop, _ := fun Q' => (s_barred (M := C) (Q := Q') (lane := x2) (i := nI a) (n := (nI (2 * b)).toInt64) hk).1 (by rw [fcb_congr (w 61 (by omega)) (w 62 (by omega))]; exact hf)
  have e6 : (60 : Int32) * nI k + nI a = nI (60 * k + a) := by show nI 60 * nI k + nI a = _; rw [pk_mul, nI_add]
  have m1 : C 42 1 = nI h := by rw [w 42 (by omega)]; exact hJ.2.1
  have e4 : ∀ Q' : zR → zM → Prop, _ := fun Q' => s_pBarred (M := C) (Q := Q') (a := 60 * k + a) (n := b) m1 (by omega)
  rw [w 63 (by omega), hpr] at e4
  have hn2 : 0 ≤ nI b ∧ nI b ≤ 20 := ⟨nI_pos' (by omega), nI_le (a := b) (b := 20) hb (by omega)⟩
  have nh0 : ¬ nI h = 0 := nI_ne0 (by omega) (by omega)
  have n10 : ¬ (1 : Int32) = 0 := by decide
  have tl := two_l b (by omega)
  have e5 : ∀ (x1 x2 x3 x4 x5 x6 x7 : Int32) (Q' : zR → zM → Prop), _ := fun x1 x2 x3 x4 x5 x6 x7 Q' => l_rw (W := C) (Q := Q') (x1 := x1) (x2 := x2) (x3 := x3) (x4 := x4) (x5 := x5) (x6 := x6) (x7 := x7) m1 h6 h 0 (by omega)
  have i0 : nI 0 = 0 := rfl
  simp only [RWk_0, i0] at e5
  simp only [q122_0, q122_1, q122_4, q122_7, q122_8, q122_9, q122_12, q122_15, q122_16, q122_17, q122_20, q122_23, q122_26, q122_28, q122_29, q122_32, q122_35, q122_38, q122_41, q122_43, q122_44, q122_47, q122_50, q122_53, q122_56, q122_57, q122_60, q122_61i, q122_61r, q122_61n, q122_63, q122_64, q122_65, q122_66, q122_69, q122_72, q122_75, q122_77, q122_78, q122_79, q122_82, q122_85, q122_88, q122_90, q122_93, q122_94, q122_96, q122_99, q122_100, q122_101, q122_104, q122_107, q122_108, q122_110, q122_113, q122_114, q122_115, q122_116, q122_117, q122_118, q122_121, q122_123, q122_124, q122_125, q122_128i, q122_128r, q122_128n, q122_130, q122_132, q122_135, q122_137, q122_138, q122_139, q122_141, q122_142, q122_143, q122_144, q122_145, q122_147, q122_150i, q122_150r, q122_150n, q122_152, q122_154, q122_157, q122_158, q122_160, q122_163, q122_164, q122_165i, q122_165r, q122_165n, q122_169, q122_170, q122_173, q122_176, q122_177, q122_180, q122_182, q122_183, q122_186, q122_188, q122_189, q122_190, q122_191, q122_194, q122_196, q122_198, q122_199i, q122_199r, q122_199n, q122_202, q122_206, q122_207, q122_210, q122_213, q122_214, q122_215, q122_218, q122_221, q122_222, q122_224, q122_225, q122_226, q122_227, q122_228, q122_230, q122_232, q122_235i, q122_235r, q122_235n, q122_237, q122_238i, q122_238r, q122_238n, q122_242, q122_243, q122_246, q122_249, q122_250, q122_253, q122_255, q122_256, q122_259, q122_261, q122_262, q122_263i, q122_263r, q122_263n, q122_266, q122_269, q122_270, q122_271, q122_274, q122_277, q122_278, q122_279, q122_282, q122_285, q122_286, q122_288, q122_291, zNC, zcs_0, zcs_i, zcs_r, zcs_l, zpush_0, zpush_i, zpush_l, and_true, true_and, Nat.reduceLT, Nat.reduceLeDiff, Nat.reduceAdd, Nat.reduceMul, reduceIte, ite_true, ite_false, if_true, if_false, not_true_eq_false, not_false_eq_true, false_implies, true_implies, forall_const, implies_true, imp_self, and_self, false_and, and_false, ne_eq, zk_42, zfv_42_0, zf_42_0, zfv_42_1, zf_42_1, zfv_42_2, zf_42_2, zfv_42_3, zfv_42_4, zfv_42_5, zfv_42_6, zfv_42_7, zfv_42_8, zfv_42_9, zf_42_9, zfv_42_10, zf_42_10, zfv_42_11, zf_42_11, zfv_42_12, zfv_42_13, zfv_42_14, zfv_42_15, zfv_42_16, zfv_42_17, zfv_42_18, zf_42_18, zfv_42_19, zf_42_19, zfv_42_20, zfv_42_21, zfv_42_22, zfv_42_23, zf_42_23, zfv_42_24, zfv_42_25, zfv_42_26, zfv_42_27, zfv_42_28, zfv_42_29, zfv_42_30, zfv_42_31, zf_42_31, zk_43, zn_43, zk_44, zn_44, zk_45, zn_45, zk_46, zn_46, zk_47, zn_47, zk_48, zn_48, zk_49, zn_49, zk_50, zn_50, zk_51, zn_51, zk_52, zn_52, zk_53, zn_53, zk_54, zn_54, zk_55, zn_55, zk_56, zn_56, zk_57, zn_57, zk_58, zn_58, zk_59, zn_59, zk_60, zn_60, zk_61, zn_61, zk_62, zn_62, zk_63, zn_63, zk_64, zn_64, s_ask, zbp_t hask, s_noSheet, s_in, i64_0, (i64_c _).2.1, (i64_c _).2.2.2.2.2.1, zb1_0, hx, hl, hn2, n10, m1, nh0, tl, e3, i_le_refl, e6, e4, e5]
  have r9 : RWk C h 42 9 = C 42 9 := by rw [RWk_o (by decide)]
  have r2 : ∀ v, zup (RWk C h) 42 18 v 42 2 = C 42 2 := fun v => by rw [zup_app, if_pos rfl, if_neg (by decide), RWk_o (by decide)]
  have hv' : ∀ Q : zR → zM → Prop, _ := fun Q => hv Q
  unfold RW at hv'
  have n1 : N 42 1 = nI h := by
    rw [hN.2 1 (by decide) (by decide)]
    show RWk C h 42 1 = _
    rw [RWk_o (by decide)]; exact m1
  have e7 : ∀ (x1 x2 x3 x4 x5 x6 x7 v : Int32) (Q' : zR → zM → Prop), _ := fun x1 x2 x3 x4 x5 x6 x7 v Q' => l_rb (N := N) (Q := Q') (x1 := x1) (x2 := x2) (x3 := x3) (x4 := x4) (x5 := x5) (x6 := x6) (x7 := x7) (v := v) n1 h6 h 0 (by omega)
  simp only [RB_0, i0] at e7
  rw [q122_205]
  simp only [q122_0, q122_1, q122_4, q122_7, q122_8, q122_9, q122_12, q122_15, q122_16, q122_17, q122_20, q122_23, q122_26, q122_28, q122_29, q122_32, q122_35, q122_38, q122_41, q122_43, q122_44, q122_47, q122_50, q122_53, q122_56, q122_57, q122_60, q122_61i, q122_61r, q122_61n, q122_63, q122_64, q122_65, q122_66, q122_69, q122_72, q122_75, q122_77, q122_78, q122_79, q122_82, q122_85, q122_88, q122_90, q122_93, q122_94, q122_96, q122_99, q122_100, q122_101, q122_104, q122_107, q122_108, q122_110, q122_113, q122_114, q122_115, q122_116, q122_117, q122_118, q122_121, q122_123, q122_124, q122_125, q122_128i, q122_128r, q122_128n, q122_130, q122_132, q122_135, q122_137, q122_138, q122_139, q122_141, q122_142, q122_143, q122_144, q122_145, q122_147, q122_150i, q122_150r, q122_150n, q122_152, q122_154, q122_157, q122_158, q122_160, q122_163, q122_164, q122_165i, q122_165r, q122_165n, q122_169, q122_170, q122_173, q122_176, q122_177, q122_180, q122_182, q122_183, q122_186, q122_188, q122_189, q122_190, q122_191, q122_194, q122_196, q122_198, q122_199i, q122_199r, q122_199n, q122_202, q122_206, q122_207, q122_210, q122_213, q122_214, q122_215, q122_218, q122_221, q122_222, q122_224, q122_225, q122_226, q122_227, q122_228, q122_230, q122_232, q122_235i, q122_235r, q122_235n, q122_237, q122_238i, q122_238r, q122_238n, q122_242, q122_243, q122_246, q122_249, q122_250, q122_253, q122_255, q122_256, q122_259, q122_261, q122_262, q122_263i, q122_263r, q122_263n, q122_266, q122_269, q122_270, q122_271, q122_274, q122_277, q122_278, q122_279, q122_282, q122_285, q122_286, q122_288, q122_291, q120_0, q120_2i, q120_2r, q120_2n, q120_4, q120_5i, q120_5r, q120_5n, q120_9, q120_10, q120_13, q120_15, q120_18, q120_19, q120_20, q120_23, q120_24, q120_25, q120_27, q120_28, q120_29, q120_30, q120_31, q120_34, q120_35, q120_36, q120_38, q120_39, q120_40, q120_41, q120_42, q120_43, q120_46, q120_49, q120_51, q120_54, q120_56i, q120_56r, q120_56n, q120_58i, q120_58r, q120_58n, q120_61, q120_65, q120_66, q120_69, q120_71, q120_72, q120_74, q120_77, q120_79, q120_81, q120_82, q120_83, q120_84, q120_86, q120_89, q120_90, q120_91, q120_93, q120_94, q120_97, q120_100, q120_102, q120_105, q120_106, q120_109, q120_110, q120_112, q120_113, q120_114, q120_115, q120_116, q120_118, q120_121, q120_122, q120_123, q120_125, q120_126, q120_129, q120_132, q120_134, q120_137, q120_138, q120_141, q120_142, q120_144, q120_145, q120_146, q120_147, q120_148, q120_151, q120_152, q120_155, q120_158, q120_161, q120_162, q120_163, q120_166, q120_167, q120_170, q120_171, q120_174, q120_175, q120_178, q120_179, q120_182, zNC, zcs_0, zcs_i, zcs_r, zcs_l, zpush_0, zpush_i, zpush_l, and_true, true_and, Nat.reduceLT, Nat.reduceLeDiff, Nat.reduceAdd, Nat.reduceMul, reduceIte, ite_true, ite_false, if_true, if_false, not_true_eq_false, not_false_eq_true, false_implies, true_implies, forall_const, implies_true, imp_self, and_self, false_and, and_false, ne_eq, zk_42, zfv_42_0, zf_42_0, zfv_42_1, zf_42_1, zfv_42_2, zf_42_2, zfv_42_3, zfv_42_4, zfv_42_5, zfv_42_6, zfv_42_7, zfv_42_8, zfv_42_9, zf_42_9, zfv_42_10, zf_42_10, zfv_42_11, zf_42_11, zfv_42_12, zfv_42_13, zfv_42_14, zfv_42_15, zfv_42_16, zfv_42_17, zfv_42_18, zf_42_18, zfv_42_19, zf_42_19, zfv_42_20, zfv_42_21, zfv_42_22, zfv_42_23, zf_42_23, zfv_42_24, zfv_42_25, zfv_42_26, zfv_42_27, zfv_42_28, zfv_42_29, zfv_42_30, zfv_42_31, zf_42_31, zk_43, zn_43, zk_44, zn_44, zk_45, zn_45, zk_46, zn_46, zk_47, zn_47, zk_48, zn_48, zk_49, zn_49, zk_50, zn_50, zk_51, zn_51, zk_52, zn_52, zk_53, zn_53, zk_54, zn_54, zk_55, zn_55, zk_56, zn_56, zk_57, zn_57, zk_58, zn_58, zk_59, zn_59, zk_60, zn_60, zk_61, zn_61, zk_62, zn_62, zk_63, zn_63, zk_64, zn_64, r9, r2, e6, hv', e7]
  first | exact ⟨rfl, J_restore J hJ hC hN⟩ | exact J_restore J hJ hC hN | (simp; exact J_restore J hJ hC hN)
end IV
