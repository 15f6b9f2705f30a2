-- SEE
section IV
variable {M M' N N' W : zM} {h y lw c k t a b o n r p m j i : Nat} {Q : zR → zM → Prop} {x x2 : Int32} {G : Nat → Int32}
theorem good_vals (eh : fdig (G 1) = nI h) (h6 : h ≤ 6) (hok : ∀ i, i < 7 → okj G k i) : (∃ c, c ≤ 2 ∧ fknd (G (3 + 7 * k)) = nI c) ∧ (∃ s, s ≤ 99 ∧ 10 * fdig (G (4 + 7 * k)) + fdig (G (5 + 7 * k)) = nI s) ∧ (∃ n, n ≤ 9 ∧ fdig (G (6 + 7 * k)) = nI n) ∧ (∃ e, e ≤ 3 ∧ fdig (G (7 + 7 * k)) = nI e) ∧ (∃ g, g < h ∧ fdig (G (8 + 7 * k)) = nI g) := by
  have nat : ∀ v : Int32, 0 ≤ v → ∃ n : Nat, n < 2 ^ 31 ∧ v = nI n := fun v hv => nI_of (x := v) (by simp only [fa_lt, fa_le] at *; omega)
  refine ⟨?_, ?_, ?_, ?_, ?_⟩
  · rcases oj_1.mp (hok 1 (by decide)) with e | e | e
    · exact ⟨0, by decide, by rw [e]; decide⟩
    · exact ⟨1, by decide, by rw [e]; decide⟩
    · exact ⟨2, by decide, by rw [e]; decide⟩
  · have h2 : 0 ≤ fdig (G (4 + 7 * k)) := hok 2 (by decide)
    have h3 : 0 ≤ fdig (G (5 + 7 * k)) := (hok 3 (by decide)).1
    have b2 := fdig_b (x := G (4 + 7 * k))
    have b3 := fdig_b (x := G (5 + 7 * k))
    obtain ⟨d, hd, ed⟩ := nat _ h2
    obtain ⟨e, he, ee⟩ := nat _ h3
    rw [ed] at b2
    rw [ee] at b3
    have d9 : d ≤ 9 := (nI_leI (a := d) (b := 9) hd (by omega)).mp b2
    have e9 : e ≤ 9 := (nI_leI (a := e) (b := 9) he (by omega)).mp b3
    exact ⟨10 * d + e, by omega, by rw [ed, ee]; show nI 10 * nI d + nI e = _; rw [pk_mul, nI_add]⟩
  · have h2 : 0 ≤ fdig (G (6 + 7 * k)) := hok 4 (by decide)
    have b2 := fdig_b (x := G (6 + 7 * k))
    obtain ⟨d, hd, ed⟩ := nat _ h2
    rw [ed] at b2
    exact ⟨d, (nI_leI (a := d) (b := 9) hd (by omega)).mp b2, ed⟩
  · have h2 : 0 ≤ fdig (G (7 + 7 * k)) ∧ fdig (G (7 + 7 * k)) < 4 := hok 5 (by decide)
    obtain ⟨d, hd, ed⟩ := nat _ h2.1
    rw [ed] at h2
    have := (nI_ltI (a := d) (b := 4) hd (by omega)).mp h2.2
    exact ⟨d, by omega, ed⟩
  · have h2 : 0 ≤ fdig (G (8 + 7 * k)) ∧ fdig (G (8 + 7 * k)) < fdig (G 1) := hok 6 (by decide)
    obtain ⟨d, hd, ed⟩ := nat _ h2.1
    rw [ed, eh] at h2
    exact ⟨d, (nI_ltI (a := d) (b := h) hd (by omega)).mp h2.2, ed⟩
theorem fcA_congr (e : N 63 = M 63) : fcA N a b = fcA M a b := by
  funext r
  unfold fcA
  rw [e]
theorem fcb_congr {n : Int64} (e1 : N 61 = M 61) (e2 : N 62 = M 62) : fcb N k x x2 n = fcb M k x x2 n := by
  unfold fcb
  rw [e1, e2]
/-- where a text is not taken -/
theorem see_bad (J : zV M) (hk : k < 4) (hx : 0 ≤ nI k ∧ nI k < 4) (hl : 0 ≤ x2 ∧ x2 ≤ 2) (hf : fcb M k x2 (nI a) (nI b).toInt64 = 0) (hab : a + b ≤ 60) (hok : ∀ p, p < m → okc (fcA M (60 * k + a) b) p) (hno : ¬ okc (fcA M (60 * k + a) b) m) (h2 : 2 ≤ m → 2 ≤ h ∧ h ≤ 6 ∧ fdig (fcA M (60 * k + a) b 1) = nI h) (hbad : ¬ (2 ≤ m ∧ m = 2 + 7 * h ∧ b = 2 + 7 * h)) (hW : ∀ a, a < 9 ∨ 15 < a → W a = zup M 0 7 0 a) : zQ 98 0 [.ref 42, .int (nI k), .int x2, .int (nI a), .int (nI b), .null, .null] [] W (fun r2 M2 => r2 = zI (-100 - nI m) ∧ zV M2) := by
  have w : ∀ a, 15 < a → W a = M a := fun a ha => (hW a (Or.inr ha)).trans (zup_ne _ _ _ (by omega))
  have e3 : ∀ Q' : zR → zM → Prop, _ := fun Q' => (s_barred (M := W) (Q := Q') (lane := x2) (i := nI a) (n := (nI b).toInt64) hk).1 (by rw [fcb_congr (w 61 (by omega)) (w 62 (by omega))]; exact hf)
  have e6 : (60 : Int32) * nI k + nI a = nI (60 * k + a) := by show nI 60 * nI k + nI a = _; rw [pk_mul, nI_add]
  have eG : fcA W (60 * k + a) b = fcA M (60 * k + a) b := fcA_congr (w 63 (by omega))
  simp only [q98_0, q98_1, q98_4, q98_7, q98_8, q98_9, q98_12, q98_13, q98_14, q98_15, q98_16, q98_19, q98_22, q98_25, q98_26, q98_28, q98_31, q98_32, q98_33, q98_34, q98_35, q98_36, q98_38, q98_39, q98_42i, q98_42r, q98_42n, q98_44, q98_46, q98_49, q98_51, q98_52, q98_53, q98_55, q98_56, q98_57, q98_58, q98_59, q98_61, q98_64, q98_67, q98_68, q98_70, q98_71, q98_74, q98_75, q98_78, q98_79, q98_80, q98_81, q98_84, q98_87, q98_88, q98_89, q98_92, q98_93, q98_94, q98_97, q98_98i, q98_98r, q98_98n, q98_102, q98_103, q98_106, q98_109, q98_110, q98_113, q98_115, q98_116, q98_119, q98_121, q98_122, q98_123, q98_124, q98_127, q98_129, q98_130, q98_133, q98_135, q98_136, q98_137, q98_138, q98_141, q98_143, q98_144, q98_147, q98_149, q98_150, q98_151, q98_152, q98_155, q98_157, q98_158, q98_161, q98_163, q98_164, q98_165, q98_166, q98_169, q98_171, q98_172, q98_175, q98_177, q98_178, q98_179, q98_180, q98_183, q98_185, q98_186, q98_189, q98_191, q98_192, q98_193i, q98_193r, q98_193n, q98_196, q98_199, q98_200, q98_201, q98_204, q98_205, q98_206, q98_209, q98_212, zNC, zcs_0, zcs_i, zcs_r, zcs_l, zpush_0, zpush_i, zpush_l, and_true, true_and, Nat.reduceLT, Nat.reduceLeDiff, Nat.reduceAdd, Nat.reduceMul, reduceIte, ite_true, ite_false, if_true, if_false, not_true_eq_false, not_false_eq_true, false_implies, true_implies, forall_const, implies_true, imp_self, and_self, false_and, and_false, ne_eq, zk_42, zfv_42_0, zf_42_0, zfv_42_1, zf_42_1, zfv_42_2, zf_42_2, zfv_42_3, zfv_42_4, zfv_42_5, zfv_42_6, zfv_42_7, zfv_42_8, zfv_42_9, zf_42_9, zfv_42_10, zf_42_10, zfv_42_11, zf_42_11, zfv_42_12, zfv_42_13, zfv_42_14, zfv_42_15, zfv_42_16, zfv_42_17, zfv_42_18, zf_42_18, zfv_42_19, zf_42_19, zfv_42_20, zfv_42_21, zfv_42_22, zfv_42_23, zf_42_23, zfv_42_24, zfv_42_25, zfv_42_26, zfv_42_27, zfv_42_28, zfv_42_29, zfv_42_30, zfv_42_31, zf_42_31, zk_43, zn_43, zk_44, zn_44, zk_45, zn_45, zk_46, zn_46, zk_47, zn_47, zk_48, zn_48, zk_49, zn_49, zk_50, zn_50, zk_51, zn_51, zk_52, zn_52, zk_53, zn_53, zk_54, zn_54, zk_55, zn_55, zk_56, zn_56, zk_57, zn_57, zk_58, zn_58, zk_59, zn_59, zk_60, zn_60, zk_61, zn_61, zk_62, zn_62, zk_63, zn_63, zk_64, zn_64, s_noSheet, s_in, i64_0, (i64_c _).2.1, zb1_0, hx, hl, e3, i_le_refl, e6]
  refine s_readsSee (M := W) (by omega) (by omega) (by rw [eG]; exact hok) (by rw [eG]; exact hno) (by rw [eG]; exact h2) (fun N hS _ => ?_)
  rw [zbp_f hbad]
  have h10 := hS.2.2
  simp only [q98_0, q98_1, q98_4, q98_7, q98_8, q98_9, q98_12, q98_13, q98_14, q98_15, q98_16, q98_19, q98_22, q98_25, q98_26, q98_28, q98_31, q98_32, q98_33, q98_34, q98_35, q98_36, q98_38, q98_39, q98_42i, q98_42r, q98_42n, q98_44, q98_46, q98_49, q98_51, q98_52, q98_53, q98_55, q98_56, q98_57, q98_58, q98_59, q98_61, q98_64, q98_67, q98_68, q98_70, q98_71, q98_74, q98_75, q98_78, q98_79, q98_80, q98_81, q98_84, q98_87, q98_88, q98_89, q98_92, q98_93, q98_94, q98_97, q98_98i, q98_98r, q98_98n, q98_102, q98_103, q98_106, q98_109, q98_110, q98_113, q98_115, q98_116, q98_119, q98_121, q98_122, q98_123, q98_124, q98_127, q98_129, q98_130, q98_133, q98_135, q98_136, q98_137, q98_138, q98_141, q98_143, q98_144, q98_147, q98_149, q98_150, q98_151, q98_152, q98_155, q98_157, q98_158, q98_161, q98_163, q98_164, q98_165, q98_166, q98_169, q98_171, q98_172, q98_175, q98_177, q98_178, q98_179, q98_180, q98_183, q98_185, q98_186, q98_189, q98_191, q98_192, q98_193i, q98_193r, q98_193n, q98_196, q98_199, q98_200, q98_201, q98_204, q98_205, q98_206, q98_209, q98_212, zNC, zcs_0, zcs_i, zcs_r, zcs_l, zpush_0, zpush_i, zpush_l, and_true, true_and, Nat.reduceLT, Nat.reduceLeDiff, Nat.reduceAdd, Nat.reduceMul, reduceIte, ite_true, ite_false, if_true, if_false, not_true_eq_false, not_false_eq_true, false_implies, true_implies, forall_const, implies_true, imp_self, and_self, false_and, and_false, ne_eq, zk_42, zfv_42_0, zf_42_0, zfv_42_1, zf_42_1, zfv_42_2, zf_42_2, zfv_42_3, zfv_42_4, zfv_42_5, zfv_42_6, zfv_42_7, zfv_42_8, zfv_42_9, zf_42_9, zfv_42_10, zf_42_10, zfv_42_11, zf_42_11, zfv_42_12, zfv_42_13, zfv_42_14, zfv_42_15, zfv_42_16, zfv_42_17, zfv_42_18, zf_42_18, zfv_42_19, zf_42_19, zfv_42_20, zfv_42_21, zfv_42_22, zfv_42_23, zf_42_23, zfv_42_24, zfv_42_25, zfv_42_26, zfv_42_27, zfv_42_28, zfv_42_29, zfv_42_30, zfv_42_31, zf_42_31, zk_43, zn_43, zk_44, zn_44, zk_45, zn_45, zk_46, zn_46, zk_47, zn_47, zk_48, zn_48, zk_49, zn_49, zk_50, zn_50, zk_51, zn_51, zk_52, zn_52, zk_53, zn_53, zk_54, zn_54, zk_55, zn_55, zk_56, zn_56, zk_57, zn_57, zk_58, zn_58, zk_59, zn_59, zk_60, zn_60, zk_61, zn_61, zk_62, zn_62, zk_63, zn_63, zk_64, zn_64, s_refused, h10]
  try simp
  have n : ∀ a, (a < 49 ∨ 53 < a) → a ≠ 42 → zup N 42 0 0 a = W a := fun a ha h42 => (zup_ne _ _ _ h42).trans (hS.1 a ha h42)
  have n42 : ∀ i, i ≠ 0 → i ≠ 10 → i ≠ 11 → zup N 42 0 0 42 i = M 42 i := fun i i0 i10 i11 => by
    rw [zup_app, if_pos rfl, if_neg i0, hS.2.1 i i10 i11, w 42 (by omega)]
  refine zV_keep J (fun a ha => ?_) (n42 1 (by decide) (by decide) (by decide)) (n42 2 (by decide) (by decide) (by decide)) (n42 9 (by decide) (by decide) (by decide)) (n42 23 (by decide) (by decide) (by decide)) ⟨?_, ?_⟩
  · rw [n a (by omega) (by omega), hW a (by omega), zup_ne _ _ _ (by omega)]
  · rw [n 0 (by omega) (by omega), hW 0 (by omega), n42 31 (by decide) (by decide) (by decide)]
    obtain ⟨h, y, lw, c, T, R, S, Z⟩ := J
    exact Z.1
  · rw [n 0 (by omega) (by omega), hW 0 (by omega)]
    rw [zup_app, if_pos rfl, if_pos rfl, zup_app, if_pos rfl, if_pos rfl]
theorem see_good (J : zV M) (hk : k < 4) (hx : 0 ≤ nI k ∧ nI k < 4) (hl : 0 ≤ x2 ∧ x2 ≤ 2) (hf : fcb M k x2 (nI a) (nI b).toInt64 = 0) (hab : a + b ≤ 60) (hok : ∀ p, p < m → okc (fcA M (60 * k + a) b) p) (hno : ¬ okc (fcA M (60 * k + a) b) m) (h2 : 2 ≤ h ∧ h ≤ 6 ∧ fdig (fcA M (60 * k + a) b 1) = nI h) (hgood : 2 ≤ m ∧ m = 2 + 7 * h ∧ b = 2 + 7 * h) (hW : ∀ a, a = 0 ∨ (16 < a ∧ a ≠ 29) → W a = zup M 0 7 0 a) (w17 : W 1 7 = nI h) (w18 : W 1 8 = 0) (w29 : W 29 3 = 0)
    (wv : ∀ k', k' < h → W 2 k' = fknd (fcA M (60 * k + a) b (3 + 7 * k')) ∧ W 3 k' = 10 * fdig (fcA M (60 * k + a) b (4 + 7 * k')) + fdig (fcA M (60 * k + a) b (5 + 7 * k')) ∧ W 4 k' = 10 * fdig (fcA M (60 * k + a) b (4 + 7 * k')) + fdig (fcA M (60 * k + a) b (5 + 7 * k')) ∧ W 5 k' = fdig (fcA M (60 * k + a) b (6 + 7 * k')) ∧ W 6 k' = fdig (fcA M (60 * k + a) b (7 + 7 * k')) ∧ W 7 k' = fdig (fcA M (60 * k + a) b (8 + 7 * k')) ∧ W 8 k' = 0) : zQ 98 0 [.ref 42, .int (nI k), .int x2, .int (nI a), .int (nI b), .null, .null] [] W (fun r2 M2 => r2 = zI (nI h) ∧ zV M2) := by
  have w : ∀ a, 29 < a → W a = M a := fun a ha => (hW a (Or.inr ⟨by omega, by omega⟩)).trans (zup_ne _ _ _ (by omega))
  have e3 : ∀ Q' : zR → zM → Prop, _ := fun Q' => (s_barred (M := W) (Q := Q') (lane := x2) (i := nI a) (n := (nI b).toInt64) hk).1 (by rw [fcb_congr (w 61 (by omega)) (w 62 (by omega))]; exact hf)
  have e6 : (60 : Int32) * nI k + nI a = nI (60 * k + a) := by show nI 60 * nI k + nI a = _; rw [pk_mul, nI_add]
  have eG : fcA W (60 * k + a) b = fcA M (60 * k + a) b := fcA_congr (w 63 (by omega))
  simp only [q98_0, q98_1, q98_4, q98_7, q98_8, q98_9, q98_12, q98_13, q98_14, q98_15, q98_16, q98_19, q98_22, q98_25, q98_26, q98_28, q98_31, q98_32, q98_33, q98_34, q98_35, q98_36, q98_38, q98_39, q98_42i, q98_42r, q98_42n, q98_44, q98_46, q98_49, q98_51, q98_52, q98_53, q98_55, q98_56, q98_57, q98_58, q98_59, q98_61, q98_64, q98_67, q98_68, q98_70, q98_71, q98_74, q98_75, q98_78, q98_79, q98_80, q98_81, q98_84, q98_87, q98_88, q98_89, q98_92, q98_93, q98_94, q98_97, q98_98i, q98_98r, q98_98n, q98_102, q98_103, q98_106, q98_109, q98_110, q98_113, q98_115, q98_116, q98_119, q98_121, q98_122, q98_123, q98_124, q98_127, q98_129, q98_130, q98_133, q98_135, q98_136, q98_137, q98_138, q98_141, q98_143, q98_144, q98_147, q98_149, q98_150, q98_151, q98_152, q98_155, q98_157, q98_158, q98_161, q98_163, q98_164, q98_165, q98_166, q98_169, q98_171, q98_172, q98_175, q98_177, q98_178, q98_179, q98_180, q98_183, q98_185, q98_186, q98_189, q98_191, q98_192, q98_193i, q98_193r, q98_193n, q98_196, q98_199, q98_200, q98_201, q98_204, q98_205, q98_206, q98_209, q98_212, zNC, zcs_0, zcs_i, zcs_r, zcs_l, zpush_0, zpush_i, zpush_l, and_true, true_and, Nat.reduceLT, Nat.reduceLeDiff, Nat.reduceAdd, Nat.reduceMul, reduceIte, ite_true, ite_false, if_true, if_false, not_true_eq_false, not_false_eq_true, false_implies, true_implies, forall_const, implies_true, imp_self, and_self, false_and, and_false, ne_eq, zk_42, zfv_42_0, zf_42_0, zfv_42_1, zf_42_1, zfv_42_2, zf_42_2, zfv_42_3, zfv_42_4, zfv_42_5, zfv_42_6, zfv_42_7, zfv_42_8, zfv_42_9, zf_42_9, zfv_42_10, zf_42_10, zfv_42_11, zf_42_11, zfv_42_12, zfv_42_13, zfv_42_14, zfv_42_15, zfv_42_16, zfv_42_17, zfv_42_18, zf_42_18, zfv_42_19, zf_42_19, zfv_42_20, zfv_42_21, zfv_42_22, zfv_42_23, zf_42_23, zfv_42_24, zfv_42_25, zfv_42_26, zfv_42_27, zfv_42_28, zfv_42_29, zfv_42_30, zfv_42_31, zf_42_31, zk_43, zn_43, zk_44, zn_44, zk_45, zn_45, zk_46, zn_46, zk_47, zn_47, zk_48, zn_48, zk_49, zn_49, zk_50, zn_50, zk_51, zn_51, zk_52, zn_52, zk_53, zn_53, zk_54, zn_54, zk_55, zn_55, zk_56, zn_56, zk_57, zn_57, zk_58, zn_58, zk_59, zn_59, zk_60, zn_60, zk_61, zn_61, zk_62, zn_62, zk_63, zn_63, zk_64, zn_64, s_noSheet, s_in, i64_0, (i64_c _).2.1, zb1_0, hx, hl, e3, i_le_refl, e6]
  refine s_readsSee (M := W) (by omega) (by omega) (by rw [eG]; exact hok) (by rw [eG]; exact hno) (by rw [eG]; exact fun _ => h2) (fun N hS hV => ?_)
  rw [zbp_t hgood]
  obtain ⟨h11, hV⟩ := hV hgood.1 hgood.2.1
  rw [eG] at hV
  have h6 := h2.2.1
  have n10 : ¬ (1 : Int32) = 0 := by decide
  have r1 : ∀ v i, zup N 42 i v 42 11 = if 11 = i then v else N 42 11 := fun v i => by rw [zup_app, if_pos rfl]
  simp only [q98_0, q98_1, q98_4, q98_7, q98_8, q98_9, q98_12, q98_13, q98_14, q98_15, q98_16, q98_19, q98_22, q98_25, q98_26, q98_28, q98_31, q98_32, q98_33, q98_34, q98_35, q98_36, q98_38, q98_39, q98_42i, q98_42r, q98_42n, q98_44, q98_46, q98_49, q98_51, q98_52, q98_53, q98_55, q98_56, q98_57, q98_58, q98_59, q98_61, q98_64, q98_67, q98_68, q98_70, q98_71, q98_74, q98_75, q98_78, q98_79, q98_80, q98_81, q98_84, q98_87, q98_88, q98_89, q98_92, q98_93, q98_94, q98_97, q98_98i, q98_98r, q98_98n, q98_102, q98_103, q98_106, q98_109, q98_110, q98_113, q98_115, q98_116, q98_119, q98_121, q98_122, q98_123, q98_124, q98_127, q98_129, q98_130, q98_133, q98_135, q98_136, q98_137, q98_138, q98_141, q98_143, q98_144, q98_147, q98_149, q98_150, q98_151, q98_152, q98_155, q98_157, q98_158, q98_161, q98_163, q98_164, q98_165, q98_166, q98_169, q98_171, q98_172, q98_175, q98_177, q98_178, q98_179, q98_180, q98_183, q98_185, q98_186, q98_189, q98_191, q98_192, q98_193i, q98_193r, q98_193n, q98_196, q98_199, q98_200, q98_201, q98_204, q98_205, q98_206, q98_209, q98_212, zNC, zcs_0, zcs_i, zcs_r, zcs_l, zpush_0, zpush_i, zpush_l, and_true, true_and, Nat.reduceLT, Nat.reduceLeDiff, Nat.reduceAdd, Nat.reduceMul, reduceIte, ite_true, ite_false, if_true, if_false, not_true_eq_false, not_false_eq_true, false_implies, true_implies, forall_const, implies_true, imp_self, and_self, false_and, and_false, ne_eq, zk_42, zfv_42_0, zf_42_0, zfv_42_1, zf_42_1, zfv_42_2, zf_42_2, zfv_42_3, zfv_42_4, zfv_42_5, zfv_42_6, zfv_42_7, zfv_42_8, zfv_42_9, zf_42_9, zfv_42_10, zf_42_10, zfv_42_11, zf_42_11, zfv_42_12, zfv_42_13, zfv_42_14, zfv_42_15, zfv_42_16, zfv_42_17, zfv_42_18, zf_42_18, zfv_42_19, zf_42_19, zfv_42_20, zfv_42_21, zfv_42_22, zfv_42_23, zf_42_23, zfv_42_24, zfv_42_25, zfv_42_26, zfv_42_27, zfv_42_28, zfv_42_29, zfv_42_30, zfv_42_31, zf_42_31, zk_43, zn_43, zk_44, zn_44, zk_45, zn_45, zk_46, zn_46, zk_47, zn_47, zk_48, zn_48, zk_49, zn_49, zk_50, zn_50, zk_51, zn_51, zk_52, zn_52, zk_53, zn_53, zk_54, zn_54, zk_55, zn_55, zk_56, zn_56, zk_57, zn_57, zk_58, zn_58, zk_59, zn_59, zk_60, zn_60, zk_61, zn_61, zk_62, zn_62, zk_63, zn_63, zk_64, zn_64, n10, h11]
  have i0 : nI 0 = 0 := rfl
  have e := fun (x5 : Int32) (Q' : zR → zM → Prop) => l_seeCopy (M := zup (zup (zup N 42 1 (nI h)) 42 2 0) 42 9 0) (Q := Q') (x1 := nI k) (x2 := x2) (x3 := nI a) (x4 := nI b) (x5 := x5) (h := h) rfl h6 h 0 (by omega)
  simp only [CK_0, i0] at e
  rw [e]
  refine ⟨rfl, ?_⟩
  generalize eK : zup (zup (zup N 42 1 (nI h)) 42 2 0) 42 9 0 = K
  have kN : ∀ a, a ≠ 42 → K a = N a := fun a ha => by rw [← eK, zup_ne _ _ _ ha, zup_ne _ _ _ ha, zup_ne _ _ _ ha]
  have fo : ∀ a, (a < 42 ∨ 53 < a) → zup (zup (CK K h) 42 23 0) 42 0 0 a = W a := fun a ha => by
    rw [zup_ne _ _ _ (by omega), zup_ne _ _ _ (by omega), CK_o (by omega), kN a (by omega)]
    exact hS.1 a (by omega) (by omega)
  have f0 : ∀ i, i ≠ 0 → i ≠ 23 → zup (zup (CK K h) 42 23 0) 42 0 0 42 i = K 42 i := fun i h0 h23 => by
    rw [zup_app, if_pos rfl, if_neg h0, zup_app, if_pos rfl, if_neg h23, CK_o (by omega)]
  have f1 : ∀ a, a ≠ 42 → zup (zup (CK K h) 42 23 0) 42 0 0 a = CK K h a := fun a ha => by
    rw [zup_ne _ _ _ ha, zup_ne _ _ _ ha]
  have c43 : ∀ i, i < h → CK K h 43 i = N 49 i := fun i hi => by unfold CK; rw [if_pos hi, if_pos rfl, kN 49 (by omega)]
  have c44 : ∀ i, i < h → CK K h 44 i = N 50 i := fun i hi => by unfold CK; rw [if_pos hi, if_neg (by decide), if_pos rfl, kN 50 (by omega)]
  have c45 : ∀ i, i < h → CK K h 45 i = N 50 i := fun i hi => by unfold CK; rw [if_pos hi, if_neg (by decide), if_neg (by decide), if_pos rfl, kN 50 (by omega)]
  have c46 : ∀ i, i < h → CK K h 46 i = N 51 i := fun i hi => by unfold CK; rw [if_pos hi, if_neg (by decide), if_neg (by decide), if_neg (by decide), if_pos rfl, kN 51 (by omega)]
  have c47 : ∀ i, i < h → CK K h 47 i = N 52 i := fun i hi => by unfold CK; rw [if_pos hi, if_neg (by decide), if_neg (by decide), if_neg (by decide), if_neg (by decide), if_pos rfl, kN 52 (by omega)]
  have c48 : ∀ i, i < h → CK K h 48 i = N 53 i := fun i hi => by unfold CK; rw [if_pos hi, if_neg (by decide), if_neg (by decide), if_neg (by decide), if_neg (by decide), if_neg (by decide), if_pos rfl, kN 53 (by omega)]
  have k1 : K 42 1 = nI h := by rw [← eK]; rfl
  have k2 : K 42 2 = 0 := by rw [← eK]; rfl
  have k9 : K 42 9 = 0 := by rw [← eK]; rfl
  have k31 : K 42 31 = M 42 31 := by
    rw [← eK]
    show N 42 31 = _
    rw [hS.2.1 31 (by decide) (by decide), w 42 (by omega)]
  have f23 : zup (zup (CK K h) 42 23 0) 42 0 0 42 23 = 0 := rfl
  have f00 : zup (zup (CK K h) 42 23 0) 42 0 0 42 0 = 0 := rfl
  generalize zup (zup (CK K h) 42 23 0) 42 0 0 = F at *
  obtain ⟨h', y', lw', c', T, R, S, Z⟩ := J
  refine ⟨h, 0, 0, 0, ⟨?_, ?_, ?_, ?_, ?_, Or.inr h2.1, h6, by decide, by decide, fun i hi => ?_⟩, ⟨by decide, ?_, f23, fun r hr => absurd hr (Nat.not_lt_zero _)⟩, JS_congr S (fun a ha => ?_), ?_, ?_⟩
  · rw [fo 1 (by omega)]; exact w17
  · rw [f0 1 (by decide) (by decide)]; exact k1
  · rw [fo 1 (by omega)]; exact w18
  · rw [f0 2 (by decide) (by decide)]; exact k2
  · rw [f0 9 (by decide) (by decide)]; exact k9
  · obtain ⟨⟨u1, hu1, e1⟩, ⟨u2, hu2, e2⟩, ⟨u3, hu3, e3⟩, ⟨u4, hu4, e4⟩, ⟨u5, hu5, e5⟩⟩ := good_vals (k := i) h2.2.2 h6 (fun j hj => ((okc_j hj).mp (hok (2 + 7 * i + j) (by omega))).2)
    obtain ⟨w2, w3, w4, w5, w6, w7, w8⟩ := wv i hi
    obtain ⟨v1, v2, v3, v4, v5⟩ := hV i hi
    unfold JG
    rw [f1 43 (by omega), f1 44 (by omega), f1 45 (by omega), f1 46 (by omega), f1 47 (by omega), f1 48 (by omega), c43 i hi, c44 i hi, c45 i hi, c46 i hi, c47 i hi, c48 i hi, fo 2 (by omega), fo 3 (by omega), fo 4 (by omega), fo 5 (by omega), fo 6 (by omega), fo 7 (by omega), fo 8 (by omega), v1, v2, v3, v4, v5, w2, w3, w4, w5, w6, w7, w8, e1, e2, e3, e4, e5]
    exact ⟨⟨rfl, rfl, rfl, rfl, rfl, rfl, by rw [zb1_f (by simp)]⟩, ⟨u1, hu1, rfl⟩, ⟨u2, u2, Nat.le_refl _, hu2, rfl, rfl⟩, ⟨u3, hu3, rfl⟩, ⟨u4, hu4, rfl⟩, ⟨u5, hu5, rfl⟩⟩
  · rw [fo 29 (by omega)]; exact w29
  · rw [fo a (by omega)]
    exact w a (by omega)
  · rw [fo 0 (by omega), hW 0 (by omega), f0 31 (by decide) (by decide), k31]
    exact Z.1
  · rw [fo 0 (by omega), hW 0 (by omega), f00, zup_app, if_pos rfl, if_pos rfl]
end IV
