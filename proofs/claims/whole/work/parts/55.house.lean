-- SEE: the reference reads a house
section IV
variable {M M' : zM} {h y lw c k t a b o n r p m j : Nat} {Q : zR → zM → Prop} {x : Int32} {G : Nat → Int32}
theorem sub48 (x : Int32) : (0 ≤ (x - 48).toInt ∧ (x - 48).toInt ≤ 9 → (x - 48).toInt = x.toInt - 48) ∧ (48 ≤ x.toInt ∧ x.toInt ≤ 57 → (x - 48).toInt = x.toInt - 48) := by
  have e : (x - 48).toInt = (x.toInt - 48).bmod (2 ^ 32) := by rw [Int32.toInt_sub]; rfl
  have h1 := Int32.toInt_lt x
  have h2 := Int32.le_toInt x
  simp only [Int.bmod] at e
  split at e <;> constructor <;> intro h3 <;> omega
theorem fdig_v (h : 0 ≤ x - 48 ∧ x - 48 ≤ 9) : fdig x = x - 48 := by
  have e := (sub48 x).1
  unfold fdig
  rw [if_pos]
  simp only [fa_le, zt_0, zt_9, zt_48, zt_57] at *
  omega
theorem fdig_b : fdig x ≤ 9 := by
  unfold fdig
  split
  · rename_i h
    have e := (sub48 x).2
    simp only [fa_le, zt_9, zt_48, zt_57] at *
    omega
  · decide
theorem fdig_0 : 0 ≤ fdig x ↔ (0 ≤ x - 48 ∧ x - 48 ≤ 9) := by
  constructor
  · intro h
    have h9 := fdig_b (x := x)
    unfold fdig at h h9
    split at h
    · rename_i h2
      rw [if_pos h2] at h9
      exact ⟨h, h9⟩
    · exact absurd h (by decide)
  · intro h
    rw [fdig_v h]
    exact h.1
theorem i_trans {x y z : Int32} (h1 : x ≤ y) (h2 : y ≤ z) : x ≤ z := by simp only [fa_le] at *; omega
theorem fdig_c {u : Int32} (hu : u ≤ 9) : (0 ≤ fdig x ∧ fdig x ≤ u) ↔ (0 ≤ x - 48 ∧ x - 48 ≤ u) := by
  constructor
  · rintro ⟨h1, h2⟩
    have h3 := fdig_0.mp h1
    rw [fdig_v h3] at h2
    exact ⟨h3.1, h2⟩
  · rintro ⟨h1, h2⟩
    have h3 : 0 ≤ x - 48 ∧ x - 48 ≤ 9 := ⟨h1, i_trans h2 hu⟩
    rw [fdig_v h3]
    exact ⟨h1, h2⟩
theorem oj_1 : okj G k 1 ↔ (G (3 + 7 * k) = 112 ∨ G (3 + 7 * k) = 119 ∨ G (3 + 7 * k) = 99) := by
  show 0 ≤ fknd (G (3 + 7 * k)) ↔ _
  unfold fknd
  generalize G (3 + 7 * k) = x
  by_cases h1 : x = 112
  · subst h1; decide
  · by_cases h2 : x = 119
    · subst h2; decide
    · by_cases h3 : x = 99
      · subst h3; decide
      · simp [h1, h2, h3]
theorem oj_2 : okj G k 2 ↔ (0 ≤ G (4 + 7 * k) - 48 ∧ G (4 + 7 * k) - 48 ≤ 9) := fdig_0
theorem oj_3 (h2 : 0 ≤ G (4 + 7 * k) - 48 ∧ G (4 + 7 * k) - 48 ≤ 9) : okj G k 3 ↔ ((if G (4 + 7 * k) - 48 = 0 then (1 : Int32) else 0) ≤ G (5 + 7 * k) - 48 ∧ G (5 + 7 * k) - 48 ≤ 9) := by
  show (0 ≤ fdig (G (5 + 7 * k)) ∧ 0 < 10 * fdig (G (4 + 7 * k)) + fdig (G (5 + 7 * k))) ↔ _
  rw [fdig_v h2]
  generalize G (4 + 7 * k) - 48 = A at *
  obtain ⟨d, hd, rfl⟩ := nI_of (x := A) (by have := h2.1; simp only [fa_lt, fa_le] at *; omega)
  have hd9 : d ≤ 9 := (nI_leI (a := d) (b := 9) hd (by omega)).mp h2.2
  have key : ∀ e : Nat, e ≤ 9 → (0 < 10 * nI d + nI e ↔ (if nI d = 0 then (1 : Int32) else 0) ≤ nI e) := by
    have : ∀ d : Nat, d ≤ 9 → ∀ e : Nat, e ≤ 9 → (0 < 10 * nI d + nI e ↔ (if nI d = 0 then (1 : Int32) else 0) ≤ nI e) := by decide +kernel
    exact this d hd9
  constructor
  · rintro ⟨h3, h4⟩
    have h5 := fdig_0.mp h3
    rw [fdig_v h5] at h4
    refine ⟨?_, h5.2⟩
    generalize G (5 + 7 * k) - 48 = B at *
    obtain ⟨e, he, rfl⟩ := nI_of (x := B) (by have := h5.1; simp only [fa_lt, fa_le] at *; omega)
    exact (key e ((nI_leI (a := e) (b := 9) he (by omega)).mp h5.2)).mp h4
  · rintro ⟨h3, h4⟩
    have h5 : 0 ≤ G (5 + 7 * k) - 48 ∧ G (5 + 7 * k) - 48 ≤ 9 := ⟨i_trans (by split <;> decide) h3, h4⟩
    refine ⟨fdig_0.mpr h5, ?_⟩
    rw [fdig_v h5]
    generalize G (5 + 7 * k) - 48 = B at *
    obtain ⟨e, he, rfl⟩ := nI_of (x := B) (by have := h5.1; simp only [fa_lt, fa_le] at *; omega)
    exact (key e ((nI_leI (a := e) (b := 9) he (by omega)).mp h5.2)).mpr h3
theorem oj_4 : okj G k 4 ↔ (0 ≤ G (6 + 7 * k) - 48 ∧ G (6 + 7 * k) - 48 ≤ 9) := fdig_0
theorem oj_5 : okj G k 5 ↔ (0 ≤ G (7 + 7 * k) - 48 ∧ G (7 + 7 * k) - 48 ≤ 3) := by
  rw [← fdig_c (by decide)]
  show (0 ≤ fdig (G (7 + 7 * k)) ∧ fdig (G (7 + 7 * k)) < 4) ↔ _
  simp only [fa_le, fa_lt, zt_3, zt_4]
  omega
theorem oj_6 (eh : fdig (G 1) = nI h) (h1 : 1 ≤ h) (h6 : h ≤ 6) : okj G k 6 ↔ (0 ≤ G (8 + 7 * k) - 48 ∧ G (8 + 7 * k) - 48 ≤ nI h - 1) := by
  have e1 : nI h - 1 = nI (h - 1) := pk_sub (a := h) (b := 1) h1
  rw [e1, ← fdig_c (nI_le (a := h - 1) (b := 9) (by omega) (by omega))]
  show (0 ≤ fdig (G (8 + 7 * k)) ∧ fdig (G (8 + 7 * k)) < fdig (G 1)) ↔ _
  rw [eh]
  have t1 : (nI h).toInt = h := nI_toInt (by omega)
  have t2 : (nI (h - 1)).toInt = (h - 1 : Nat) := nI_toInt (by omega)
  simp only [fa_le, fa_lt, t1, t2]
  omega
theorem h_cod (hab : a + b ≤ 240) (hr2 : r < 1000) : zQ 93 0 [.ref 42, .int (nI a), .int (nI b)] [] (zup M 42 10 (nI r)) Q ↔ Q (zI (fcA M a b r)) (zup M 42 10 (nI r)) := s_codeAt (M := zup M 42 10 (nI r)) hab rfl hr2
theorem h_figT (hab : a + b ≤ 240) (hr2 : r < 1000) {x1 x2 x3 : Int32} (h0 : 0 ≤ x1) (hv : x2 ≤ fcA M a b r - 48 ∧ fcA M a b r - 48 ≤ x3) (hp : p = r + 1) : zQ 94 0 [.ref 42, .int (nI a), .int (nI b), .int x1, .int x2, .int x3, .null, .null] [] (zup M 42 10 (nI r)) Q ↔ Q (zI (fcA M a b r - 48)) (zup M 42 10 (nI p)) := by
  subst hp
  have e := s_figure_t (M := zup M 42 10 (nI r)) (Q := Q) (r := r) hab rfl hr2 h0 hv
  rw [zup_zup] at e
  exact e
theorem h_figF (hab : a + b ≤ 240) (hr2 : r < 1000) {x1 x2 x3 : Int32} (h0 : 0 ≤ x1) (hv : ¬ (x2 ≤ fcA M a b r - 48 ∧ fcA M a b r - 48 ≤ x3)) : zQ 94 0 [.ref 42, .int (nI a), .int (nI b), .int x1, .int x2, .int x3, .null, .null] [] (zup M 42 10 (nI r)) Q ↔ Q (zI (-9)) (zup M 42 10 (nI r)) := s_figure_f (M := zup M 42 10 (nI r)) (r := r) hab rfl hr2 (Or.inr ⟨h0, hv⟩)
theorem h_figN (hab : a + b ≤ 240) (hr2 : r < 1000) {x3 : Int32} : zQ 94 0 [.ref 42, .int (nI a), .int (nI b), .int (-9), .int 0, .int x3, .null, .null] [] (zup M 42 10 (nI r)) Q ↔ Q (zI (-9)) (zup M 42 10 (nI r)) := s_figure_f (M := zup M 42 10 (nI r)) (r := r) hab rfl hr2 (Or.inl ⟨by decide, fun e => absurd e.1 (by decide)⟩)
def RH (M : zM) (k r : Nat) (v1 v2 v3 v4 v5 : Int32) : zM := zup (zup (zup (zup (zup (zup M 42 10 (nI r)) 49 k v1) 50 k v2) 51 k v3) 52 k v4) 53 k v5
/-- what readsHouse leaves -/
def RHp (M N : zM) (k r : Nat) : Prop := (∀ a, (a < 49 ∨ 53 < a) → a ≠ 42 → N a = M a) ∧ (∀ i, i ≠ 10 → N 42 i = M 42 i) ∧ N 42 10 = nI r ∧ ∀ i, i ≠ k → N 49 i = M 49 i ∧ N 50 i = M 50 i ∧ N 51 i = M 51 i ∧ N 52 i = M 52 i ∧ N 53 i = M 53 i
theorem RHp_0 : RHp M (zup M 42 10 (nI r)) k r := by
  refine ⟨fun a ha h42 => zup_ne _ _ _ h42, fun i hi => ?_, ?_, fun i hi => ⟨rfl, rfl, rfl, rfl, rfl⟩⟩
  · rw [zup_app, if_pos rfl, if_neg hi]
  · rw [zup_app, if_pos rfl, if_pos rfl]
theorem RHp_1 {v1 v2 v3 v4 v5 : Int32} : RHp M (RH M k r v1 v2 v3 v4 v5) k r := by
  refine ⟨fun a ha h42 => ?_, fun i hi => ?_, ?_, fun i hi => ⟨?_, ?_, ?_, ?_, ?_⟩⟩
  · unfold RH
    rw [zup_ne _ _ _ (by omega), zup_ne _ _ _ (by omega), zup_ne _ _ _ (by omega), zup_ne _ _ _ (by omega), zup_ne _ _ _ (by omega), zup_ne _ _ _ h42]
  · show zup M 42 10 (nI r) 42 i = _
    rw [zup_app, if_pos rfl, if_neg hi]
  · show zup M 42 10 (nI r) 42 10 = _
    rw [zup_app, if_pos rfl, if_pos rfl]
  · show zup (zup M 42 10 (nI r)) 49 k v1 49 i = _
    rw [zup_app, if_pos rfl, if_neg hi]; rfl
  · show zup (zup (zup M 42 10 (nI r)) 49 k v1) 50 k v2 50 i = _
    rw [zup_app, if_pos rfl, if_neg hi]; rfl
  · show zup (zup (zup (zup M 42 10 (nI r)) 49 k v1) 50 k v2) 51 k v3 51 i = _
    rw [zup_app, if_pos rfl, if_neg hi]; rfl
  · show zup (zup (zup (zup (zup M 42 10 (nI r)) 49 k v1) 50 k v2) 51 k v3) 52 k v4 52 i = _
    rw [zup_app, if_pos rfl, if_neg hi]; rfl
  · show zup (zup (zup (zup (zup (zup M 42 10 (nI r)) 49 k v1) 50 k v2) 51 k v3) 52 k v4) 53 k v5 53 i = _
    rw [zup_app, if_pos rfl, if_neg hi]; rfl
theorem RH_v {v1 v2 v3 v4 v5 : Int32} : RH M k r v1 v2 v3 v4 v5 49 k = v1 ∧ RH M k r v1 v2 v3 v4 v5 50 k = v2 ∧ RH M k r v1 v2 v3 v4 v5 51 k = v3 ∧ RH M k r v1 v2 v3 v4 v5 52 k = v4 ∧ RH M k r v1 v2 v3 v4 v5 53 k = v5 := by
  refine ⟨?_, ?_, ?_, ?_, ?_⟩ <;> (unfold RH; simp [zup_app])
end IV
section IV
variable {M M' : zM} {h y lw c k t a b o n r p m j : Nat} {Q : zR → zM → Prop} {x : Int32}
theorem rh_0 (hab : a + b ≤ 240) (hk : k < h) (hh6 : h ≤ 6) (hH : M 42 11 = nI h) (h0 : ¬ fcA M a b (2 + 7 * k) = 59) : zQ 95 0 [.ref 42, .int (nI a), .int (nI b), .int (nI k), .null, .null, .null, .null, .null, .null] [] (zup M 42 10 (nI (2 + 7 * k))) Q ↔ Q (zI 0) (zup M 42 10 (nI (2 + 7 * k))) := by
  have c0 : ∀ Q' : zR → zM → Prop, _ := fun Q' => h_cod (M := M) (Q := Q') hab (show 2 + 7 * k < 1000 by omega)
  simp only [q95_0, q95_1, q95_2, q95_3, q95_6, q95_8, q95_11, q95_12, q95_13, q95_14, q95_15, q95_18, q95_19, q95_20, q95_23, q95_24, q95_25, q95_26, q95_29i, q95_29r, q95_29n, q95_31, q95_33, q95_35, q95_38, q95_40, q95_42, q95_45, q95_47, q95_49, q95_52, q95_53, q95_54, q95_55, q95_56, q95_59, q95_60, q95_61, q95_64, q95_65, q95_66, q95_67, q95_68, q95_69, q95_71, q95_74i, q95_74r, q95_74n, q95_76, q95_77, q95_78, q95_79, q95_81, q95_83, q95_86, q95_87, q95_90, q95_91, q95_93, q95_96i, q95_96r, q95_96n, q95_98, q95_99, q95_100, q95_101, q95_103, q95_104, q95_106, q95_109i, q95_109r, q95_109n, q95_111, q95_112, q95_113, q95_114, q95_116, q95_117, q95_118, q95_121i, q95_121r, q95_121n, q95_123, q95_124, q95_125, q95_126, q95_128, q95_129, q95_130, q95_133, q95_134, q95_135, q95_138i, q95_138r, q95_138n, q95_140, q95_141, q95_144, q95_145, q95_147, q95_149, q95_152, q95_153, q95_156, q95_158, q95_160, q95_163, q95_164, q95_167, q95_168, q95_169, q95_170, q95_173, q95_174, q95_176, q95_178, q95_179, q95_181, q95_182, q95_183, q95_184, q95_187, q95_188, q95_190, q95_191, q95_192, q95_195, q95_196, q95_198, q95_199, q95_200, q95_203, q95_204, q95_206, q95_207, q95_209, q95_212, q95_213, q95_216, q95_217, zNC, zcs_0, zcs_i, zcs_r, zcs_l, zpush_0, zpush_i, zpush_l, and_true, true_and, Nat.reduceLT, Nat.reduceLeDiff, Nat.reduceAdd, Nat.reduceMul, reduceIte, ite_true, ite_false, if_true, if_false, not_true_eq_false, not_false_eq_true, false_implies, true_implies, forall_const, implies_true, imp_self, and_self, false_and, and_false, ne_eq, zk_42, zfv_42_0, zf_42_0, zfv_42_1, zf_42_1, zfv_42_2, zf_42_2, zfv_42_3, zfv_42_4, zfv_42_5, zfv_42_6, zfv_42_7, zfv_42_8, zfv_42_9, zf_42_9, zfv_42_10, zf_42_10, zfv_42_11, zf_42_11, zfv_42_12, zfv_42_13, zfv_42_14, zfv_42_15, zfv_42_16, zfv_42_17, zfv_42_18, zf_42_18, zfv_42_19, zf_42_19, zfv_42_20, zfv_42_21, zfv_42_22, zfv_42_23, zf_42_23, zfv_42_24, zfv_42_25, zfv_42_26, zfv_42_27, zfv_42_28, zfv_42_29, zfv_42_30, zfv_42_31, zf_42_31, zk_43, zn_43, zk_44, zn_44, zk_45, zn_45, zk_46, zn_46, zk_47, zn_47, zk_48, zn_48, zk_49, zn_49, zk_50, zn_50, zk_51, zn_51, zk_52, zn_52, zk_53, zn_53, zk_54, zn_54, zk_55, zn_55, zk_56, zn_56, zk_57, zn_57, zk_58, zn_58, zk_59, zn_59, zk_60, zn_60, zk_61, zn_61, zk_62, zn_62, zk_63, zn_63, zk_64, zn_64, c0, h0]
  try simp
theorem rh_1 (hab : a + b ≤ 240) (hk : k < h) (hh6 : h ≤ 6) (hH : M 42 11 = nI h) (h0 : fcA M a b (2 + 7 * k) = 59) (h1 : ¬ (fcA M a b (3 + 7 * k) = 112 ∨ fcA M a b (3 + 7 * k) = 119 ∨ fcA M a b (3 + 7 * k) = 99)) : zQ 95 0 [.ref 42, .int (nI a), .int (nI b), .int (nI k), .null, .null, .null, .null, .null, .null] [] (zup M 42 10 (nI (2 + 7 * k))) Q ↔ Q (zI 0) (zup M 42 10 (nI (3 + 7 * k))) := by
  have c0 : ∀ Q' : zR → zM → Prop, _ := fun Q' => h_cod (M := M) (Q := Q') hab (show 2 + 7 * k < 1000 by omega)
  have c1 : ∀ Q' : zR → zM → Prop, _ := fun Q' => h_cod (M := M) (Q := Q') hab (show 3 + 7 * k < 1000 by omega)
  have n0 : nI (2 + 7 * k) + 1 = nI (3 + 7 * k) := by rw [nI_1]; congr 1; omega
  have r0 : ∀ v, zup M 42 10 v 42 10 = v := fun v => by rw [zup_app, if_pos rfl, if_pos rfl]
  have k0 : ¬ fcA M a b (3 + 7 * k) = 112 := fun e => h1 (Or.inl e)
  have k1 : ¬ fcA M a b (3 + 7 * k) = 119 := fun e => h1 (Or.inr (Or.inl e))
  have k2 : ¬ fcA M a b (3 + 7 * k) = 99 := fun e => h1 (Or.inr (Or.inr e))
  simp only [q95_0, q95_1, q95_2, q95_3, q95_6, q95_8, q95_11, q95_12, q95_13, q95_14, q95_15, q95_18, q95_19, q95_20, q95_23, q95_24, q95_25, q95_26, q95_29i, q95_29r, q95_29n, q95_31, q95_33, q95_35, q95_38, q95_40, q95_42, q95_45, q95_47, q95_49, q95_52, q95_53, q95_54, q95_55, q95_56, q95_59, q95_60, q95_61, q95_64, q95_65, q95_66, q95_67, q95_68, q95_69, q95_71, q95_74i, q95_74r, q95_74n, q95_76, q95_77, q95_78, q95_79, q95_81, q95_83, q95_86, q95_87, q95_90, q95_91, q95_93, q95_96i, q95_96r, q95_96n, q95_98, q95_99, q95_100, q95_101, q95_103, q95_104, q95_106, q95_109i, q95_109r, q95_109n, q95_111, q95_112, q95_113, q95_114, q95_116, q95_117, q95_118, q95_121i, q95_121r, q95_121n, q95_123, q95_124, q95_125, q95_126, q95_128, q95_129, q95_130, q95_133, q95_134, q95_135, q95_138i, q95_138r, q95_138n, q95_140, q95_141, q95_144, q95_145, q95_147, q95_149, q95_152, q95_153, q95_156, q95_158, q95_160, q95_163, q95_164, q95_167, q95_168, q95_169, q95_170, q95_173, q95_174, q95_176, q95_178, q95_179, q95_181, q95_182, q95_183, q95_184, q95_187, q95_188, q95_190, q95_191, q95_192, q95_195, q95_196, q95_198, q95_199, q95_200, q95_203, q95_204, q95_206, q95_207, q95_209, q95_212, q95_213, q95_216, q95_217, zNC, zcs_0, zcs_i, zcs_r, zcs_l, zpush_0, zpush_i, zpush_l, and_true, true_and, Nat.reduceLT, Nat.reduceLeDiff, Nat.reduceAdd, Nat.reduceMul, reduceIte, ite_true, ite_false, if_true, if_false, not_true_eq_false, not_false_eq_true, false_implies, true_implies, forall_const, implies_true, imp_self, and_self, false_and, and_false, ne_eq, zk_42, zfv_42_0, zf_42_0, zfv_42_1, zf_42_1, zfv_42_2, zf_42_2, zfv_42_3, zfv_42_4, zfv_42_5, zfv_42_6, zfv_42_7, zfv_42_8, zfv_42_9, zf_42_9, zfv_42_10, zf_42_10, zfv_42_11, zf_42_11, zfv_42_12, zfv_42_13, zfv_42_14, zfv_42_15, zfv_42_16, zfv_42_17, zfv_42_18, zf_42_18, zfv_42_19, zf_42_19, zfv_42_20, zfv_42_21, zfv_42_22, zfv_42_23, zf_42_23, zfv_42_24, zfv_42_25, zfv_42_26, zfv_42_27, zfv_42_28, zfv_42_29, zfv_42_30, zfv_42_31, zf_42_31, zk_43, zn_43, zk_44, zn_44, zk_45, zn_45, zk_46, zn_46, zk_47, zn_47, zk_48, zn_48, zk_49, zn_49, zk_50, zn_50, zk_51, zn_51, zk_52, zn_52, zk_53, zn_53, zk_54, zn_54, zk_55, zn_55, zk_56, zn_56, zk_57, zn_57, zk_58, zn_58, zk_59, zn_59, zk_60, zn_60, zk_61, zn_61, zk_62, zn_62, zk_63, zn_63, zk_64, zn_64, c0, h0, r0, n0, zup_zup, c1, k0, k1, k2]
  try simp
theorem rh_2 (hab : a + b ≤ 240) (hk : k < h) (hh6 : h ≤ 6) (hH : M 42 11 = nI h) (h0 : fcA M a b (2 + 7 * k) = 59) (h1 : fcA M a b (3 + 7 * k) = 112 ∨ fcA M a b (3 + 7 * k) = 119 ∨ fcA M a b (3 + 7 * k) = 99) (h2 : ¬ (0 ≤ fcA M a b (4 + 7 * k) - 48 ∧ fcA M a b (4 + 7 * k) - 48 ≤ 9)) : zQ 95 0 [.ref 42, .int (nI a), .int (nI b), .int (nI k), .null, .null, .null, .null, .null, .null] [] (zup M 42 10 (nI (2 + 7 * k))) Q ↔ Q (zI 0) (RH M k (4 + 7 * k) (if fcA M a b (3 + 7 * k) = 112 then 0 else if fcA M a b (3 + 7 * k) = 119 then 1 else 2) (10 * ((-9)) + ((-9))) ((-9)) ((-9)) ((-9))) := by
  have hc : (nI k).toNatClampNeg = k := nI_clamp (by omega)
  have hzz := zin_nI (k := k) (n := 6) (by omega) (by decide)
  have c0 : ∀ Q' : zR → zM → Prop, _ := fun Q' => h_cod (M := M) (Q := Q') hab (show 2 + 7 * k < 1000 by omega)
  have c1 : ∀ Q' : zR → zM → Prop, _ := fun Q' => h_cod (M := M) (Q := Q') hab (show 3 + 7 * k < 1000 by omega)
  have n0 : nI (2 + 7 * k) + 1 = nI (3 + 7 * k) := by rw [nI_1]; congr 1; omega
  have n1 : nI (3 + 7 * k) + 1 = nI (4 + 7 * k) := by rw [nI_1]; congr 1; omega
  have r0 : ∀ v, zup M 42 10 v 42 10 = v := fun v => by rw [zup_app, if_pos rfl, if_pos rfl]
  have r1 : ∀ v, zup M 42 10 v 42 11 = nI h := fun v => hH
  have m9 : ¬ (-9 : Int32) = 0 := by decide
  have m8 : (-9 : Int32) < 0 := by decide
  have f2 : ∀ Q' : zR → zM → Prop, _ := fun Q' => h_figF (M := M) (Q := Q') (x1 := 0) (x2 := 0) (x3 := 9) hab (show 4 + 7 * k < 1000 by omega) (by decide) h2
  have fN : ∀ (x3 : Int32) (Q' : zR → zM → Prop), _ := fun x3 Q' => h_figN (M := M) (Q := Q') (x3 := x3) hab (show 4 + 7 * k < 1000 by omega)
  unfold RH
  have e112 : ¬ (119 : Int32) = 112 := by decide
  have e99 : ¬ (99 : Int32) = 112 := by decide
  have e98 : ¬ (99 : Int32) = 119 := by decide
  rcases h1 with h1 | h1 | h1
  all_goals simp only [q95_0, q95_1, q95_2, q95_3, q95_6, q95_8, q95_11, q95_12, q95_13, q95_14, q95_15, q95_18, q95_19, q95_20, q95_23, q95_24, q95_25, q95_26, q95_29i, q95_29r, q95_29n, q95_31, q95_33, q95_35, q95_38, q95_40, q95_42, q95_45, q95_47, q95_49, q95_52, q95_53, q95_54, q95_55, q95_56, q95_59, q95_60, q95_61, q95_64, q95_65, q95_66, q95_67, q95_68, q95_69, q95_71, q95_74i, q95_74r, q95_74n, q95_76, q95_77, q95_78, q95_79, q95_81, q95_83, q95_86, q95_87, q95_90, q95_91, q95_93, q95_96i, q95_96r, q95_96n, q95_98, q95_99, q95_100, q95_101, q95_103, q95_104, q95_106, q95_109i, q95_109r, q95_109n, q95_111, q95_112, q95_113, q95_114, q95_116, q95_117, q95_118, q95_121i, q95_121r, q95_121n, q95_123, q95_124, q95_125, q95_126, q95_128, q95_129, q95_130, q95_133, q95_134, q95_135, q95_138i, q95_138r, q95_138n, q95_140, q95_141, q95_144, q95_145, q95_147, q95_149, q95_152, q95_153, q95_156, q95_158, q95_160, q95_163, q95_164, q95_167, q95_168, q95_169, q95_170, q95_173, q95_174, q95_176, q95_178, q95_179, q95_181, q95_182, q95_183, q95_184, q95_187, q95_188, q95_190, q95_191, q95_192, q95_195, q95_196, q95_198, q95_199, q95_200, q95_203, q95_204, q95_206, q95_207, q95_209, q95_212, q95_213, q95_216, q95_217, zNC, zcs_0, zcs_i, zcs_r, zcs_l, zpush_0, zpush_i, zpush_l, and_true, true_and, Nat.reduceLT, Nat.reduceLeDiff, Nat.reduceAdd, Nat.reduceMul, reduceIte, ite_true, ite_false, if_true, if_false, not_true_eq_false, not_false_eq_true, false_implies, true_implies, forall_const, implies_true, imp_self, and_self, false_and, and_false, ne_eq, zk_42, zfv_42_0, zf_42_0, zfv_42_1, zf_42_1, zfv_42_2, zf_42_2, zfv_42_3, zfv_42_4, zfv_42_5, zfv_42_6, zfv_42_7, zfv_42_8, zfv_42_9, zf_42_9, zfv_42_10, zf_42_10, zfv_42_11, zf_42_11, zfv_42_12, zfv_42_13, zfv_42_14, zfv_42_15, zfv_42_16, zfv_42_17, zfv_42_18, zf_42_18, zfv_42_19, zf_42_19, zfv_42_20, zfv_42_21, zfv_42_22, zfv_42_23, zf_42_23, zfv_42_24, zfv_42_25, zfv_42_26, zfv_42_27, zfv_42_28, zfv_42_29, zfv_42_30, zfv_42_31, zf_42_31, zk_43, zn_43, zk_44, zn_44, zk_45, zn_45, zk_46, zn_46, zk_47, zn_47, zk_48, zn_48, zk_49, zn_49, zk_50, zn_50, zk_51, zn_51, zk_52, zn_52, zk_53, zn_53, zk_54, zn_54, zk_55, zn_55, zk_56, zn_56, zk_57, zn_57, zk_58, zn_58, zk_59, zn_59, zk_60, zn_60, zk_61, zn_61, zk_62, zn_62, zk_63, zn_63, zk_64, zn_64, zup_zup, e112, e99, e98, h1, c0, c1, n0, n1, r0, r1, m9, m8, hc, hzz, h0, f2, fN]
  all_goals try simp
theorem rh_3z (hab : a + b ≤ 240) (hk : k < h) (hh6 : h ≤ 6) (hH : M 42 11 = nI h) (h0 : fcA M a b (2 + 7 * k) = 59) (h1 : fcA M a b (3 + 7 * k) = 112 ∨ fcA M a b (3 + 7 * k) = 119 ∨ fcA M a b (3 + 7 * k) = 99) (hz : fcA M a b (4 + 7 * k) - 48 = 0) (h2 : (0 ≤ fcA M a b (4 + 7 * k) - 48 ∧ fcA M a b (4 + 7 * k) - 48 ≤ 9)) (h3 : ¬ (1 ≤ fcA M a b (5 + 7 * k) - 48 ∧ fcA M a b (5 + 7 * k) - 48 ≤ 9)) : zQ 95 0 [.ref 42, .int (nI a), .int (nI b), .int (nI k), .null, .null, .null, .null, .null, .null] [] (zup M 42 10 (nI (2 + 7 * k))) Q ↔ Q (zI 0) (RH M k (5 + 7 * k) (if fcA M a b (3 + 7 * k) = 112 then 0 else if fcA M a b (3 + 7 * k) = 119 then 1 else 2) (10 * (fcA M a b (4 + 7 * k) - 48) + ((-9))) ((-9)) ((-9)) ((-9))) := by
  have hc : (nI k).toNatClampNeg = k := nI_clamp (by omega)
  have hzz := zin_nI (k := k) (n := 6) (by omega) (by decide)
  have c0 : ∀ Q' : zR → zM → Prop, _ := fun Q' => h_cod (M := M) (Q := Q') hab (show 2 + 7 * k < 1000 by omega)
  have c1 : ∀ Q' : zR → zM → Prop, _ := fun Q' => h_cod (M := M) (Q := Q') hab (show 3 + 7 * k < 1000 by omega)
  have n0 : nI (2 + 7 * k) + 1 = nI (3 + 7 * k) := by rw [nI_1]; congr 1; omega
  have n1 : nI (3 + 7 * k) + 1 = nI (4 + 7 * k) := by rw [nI_1]; congr 1; omega
  have r0 : ∀ v, zup M 42 10 v 42 10 = v := fun v => by rw [zup_app, if_pos rfl, if_pos rfl]
  have r1 : ∀ v, zup M 42 10 v 42 11 = nI h := fun v => hH
  have m9 : ¬ (-9 : Int32) = 0 := by decide
  have m8 : (-9 : Int32) < 0 := by decide
  have f2 : ∀ Q' : zR → zM → Prop, _ := fun Q' => h_figT (M := M) (Q := Q') (x1 := 0) (x2 := 0) (x3 := 9) (p := 5 + 7 * k) hab (show 4 + 7 * k < 1000 by omega) (by decide) h2 (by omega)
  have f3 : ∀ Q' : zR → zM → Prop, _ := fun Q' => h_figF (M := M) (Q := Q') (x1 := 0) (x2 := 1) (x3 := 9) hab (show 5 + 7 * k < 1000 by omega) (by decide) h3
  have fN : ∀ (x3 : Int32) (Q' : zR → zM → Prop), _ := fun x3 Q' => h_figN (M := M) (Q := Q') (x3 := x3) hab (show 5 + 7 * k < 1000 by omega)
  unfold RH
  have e112 : ¬ (119 : Int32) = 112 := by decide
  have e99 : ¬ (99 : Int32) = 112 := by decide
  have e98 : ¬ (99 : Int32) = 119 := by decide
  rcases h1 with h1 | h1 | h1
  all_goals simp only [q95_0, q95_1, q95_2, q95_3, q95_6, q95_8, q95_11, q95_12, q95_13, q95_14, q95_15, q95_18, q95_19, q95_20, q95_23, q95_24, q95_25, q95_26, q95_29i, q95_29r, q95_29n, q95_31, q95_33, q95_35, q95_38, q95_40, q95_42, q95_45, q95_47, q95_49, q95_52, q95_53, q95_54, q95_55, q95_56, q95_59, q95_60, q95_61, q95_64, q95_65, q95_66, q95_67, q95_68, q95_69, q95_71, q95_74i, q95_74r, q95_74n, q95_76, q95_77, q95_78, q95_79, q95_81, q95_83, q95_86, q95_87, q95_90, q95_91, q95_93, q95_96i, q95_96r, q95_96n, q95_98, q95_99, q95_100, q95_101, q95_103, q95_104, q95_106, q95_109i, q95_109r, q95_109n, q95_111, q95_112, q95_113, q95_114, q95_116, q95_117, q95_118, q95_121i, q95_121r, q95_121n, q95_123, q95_124, q95_125, q95_126, q95_128, q95_129, q95_130, q95_133, q95_134, q95_135, q95_138i, q95_138r, q95_138n, q95_140, q95_141, q95_144, q95_145, q95_147, q95_149, q95_152, q95_153, q95_156, q95_158, q95_160, q95_163, q95_164, q95_167, q95_168, q95_169, q95_170, q95_173, q95_174, q95_176, q95_178, q95_179, q95_181, q95_182, q95_183, q95_184, q95_187, q95_188, q95_190, q95_191, q95_192, q95_195, q95_196, q95_198, q95_199, q95_200, q95_203, q95_204, q95_206, q95_207, q95_209, q95_212, q95_213, q95_216, q95_217, zNC, zcs_0, zcs_i, zcs_r, zcs_l, zpush_0, zpush_i, zpush_l, and_true, true_and, Nat.reduceLT, Nat.reduceLeDiff, Nat.reduceAdd, Nat.reduceMul, reduceIte, ite_true, ite_false, if_true, if_false, not_true_eq_false, not_false_eq_true, false_implies, true_implies, forall_const, implies_true, imp_self, and_self, false_and, and_false, ne_eq, zk_42, zfv_42_0, zf_42_0, zfv_42_1, zf_42_1, zfv_42_2, zf_42_2, zfv_42_3, zfv_42_4, zfv_42_5, zfv_42_6, zfv_42_7, zfv_42_8, zfv_42_9, zf_42_9, zfv_42_10, zf_42_10, zfv_42_11, zf_42_11, zfv_42_12, zfv_42_13, zfv_42_14, zfv_42_15, zfv_42_16, zfv_42_17, zfv_42_18, zf_42_18, zfv_42_19, zf_42_19, zfv_42_20, zfv_42_21, zfv_42_22, zfv_42_23, zf_42_23, zfv_42_24, zfv_42_25, zfv_42_26, zfv_42_27, zfv_42_28, zfv_42_29, zfv_42_30, zfv_42_31, zf_42_31, zk_43, zn_43, zk_44, zn_44, zk_45, zn_45, zk_46, zn_46, zk_47, zn_47, zk_48, zn_48, zk_49, zn_49, zk_50, zn_50, zk_51, zn_51, zk_52, zn_52, zk_53, zn_53, zk_54, zn_54, zk_55, zn_55, zk_56, zn_56, zk_57, zn_57, zk_58, zn_58, zk_59, zn_59, zk_60, zn_60, zk_61, zn_61, zk_62, zn_62, zk_63, zn_63, zk_64, zn_64, zup_zup, e112, e99, e98, h1, c0, c1, n0, n1, r0, r1, m9, m8, hc, hzz, h0, f2, f3, fN, hz]
  all_goals try simp
theorem rh_3n (hab : a + b ≤ 240) (hk : k < h) (hh6 : h ≤ 6) (hH : M 42 11 = nI h) (h0 : fcA M a b (2 + 7 * k) = 59) (h1 : fcA M a b (3 + 7 * k) = 112 ∨ fcA M a b (3 + 7 * k) = 119 ∨ fcA M a b (3 + 7 * k) = 99) (hz : ¬ fcA M a b (4 + 7 * k) - 48 = 0) (h2 : (0 ≤ fcA M a b (4 + 7 * k) - 48 ∧ fcA M a b (4 + 7 * k) - 48 ≤ 9)) (h3 : ¬ (0 ≤ fcA M a b (5 + 7 * k) - 48 ∧ fcA M a b (5 + 7 * k) - 48 ≤ 9)) : zQ 95 0 [.ref 42, .int (nI a), .int (nI b), .int (nI k), .null, .null, .null, .null, .null, .null] [] (zup M 42 10 (nI (2 + 7 * k))) Q ↔ Q (zI 0) (RH M k (5 + 7 * k) (if fcA M a b (3 + 7 * k) = 112 then 0 else if fcA M a b (3 + 7 * k) = 119 then 1 else 2) (10 * (fcA M a b (4 + 7 * k) - 48) + ((-9))) ((-9)) ((-9)) ((-9))) := by
  have hc : (nI k).toNatClampNeg = k := nI_clamp (by omega)
  have hzz := zin_nI (k := k) (n := 6) (by omega) (by decide)
  have c0 : ∀ Q' : zR → zM → Prop, _ := fun Q' => h_cod (M := M) (Q := Q') hab (show 2 + 7 * k < 1000 by omega)
  have c1 : ∀ Q' : zR → zM → Prop, _ := fun Q' => h_cod (M := M) (Q := Q') hab (show 3 + 7 * k < 1000 by omega)
  have n0 : nI (2 + 7 * k) + 1 = nI (3 + 7 * k) := by rw [nI_1]; congr 1; omega
  have n1 : nI (3 + 7 * k) + 1 = nI (4 + 7 * k) := by rw [nI_1]; congr 1; omega
  have r0 : ∀ v, zup M 42 10 v 42 10 = v := fun v => by rw [zup_app, if_pos rfl, if_pos rfl]
  have r1 : ∀ v, zup M 42 10 v 42 11 = nI h := fun v => hH
  have m9 : ¬ (-9 : Int32) = 0 := by decide
  have m8 : (-9 : Int32) < 0 := by decide
  have f2 : ∀ Q' : zR → zM → Prop, _ := fun Q' => h_figT (M := M) (Q := Q') (x1 := 0) (x2 := 0) (x3 := 9) (p := 5 + 7 * k) hab (show 4 + 7 * k < 1000 by omega) (by decide) h2 (by omega)
  have f3 : ∀ Q' : zR → zM → Prop, _ := fun Q' => h_figF (M := M) (Q := Q') (x1 := fcA M a b (4 + 7 * k) - 48) (x2 := 0) (x3 := 9) hab (show 5 + 7 * k < 1000 by omega) (i_trans (by decide) h2.1) h3
  have fN : ∀ (x3 : Int32) (Q' : zR → zM → Prop), _ := fun x3 Q' => h_figN (M := M) (Q := Q') (x3 := x3) hab (show 5 + 7 * k < 1000 by omega)
  unfold RH
  have e112 : ¬ (119 : Int32) = 112 := by decide
  have e99 : ¬ (99 : Int32) = 112 := by decide
  have e98 : ¬ (99 : Int32) = 119 := by decide
  rcases h1 with h1 | h1 | h1
  all_goals simp only [q95_0, q95_1, q95_2, q95_3, q95_6, q95_8, q95_11, q95_12, q95_13, q95_14, q95_15, q95_18, q95_19, q95_20, q95_23, q95_24, q95_25, q95_26, q95_29i, q95_29r, q95_29n, q95_31, q95_33, q95_35, q95_38, q95_40, q95_42, q95_45, q95_47, q95_49, q95_52, q95_53, q95_54, q95_55, q95_56, q95_59, q95_60, q95_61, q95_64, q95_65, q95_66, q95_67, q95_68, q95_69, q95_71, q95_74i, q95_74r, q95_74n, q95_76, q95_77, q95_78, q95_79, q95_81, q95_83, q95_86, q95_87, q95_90, q95_91, q95_93, q95_96i, q95_96r, q95_96n, q95_98, q95_99, q95_100, q95_101, q95_103, q95_104, q95_106, q95_109i, q95_109r, q95_109n, q95_111, q95_112, q95_113, q95_114, q95_116, q95_117, q95_118, q95_121i, q95_121r, q95_121n, q95_123, q95_124, q95_125, q95_126, q95_128, q95_129, q95_130, q95_133, q95_134, q95_135, q95_138i, q95_138r, q95_138n, q95_140, q95_141, q95_144, q95_145, q95_147, q95_149, q95_152, q95_153, q95_156, q95_158, q95_160, q95_163, q95_164, q95_167, q95_168, q95_169, q95_170, q95_173, q95_174, q95_176, q95_178, q95_179, q95_181, q95_182, q95_183, q95_184, q95_187, q95_188, q95_190, q95_191, q95_192, q95_195, q95_196, q95_198, q95_199, q95_200, q95_203, q95_204, q95_206, q95_207, q95_209, q95_212, q95_213, q95_216, q95_217, zNC, zcs_0, zcs_i, zcs_r, zcs_l, zpush_0, zpush_i, zpush_l, and_true, true_and, Nat.reduceLT, Nat.reduceLeDiff, Nat.reduceAdd, Nat.reduceMul, reduceIte, ite_true, ite_false, if_true, if_false, not_true_eq_false, not_false_eq_true, false_implies, true_implies, forall_const, implies_true, imp_self, and_self, false_and, and_false, ne_eq, zk_42, zfv_42_0, zf_42_0, zfv_42_1, zf_42_1, zfv_42_2, zf_42_2, zfv_42_3, zfv_42_4, zfv_42_5, zfv_42_6, zfv_42_7, zfv_42_8, zfv_42_9, zf_42_9, zfv_42_10, zf_42_10, zfv_42_11, zf_42_11, zfv_42_12, zfv_42_13, zfv_42_14, zfv_42_15, zfv_42_16, zfv_42_17, zfv_42_18, zf_42_18, zfv_42_19, zf_42_19, zfv_42_20, zfv_42_21, zfv_42_22, zfv_42_23, zf_42_23, zfv_42_24, zfv_42_25, zfv_42_26, zfv_42_27, zfv_42_28, zfv_42_29, zfv_42_30, zfv_42_31, zf_42_31, zk_43, zn_43, zk_44, zn_44, zk_45, zn_45, zk_46, zn_46, zk_47, zn_47, zk_48, zn_48, zk_49, zn_49, zk_50, zn_50, zk_51, zn_51, zk_52, zn_52, zk_53, zn_53, zk_54, zn_54, zk_55, zn_55, zk_56, zn_56, zk_57, zn_57, zk_58, zn_58, zk_59, zn_59, zk_60, zn_60, zk_61, zn_61, zk_62, zn_62, zk_63, zn_63, zk_64, zn_64, zup_zup, e112, e99, e98, h1, c0, c1, n0, n1, r0, r1, m9, m8, hc, hzz, h0, f2, f3, fN, hz]
  all_goals try simp
theorem rh_4z (hab : a + b ≤ 240) (hk : k < h) (hh6 : h ≤ 6) (hH : M 42 11 = nI h) (h0 : fcA M a b (2 + 7 * k) = 59) (h1 : fcA M a b (3 + 7 * k) = 112 ∨ fcA M a b (3 + 7 * k) = 119 ∨ fcA M a b (3 + 7 * k) = 99) (hz : fcA M a b (4 + 7 * k) - 48 = 0) (h2 : (0 ≤ fcA M a b (4 + 7 * k) - 48 ∧ fcA M a b (4 + 7 * k) - 48 ≤ 9)) (h3 : (1 ≤ fcA M a b (5 + 7 * k) - 48 ∧ fcA M a b (5 + 7 * k) - 48 ≤ 9)) (h4 : ¬ (0 ≤ fcA M a b (6 + 7 * k) - 48 ∧ fcA M a b (6 + 7 * k) - 48 ≤ 9)) : zQ 95 0 [.ref 42, .int (nI a), .int (nI b), .int (nI k), .null, .null, .null, .null, .null, .null] [] (zup M 42 10 (nI (2 + 7 * k))) Q ↔ Q (zI 0) (RH M k (6 + 7 * k) (if fcA M a b (3 + 7 * k) = 112 then 0 else if fcA M a b (3 + 7 * k) = 119 then 1 else 2) (10 * (fcA M a b (4 + 7 * k) - 48) + (fcA M a b (5 + 7 * k) - 48)) ((-9)) ((-9)) ((-9))) := by
  have hc : (nI k).toNatClampNeg = k := nI_clamp (by omega)
  have hzz := zin_nI (k := k) (n := 6) (by omega) (by decide)
  have c0 : ∀ Q' : zR → zM → Prop, _ := fun Q' => h_cod (M := M) (Q := Q') hab (show 2 + 7 * k < 1000 by omega)
  have c1 : ∀ Q' : zR → zM → Prop, _ := fun Q' => h_cod (M := M) (Q := Q') hab (show 3 + 7 * k < 1000 by omega)
  have n0 : nI (2 + 7 * k) + 1 = nI (3 + 7 * k) := by rw [nI_1]; congr 1; omega
  have n1 : nI (3 + 7 * k) + 1 = nI (4 + 7 * k) := by rw [nI_1]; congr 1; omega
  have r0 : ∀ v, zup M 42 10 v 42 10 = v := fun v => by rw [zup_app, if_pos rfl, if_pos rfl]
  have r1 : ∀ v, zup M 42 10 v 42 11 = nI h := fun v => hH
  have m9 : ¬ (-9 : Int32) = 0 := by decide
  have m8 : (-9 : Int32) < 0 := by decide
  have f2 : ∀ Q' : zR → zM → Prop, _ := fun Q' => h_figT (M := M) (Q := Q') (x1 := 0) (x2 := 0) (x3 := 9) (p := 5 + 7 * k) hab (show 4 + 7 * k < 1000 by omega) (by decide) h2 (by omega)
  have f3 : ∀ Q' : zR → zM → Prop, _ := fun Q' => h_figT (M := M) (Q := Q') (x1 := 0) (x2 := 1) (x3 := 9) (p := 6 + 7 * k) hab (show 5 + 7 * k < 1000 by omega) (by decide) h3 (by omega)
  have f4 : ∀ Q' : zR → zM → Prop, _ := fun Q' => h_figF (M := M) (Q := Q') (x1 := fcA M a b (5 + 7 * k) - 48) (x2 := 0) (x3 := 9) hab (show 6 + 7 * k < 1000 by omega) (i_trans (by decide) h3.1) h4
  have fN : ∀ (x3 : Int32) (Q' : zR → zM → Prop), _ := fun x3 Q' => h_figN (M := M) (Q := Q') (x3 := x3) hab (show 6 + 7 * k < 1000 by omega)
  unfold RH
  have e112 : ¬ (119 : Int32) = 112 := by decide
  have e99 : ¬ (99 : Int32) = 112 := by decide
  have e98 : ¬ (99 : Int32) = 119 := by decide
  rcases h1 with h1 | h1 | h1
  all_goals simp only [q95_0, q95_1, q95_2, q95_3, q95_6, q95_8, q95_11, q95_12, q95_13, q95_14, q95_15, q95_18, q95_19, q95_20, q95_23, q95_24, q95_25, q95_26, q95_29i, q95_29r, q95_29n, q95_31, q95_33, q95_35, q95_38, q95_40, q95_42, q95_45, q95_47, q95_49, q95_52, q95_53, q95_54, q95_55, q95_56, q95_59, q95_60, q95_61, q95_64, q95_65, q95_66, q95_67, q95_68, q95_69, q95_71, q95_74i, q95_74r, q95_74n, q95_76, q95_77, q95_78, q95_79, q95_81, q95_83, q95_86, q95_87, q95_90, q95_91, q95_93, q95_96i, q95_96r, q95_96n, q95_98, q95_99, q95_100, q95_101, q95_103, q95_104, q95_106, q95_109i, q95_109r, q95_109n, q95_111, q95_112, q95_113, q95_114, q95_116, q95_117, q95_118, q95_121i, q95_121r, q95_121n, q95_123, q95_124, q95_125, q95_126, q95_128, q95_129, q95_130, q95_133, q95_134, q95_135, q95_138i, q95_138r, q95_138n, q95_140, q95_141, q95_144, q95_145, q95_147, q95_149, q95_152, q95_153, q95_156, q95_158, q95_160, q95_163, q95_164, q95_167, q95_168, q95_169, q95_170, q95_173, q95_174, q95_176, q95_178, q95_179, q95_181, q95_182, q95_183, q95_184, q95_187, q95_188, q95_190, q95_191, q95_192, q95_195, q95_196, q95_198, q95_199, q95_200, q95_203, q95_204, q95_206, q95_207, q95_209, q95_212, q95_213, q95_216, q95_217, zNC, zcs_0, zcs_i, zcs_r, zcs_l, zpush_0, zpush_i, zpush_l, and_true, true_and, Nat.reduceLT, Nat.reduceLeDiff, Nat.reduceAdd, Nat.reduceMul, reduceIte, ite_true, ite_false, if_true, if_false, not_true_eq_false, not_false_eq_true, false_implies, true_implies, forall_const, implies_true, imp_self, and_self, false_and, and_false, ne_eq, zk_42, zfv_42_0, zf_42_0, zfv_42_1, zf_42_1, zfv_42_2, zf_42_2, zfv_42_3, zfv_42_4, zfv_42_5, zfv_42_6, zfv_42_7, zfv_42_8, zfv_42_9, zf_42_9, zfv_42_10, zf_42_10, zfv_42_11, zf_42_11, zfv_42_12, zfv_42_13, zfv_42_14, zfv_42_15, zfv_42_16, zfv_42_17, zfv_42_18, zf_42_18, zfv_42_19, zf_42_19, zfv_42_20, zfv_42_21, zfv_42_22, zfv_42_23, zf_42_23, zfv_42_24, zfv_42_25, zfv_42_26, zfv_42_27, zfv_42_28, zfv_42_29, zfv_42_30, zfv_42_31, zf_42_31, zk_43, zn_43, zk_44, zn_44, zk_45, zn_45, zk_46, zn_46, zk_47, zn_47, zk_48, zn_48, zk_49, zn_49, zk_50, zn_50, zk_51, zn_51, zk_52, zn_52, zk_53, zn_53, zk_54, zn_54, zk_55, zn_55, zk_56, zn_56, zk_57, zn_57, zk_58, zn_58, zk_59, zn_59, zk_60, zn_60, zk_61, zn_61, zk_62, zn_62, zk_63, zn_63, zk_64, zn_64, zup_zup, e112, e99, e98, h1, c0, c1, n0, n1, r0, r1, m9, m8, hc, hzz, h0, f2, f3, f4, fN, hz]
  all_goals try simp
theorem rh_4n (hab : a + b ≤ 240) (hk : k < h) (hh6 : h ≤ 6) (hH : M 42 11 = nI h) (h0 : fcA M a b (2 + 7 * k) = 59) (h1 : fcA M a b (3 + 7 * k) = 112 ∨ fcA M a b (3 + 7 * k) = 119 ∨ fcA M a b (3 + 7 * k) = 99) (hz : ¬ fcA M a b (4 + 7 * k) - 48 = 0) (h2 : (0 ≤ fcA M a b (4 + 7 * k) - 48 ∧ fcA M a b (4 + 7 * k) - 48 ≤ 9)) (h3 : (0 ≤ fcA M a b (5 + 7 * k) - 48 ∧ fcA M a b (5 + 7 * k) - 48 ≤ 9)) (h4 : ¬ (0 ≤ fcA M a b (6 + 7 * k) - 48 ∧ fcA M a b (6 + 7 * k) - 48 ≤ 9)) : zQ 95 0 [.ref 42, .int (nI a), .int (nI b), .int (nI k), .null, .null, .null, .null, .null, .null] [] (zup M 42 10 (nI (2 + 7 * k))) Q ↔ Q (zI 0) (RH M k (6 + 7 * k) (if fcA M a b (3 + 7 * k) = 112 then 0 else if fcA M a b (3 + 7 * k) = 119 then 1 else 2) (10 * (fcA M a b (4 + 7 * k) - 48) + (fcA M a b (5 + 7 * k) - 48)) ((-9)) ((-9)) ((-9))) := by
  have hc : (nI k).toNatClampNeg = k := nI_clamp (by omega)
  have hzz := zin_nI (k := k) (n := 6) (by omega) (by decide)
  have c0 : ∀ Q' : zR → zM → Prop, _ := fun Q' => h_cod (M := M) (Q := Q') hab (show 2 + 7 * k < 1000 by omega)
  have c1 : ∀ Q' : zR → zM → Prop, _ := fun Q' => h_cod (M := M) (Q := Q') hab (show 3 + 7 * k < 1000 by omega)
  have n0 : nI (2 + 7 * k) + 1 = nI (3 + 7 * k) := by rw [nI_1]; congr 1; omega
  have n1 : nI (3 + 7 * k) + 1 = nI (4 + 7 * k) := by rw [nI_1]; congr 1; omega
  have r0 : ∀ v, zup M 42 10 v 42 10 = v := fun v => by rw [zup_app, if_pos rfl, if_pos rfl]
  have r1 : ∀ v, zup M 42 10 v 42 11 = nI h := fun v => hH
  have m9 : ¬ (-9 : Int32) = 0 := by decide
  have m8 : (-9 : Int32) < 0 := by decide
  have f2 : ∀ Q' : zR → zM → Prop, _ := fun Q' => h_figT (M := M) (Q := Q') (x1 := 0) (x2 := 0) (x3 := 9) (p := 5 + 7 * k) hab (show 4 + 7 * k < 1000 by omega) (by decide) h2 (by omega)
  have f3 : ∀ Q' : zR → zM → Prop, _ := fun Q' => h_figT (M := M) (Q := Q') (x1 := fcA M a b (4 + 7 * k) - 48) (x2 := 0) (x3 := 9) (p := 6 + 7 * k) hab (show 5 + 7 * k < 1000 by omega) (i_trans (by decide) h2.1) h3 (by omega)
  have f4 : ∀ Q' : zR → zM → Prop, _ := fun Q' => h_figF (M := M) (Q := Q') (x1 := fcA M a b (5 + 7 * k) - 48) (x2 := 0) (x3 := 9) hab (show 6 + 7 * k < 1000 by omega) (i_trans (by decide) h3.1) h4
  have fN : ∀ (x3 : Int32) (Q' : zR → zM → Prop), _ := fun x3 Q' => h_figN (M := M) (Q := Q') (x3 := x3) hab (show 6 + 7 * k < 1000 by omega)
  unfold RH
  have e112 : ¬ (119 : Int32) = 112 := by decide
  have e99 : ¬ (99 : Int32) = 112 := by decide
  have e98 : ¬ (99 : Int32) = 119 := by decide
  rcases h1 with h1 | h1 | h1
  all_goals simp only [q95_0, q95_1, q95_2, q95_3, q95_6, q95_8, q95_11, q95_12, q95_13, q95_14, q95_15, q95_18, q95_19, q95_20, q95_23, q95_24, q95_25, q95_26, q95_29i, q95_29r, q95_29n, q95_31, q95_33, q95_35, q95_38, q95_40, q95_42, q95_45, q95_47, q95_49, q95_52, q95_53, q95_54, q95_55, q95_56, q95_59, q95_60, q95_61, q95_64, q95_65, q95_66, q95_67, q95_68, q95_69, q95_71, q95_74i, q95_74r, q95_74n, q95_76, q95_77, q95_78, q95_79, q95_81, q95_83, q95_86, q95_87, q95_90, q95_91, q95_93, q95_96i, q95_96r, q95_96n, q95_98, q95_99, q95_100, q95_101, q95_103, q95_104, q95_106, q95_109i, q95_109r, q95_109n, q95_111, q95_112, q95_113, q95_114, q95_116, q95_117, q95_118, q95_121i, q95_121r, q95_121n, q95_123, q95_124, q95_125, q95_126, q95_128, q95_129, q95_130, q95_133, q95_134, q95_135, q95_138i, q95_138r, q95_138n, q95_140, q95_141, q95_144, q95_145, q95_147, q95_149, q95_152, q95_153, q95_156, q95_158, q95_160, q95_163, q95_164, q95_167, q95_168, q95_169, q95_170, q95_173, q95_174, q95_176, q95_178, q95_179, q95_181, q95_182, q95_183, q95_184, q95_187, q95_188, q95_190, q95_191, q95_192, q95_195, q95_196, q95_198, q95_199, q95_200, q95_203, q95_204, q95_206, q95_207, q95_209, q95_212, q95_213, q95_216, q95_217, zNC, zcs_0, zcs_i, zcs_r, zcs_l, zpush_0, zpush_i, zpush_l, and_true, true_and, Nat.reduceLT, Nat.reduceLeDiff, Nat.reduceAdd, Nat.reduceMul, reduceIte, ite_true, ite_false, if_true, if_false, not_true_eq_false, not_false_eq_true, false_implies, true_implies, forall_const, implies_true, imp_self, and_self, false_and, and_false, ne_eq, zk_42, zfv_42_0, zf_42_0, zfv_42_1, zf_42_1, zfv_42_2, zf_42_2, zfv_42_3, zfv_42_4, zfv_42_5, zfv_42_6, zfv_42_7, zfv_42_8, zfv_42_9, zf_42_9, zfv_42_10, zf_42_10, zfv_42_11, zf_42_11, zfv_42_12, zfv_42_13, zfv_42_14, zfv_42_15, zfv_42_16, zfv_42_17, zfv_42_18, zf_42_18, zfv_42_19, zf_42_19, zfv_42_20, zfv_42_21, zfv_42_22, zfv_42_23, zf_42_23, zfv_42_24, zfv_42_25, zfv_42_26, zfv_42_27, zfv_42_28, zfv_42_29, zfv_42_30, zfv_42_31, zf_42_31, zk_43, zn_43, zk_44, zn_44, zk_45, zn_45, zk_46, zn_46, zk_47, zn_47, zk_48, zn_48, zk_49, zn_49, zk_50, zn_50, zk_51, zn_51, zk_52, zn_52, zk_53, zn_53, zk_54, zn_54, zk_55, zn_55, zk_56, zn_56, zk_57, zn_57, zk_58, zn_58, zk_59, zn_59, zk_60, zn_60, zk_61, zn_61, zk_62, zn_62, zk_63, zn_63, zk_64, zn_64, zup_zup, e112, e99, e98, h1, c0, c1, n0, n1, r0, r1, m9, m8, hc, hzz, h0, f2, f3, f4, fN, hz]
  all_goals try simp
theorem rh_5z (hab : a + b ≤ 240) (hk : k < h) (hh6 : h ≤ 6) (hH : M 42 11 = nI h) (h0 : fcA M a b (2 + 7 * k) = 59) (h1 : fcA M a b (3 + 7 * k) = 112 ∨ fcA M a b (3 + 7 * k) = 119 ∨ fcA M a b (3 + 7 * k) = 99) (hz : fcA M a b (4 + 7 * k) - 48 = 0) (h2 : (0 ≤ fcA M a b (4 + 7 * k) - 48 ∧ fcA M a b (4 + 7 * k) - 48 ≤ 9)) (h3 : (1 ≤ fcA M a b (5 + 7 * k) - 48 ∧ fcA M a b (5 + 7 * k) - 48 ≤ 9)) (h4 : (0 ≤ fcA M a b (6 + 7 * k) - 48 ∧ fcA M a b (6 + 7 * k) - 48 ≤ 9)) (h5 : ¬ (0 ≤ fcA M a b (7 + 7 * k) - 48 ∧ fcA M a b (7 + 7 * k) - 48 ≤ 3)) : zQ 95 0 [.ref 42, .int (nI a), .int (nI b), .int (nI k), .null, .null, .null, .null, .null, .null] [] (zup M 42 10 (nI (2 + 7 * k))) Q ↔ Q (zI 0) (RH M k (7 + 7 * k) (if fcA M a b (3 + 7 * k) = 112 then 0 else if fcA M a b (3 + 7 * k) = 119 then 1 else 2) (10 * (fcA M a b (4 + 7 * k) - 48) + (fcA M a b (5 + 7 * k) - 48)) (fcA M a b (6 + 7 * k) - 48) ((-9)) ((-9))) := by
  have hc : (nI k).toNatClampNeg = k := nI_clamp (by omega)
  have hzz := zin_nI (k := k) (n := 6) (by omega) (by decide)
  have c0 : ∀ Q' : zR → zM → Prop, _ := fun Q' => h_cod (M := M) (Q := Q') hab (show 2 + 7 * k < 1000 by omega)
  have c1 : ∀ Q' : zR → zM → Prop, _ := fun Q' => h_cod (M := M) (Q := Q') hab (show 3 + 7 * k < 1000 by omega)
  have n0 : nI (2 + 7 * k) + 1 = nI (3 + 7 * k) := by rw [nI_1]; congr 1; omega
  have n1 : nI (3 + 7 * k) + 1 = nI (4 + 7 * k) := by rw [nI_1]; congr 1; omega
  have r0 : ∀ v, zup M 42 10 v 42 10 = v := fun v => by rw [zup_app, if_pos rfl, if_pos rfl]
  have r1 : ∀ v, zup M 42 10 v 42 11 = nI h := fun v => hH
  have m9 : ¬ (-9 : Int32) = 0 := by decide
  have m8 : (-9 : Int32) < 0 := by decide
  have f2 : ∀ Q' : zR → zM → Prop, _ := fun Q' => h_figT (M := M) (Q := Q') (x1 := 0) (x2 := 0) (x3 := 9) (p := 5 + 7 * k) hab (show 4 + 7 * k < 1000 by omega) (by decide) h2 (by omega)
  have f3 : ∀ Q' : zR → zM → Prop, _ := fun Q' => h_figT (M := M) (Q := Q') (x1 := 0) (x2 := 1) (x3 := 9) (p := 6 + 7 * k) hab (show 5 + 7 * k < 1000 by omega) (by decide) h3 (by omega)
  have f4 : ∀ Q' : zR → zM → Prop, _ := fun Q' => h_figT (M := M) (Q := Q') (x1 := fcA M a b (5 + 7 * k) - 48) (x2 := 0) (x3 := 9) (p := 7 + 7 * k) hab (show 6 + 7 * k < 1000 by omega) (i_trans (by decide) h3.1) h4 (by omega)
  have f5 : ∀ Q' : zR → zM → Prop, _ := fun Q' => h_figF (M := M) (Q := Q') (x1 := fcA M a b (6 + 7 * k) - 48) (x2 := 0) (x3 := 3) hab (show 7 + 7 * k < 1000 by omega) (i_trans (by decide) h4.1) h5
  have fN : ∀ (x3 : Int32) (Q' : zR → zM → Prop), _ := fun x3 Q' => h_figN (M := M) (Q := Q') (x3 := x3) hab (show 7 + 7 * k < 1000 by omega)
  unfold RH
  have e112 : ¬ (119 : Int32) = 112 := by decide
  have e99 : ¬ (99 : Int32) = 112 := by decide
  have e98 : ¬ (99 : Int32) = 119 := by decide
  rcases h1 with h1 | h1 | h1
  all_goals simp only [q95_0, q95_1, q95_2, q95_3, q95_6, q95_8, q95_11, q95_12, q95_13, q95_14, q95_15, q95_18, q95_19, q95_20, q95_23, q95_24, q95_25, q95_26, q95_29i, q95_29r, q95_29n, q95_31, q95_33, q95_35, q95_38, q95_40, q95_42, q95_45, q95_47, q95_49, q95_52, q95_53, q95_54, q95_55, q95_56, q95_59, q95_60, q95_61, q95_64, q95_65, q95_66, q95_67, q95_68, q95_69, q95_71, q95_74i, q95_74r, q95_74n, q95_76, q95_77, q95_78, q95_79, q95_81, q95_83, q95_86, q95_87, q95_90, q95_91, q95_93, q95_96i, q95_96r, q95_96n, q95_98, q95_99, q95_100, q95_101, q95_103, q95_104, q95_106, q95_109i, q95_109r, q95_109n, q95_111, q95_112, q95_113, q95_114, q95_116, q95_117, q95_118, q95_121i, q95_121r, q95_121n, q95_123, q95_124, q95_125, q95_126, q95_128, q95_129, q95_130, q95_133, q95_134, q95_135, q95_138i, q95_138r, q95_138n, q95_140, q95_141, q95_144, q95_145, q95_147, q95_149, q95_152, q95_153, q95_156, q95_158, q95_160, q95_163, q95_164, q95_167, q95_168, q95_169, q95_170, q95_173, q95_174, q95_176, q95_178, q95_179, q95_181, q95_182, q95_183, q95_184, q95_187, q95_188, q95_190, q95_191, q95_192, q95_195, q95_196, q95_198, q95_199, q95_200, q95_203, q95_204, q95_206, q95_207, q95_209, q95_212, q95_213, q95_216, q95_217, zNC, zcs_0, zcs_i, zcs_r, zcs_l, zpush_0, zpush_i, zpush_l, and_true, true_and, Nat.reduceLT, Nat.reduceLeDiff, Nat.reduceAdd, Nat.reduceMul, reduceIte, ite_true, ite_false, if_true, if_false, not_true_eq_false, not_false_eq_true, false_implies, true_implies, forall_const, implies_true, imp_self, and_self, false_and, and_false, ne_eq, zk_42, zfv_42_0, zf_42_0, zfv_42_1, zf_42_1, zfv_42_2, zf_42_2, zfv_42_3, zfv_42_4, zfv_42_5, zfv_42_6, zfv_42_7, zfv_42_8, zfv_42_9, zf_42_9, zfv_42_10, zf_42_10, zfv_42_11, zf_42_11, zfv_42_12, zfv_42_13, zfv_42_14, zfv_42_15, zfv_42_16, zfv_42_17, zfv_42_18, zf_42_18, zfv_42_19, zf_42_19, zfv_42_20, zfv_42_21, zfv_42_22, zfv_42_23, zf_42_23, zfv_42_24, zfv_42_25, zfv_42_26, zfv_42_27, zfv_42_28, zfv_42_29, zfv_42_30, zfv_42_31, zf_42_31, zk_43, zn_43, zk_44, zn_44, zk_45, zn_45, zk_46, zn_46, zk_47, zn_47, zk_48, zn_48, zk_49, zn_49, zk_50, zn_50, zk_51, zn_51, zk_52, zn_52, zk_53, zn_53, zk_54, zn_54, zk_55, zn_55, zk_56, zn_56, zk_57, zn_57, zk_58, zn_58, zk_59, zn_59, zk_60, zn_60, zk_61, zn_61, zk_62, zn_62, zk_63, zn_63, zk_64, zn_64, zup_zup, e112, e99, e98, h1, c0, c1, n0, n1, r0, r1, m9, m8, hc, hzz, h0, f2, f3, f4, f5, fN, hz]
  all_goals try simp
theorem rh_5n (hab : a + b ≤ 240) (hk : k < h) (hh6 : h ≤ 6) (hH : M 42 11 = nI h) (h0 : fcA M a b (2 + 7 * k) = 59) (h1 : fcA M a b (3 + 7 * k) = 112 ∨ fcA M a b (3 + 7 * k) = 119 ∨ fcA M a b (3 + 7 * k) = 99) (hz : ¬ fcA M a b (4 + 7 * k) - 48 = 0) (h2 : (0 ≤ fcA M a b (4 + 7 * k) - 48 ∧ fcA M a b (4 + 7 * k) - 48 ≤ 9)) (h3 : (0 ≤ fcA M a b (5 + 7 * k) - 48 ∧ fcA M a b (5 + 7 * k) - 48 ≤ 9)) (h4 : (0 ≤ fcA M a b (6 + 7 * k) - 48 ∧ fcA M a b (6 + 7 * k) - 48 ≤ 9)) (h5 : ¬ (0 ≤ fcA M a b (7 + 7 * k) - 48 ∧ fcA M a b (7 + 7 * k) - 48 ≤ 3)) : zQ 95 0 [.ref 42, .int (nI a), .int (nI b), .int (nI k), .null, .null, .null, .null, .null, .null] [] (zup M 42 10 (nI (2 + 7 * k))) Q ↔ Q (zI 0) (RH M k (7 + 7 * k) (if fcA M a b (3 + 7 * k) = 112 then 0 else if fcA M a b (3 + 7 * k) = 119 then 1 else 2) (10 * (fcA M a b (4 + 7 * k) - 48) + (fcA M a b (5 + 7 * k) - 48)) (fcA M a b (6 + 7 * k) - 48) ((-9)) ((-9))) := by
  have hc : (nI k).toNatClampNeg = k := nI_clamp (by omega)
  have hzz := zin_nI (k := k) (n := 6) (by omega) (by decide)
  have c0 : ∀ Q' : zR → zM → Prop, _ := fun Q' => h_cod (M := M) (Q := Q') hab (show 2 + 7 * k < 1000 by omega)
  have c1 : ∀ Q' : zR → zM → Prop, _ := fun Q' => h_cod (M := M) (Q := Q') hab (show 3 + 7 * k < 1000 by omega)
  have n0 : nI (2 + 7 * k) + 1 = nI (3 + 7 * k) := by rw [nI_1]; congr 1; omega
  have n1 : nI (3 + 7 * k) + 1 = nI (4 + 7 * k) := by rw [nI_1]; congr 1; omega
  have r0 : ∀ v, zup M 42 10 v 42 10 = v := fun v => by rw [zup_app, if_pos rfl, if_pos rfl]
  have r1 : ∀ v, zup M 42 10 v 42 11 = nI h := fun v => hH
  have m9 : ¬ (-9 : Int32) = 0 := by decide
  have m8 : (-9 : Int32) < 0 := by decide
  have f2 : ∀ Q' : zR → zM → Prop, _ := fun Q' => h_figT (M := M) (Q := Q') (x1 := 0) (x2 := 0) (x3 := 9) (p := 5 + 7 * k) hab (show 4 + 7 * k < 1000 by omega) (by decide) h2 (by omega)
  have f3 : ∀ Q' : zR → zM → Prop, _ := fun Q' => h_figT (M := M) (Q := Q') (x1 := fcA M a b (4 + 7 * k) - 48) (x2 := 0) (x3 := 9) (p := 6 + 7 * k) hab (show 5 + 7 * k < 1000 by omega) (i_trans (by decide) h2.1) h3 (by omega)
  have f4 : ∀ Q' : zR → zM → Prop, _ := fun Q' => h_figT (M := M) (Q := Q') (x1 := fcA M a b (5 + 7 * k) - 48) (x2 := 0) (x3 := 9) (p := 7 + 7 * k) hab (show 6 + 7 * k < 1000 by omega) (i_trans (by decide) h3.1) h4 (by omega)
  have f5 : ∀ Q' : zR → zM → Prop, _ := fun Q' => h_figF (M := M) (Q := Q') (x1 := fcA M a b (6 + 7 * k) - 48) (x2 := 0) (x3 := 3) hab (show 7 + 7 * k < 1000 by omega) (i_trans (by decide) h4.1) h5
  have fN : ∀ (x3 : Int32) (Q' : zR → zM → Prop), _ := fun x3 Q' => h_figN (M := M) (Q := Q') (x3 := x3) hab (show 7 + 7 * k < 1000 by omega)
  unfold RH
  have e112 : ¬ (119 : Int32) = 112 := by decide
  have e99 : ¬ (99 : Int32) = 112 := by decide
  have e98 : ¬ (99 : Int32) = 119 := by decide
  rcases h1 with h1 | h1 | h1
  all_goals simp only [q95_0, q95_1, q95_2, q95_3, q95_6, q95_8, q95_11, q95_12, q95_13, q95_14, q95_15, q95_18, q95_19, q95_20, q95_23, q95_24, q95_25, q95_26, q95_29i, q95_29r, q95_29n, q95_31, q95_33, q95_35, q95_38, q95_40, q95_42, q95_45, q95_47, q95_49, q95_52, q95_53, q95_54, q95_55, q95_56, q95_59, q95_60, q95_61, q95_64, q95_65, q95_66, q95_67, q95_68, q95_69, q95_71, q95_74i, q95_74r, q95_74n, q95_76, q95_77, q95_78, q95_79, q95_81, q95_83, q95_86, q95_87, q95_90, q95_91, q95_93, q95_96i, q95_96r, q95_96n, q95_98, q95_99, q95_100, q95_101, q95_103, q95_104, q95_106, q95_109i, q95_109r, q95_109n, q95_111, q95_112, q95_113, q95_114, q95_116, q95_117, q95_118, q95_121i, q95_121r, q95_121n, q95_123, q95_124, q95_125, q95_126, q95_128, q95_129, q95_130, q95_133, q95_134, q95_135, q95_138i, q95_138r, q95_138n, q95_140, q95_141, q95_144, q95_145, q95_147, q95_149, q95_152, q95_153, q95_156, q95_158, q95_160, q95_163, q95_164, q95_167, q95_168, q95_169, q95_170, q95_173, q95_174, q95_176, q95_178, q95_179, q95_181, q95_182, q95_183, q95_184, q95_187, q95_188, q95_190, q95_191, q95_192, q95_195, q95_196, q95_198, q95_199, q95_200, q95_203, q95_204, q95_206, q95_207, q95_209, q95_212, q95_213, q95_216, q95_217, zNC, zcs_0, zcs_i, zcs_r, zcs_l, zpush_0, zpush_i, zpush_l, and_true, true_and, Nat.reduceLT, Nat.reduceLeDiff, Nat.reduceAdd, Nat.reduceMul, reduceIte, ite_true, ite_false, if_true, if_false, not_true_eq_false, not_false_eq_true, false_implies, true_implies, forall_const, implies_true, imp_self, and_self, false_and, and_false, ne_eq, zk_42, zfv_42_0, zf_42_0, zfv_42_1, zf_42_1, zfv_42_2, zf_42_2, zfv_42_3, zfv_42_4, zfv_42_5, zfv_42_6, zfv_42_7, zfv_42_8, zfv_42_9, zf_42_9, zfv_42_10, zf_42_10, zfv_42_11, zf_42_11, zfv_42_12, zfv_42_13, zfv_42_14, zfv_42_15, zfv_42_16, zfv_42_17, zfv_42_18, zf_42_18, zfv_42_19, zf_42_19, zfv_42_20, zfv_42_21, zfv_42_22, zfv_42_23, zf_42_23, zfv_42_24, zfv_42_25, zfv_42_26, zfv_42_27, zfv_42_28, zfv_42_29, zfv_42_30, zfv_42_31, zf_42_31, zk_43, zn_43, zk_44, zn_44, zk_45, zn_45, zk_46, zn_46, zk_47, zn_47, zk_48, zn_48, zk_49, zn_49, zk_50, zn_50, zk_51, zn_51, zk_52, zn_52, zk_53, zn_53, zk_54, zn_54, zk_55, zn_55, zk_56, zn_56, zk_57, zn_57, zk_58, zn_58, zk_59, zn_59, zk_60, zn_60, zk_61, zn_61, zk_62, zn_62, zk_63, zn_63, zk_64, zn_64, zup_zup, e112, e99, e98, h1, c0, c1, n0, n1, r0, r1, m9, m8, hc, hzz, h0, f2, f3, f4, f5, fN, hz]
  all_goals try simp
theorem rh_6z (hab : a + b ≤ 240) (hk : k < h) (hh6 : h ≤ 6) (hH : M 42 11 = nI h) (h0 : fcA M a b (2 + 7 * k) = 59) (h1 : fcA M a b (3 + 7 * k) = 112 ∨ fcA M a b (3 + 7 * k) = 119 ∨ fcA M a b (3 + 7 * k) = 99) (hz : fcA M a b (4 + 7 * k) - 48 = 0) (h2 : (0 ≤ fcA M a b (4 + 7 * k) - 48 ∧ fcA M a b (4 + 7 * k) - 48 ≤ 9)) (h3 : (1 ≤ fcA M a b (5 + 7 * k) - 48 ∧ fcA M a b (5 + 7 * k) - 48 ≤ 9)) (h4 : (0 ≤ fcA M a b (6 + 7 * k) - 48 ∧ fcA M a b (6 + 7 * k) - 48 ≤ 9)) (h5 : (0 ≤ fcA M a b (7 + 7 * k) - 48 ∧ fcA M a b (7 + 7 * k) - 48 ≤ 3)) (h6 : ¬ (0 ≤ fcA M a b (8 + 7 * k) - 48 ∧ fcA M a b (8 + 7 * k) - 48 ≤ nI h - 1)) : zQ 95 0 [.ref 42, .int (nI a), .int (nI b), .int (nI k), .null, .null, .null, .null, .null, .null] [] (zup M 42 10 (nI (2 + 7 * k))) Q ↔ Q (zI 0) (RH M k (8 + 7 * k) (if fcA M a b (3 + 7 * k) = 112 then 0 else if fcA M a b (3 + 7 * k) = 119 then 1 else 2) (10 * (fcA M a b (4 + 7 * k) - 48) + (fcA M a b (5 + 7 * k) - 48)) (fcA M a b (6 + 7 * k) - 48) (fcA M a b (7 + 7 * k) - 48) ((-9))) := by
  have hc : (nI k).toNatClampNeg = k := nI_clamp (by omega)
  have hzz := zin_nI (k := k) (n := 6) (by omega) (by decide)
  have c0 : ∀ Q' : zR → zM → Prop, _ := fun Q' => h_cod (M := M) (Q := Q') hab (show 2 + 7 * k < 1000 by omega)
  have c1 : ∀ Q' : zR → zM → Prop, _ := fun Q' => h_cod (M := M) (Q := Q') hab (show 3 + 7 * k < 1000 by omega)
  have n0 : nI (2 + 7 * k) + 1 = nI (3 + 7 * k) := by rw [nI_1]; congr 1; omega
  have n1 : nI (3 + 7 * k) + 1 = nI (4 + 7 * k) := by rw [nI_1]; congr 1; omega
  have r0 : ∀ v, zup M 42 10 v 42 10 = v := fun v => by rw [zup_app, if_pos rfl, if_pos rfl]
  have r1 : ∀ v, zup M 42 10 v 42 11 = nI h := fun v => hH
  have m9 : ¬ (-9 : Int32) = 0 := by decide
  have m8 : (-9 : Int32) < 0 := by decide
  have f2 : ∀ Q' : zR → zM → Prop, _ := fun Q' => h_figT (M := M) (Q := Q') (x1 := 0) (x2 := 0) (x3 := 9) (p := 5 + 7 * k) hab (show 4 + 7 * k < 1000 by omega) (by decide) h2 (by omega)
  have f3 : ∀ Q' : zR → zM → Prop, _ := fun Q' => h_figT (M := M) (Q := Q') (x1 := 0) (x2 := 1) (x3 := 9) (p := 6 + 7 * k) hab (show 5 + 7 * k < 1000 by omega) (by decide) h3 (by omega)
  have f4 : ∀ Q' : zR → zM → Prop, _ := fun Q' => h_figT (M := M) (Q := Q') (x1 := fcA M a b (5 + 7 * k) - 48) (x2 := 0) (x3 := 9) (p := 7 + 7 * k) hab (show 6 + 7 * k < 1000 by omega) (i_trans (by decide) h3.1) h4 (by omega)
  have f5 : ∀ Q' : zR → zM → Prop, _ := fun Q' => h_figT (M := M) (Q := Q') (x1 := fcA M a b (6 + 7 * k) - 48) (x2 := 0) (x3 := 3) (p := 8 + 7 * k) hab (show 7 + 7 * k < 1000 by omega) (i_trans (by decide) h4.1) h5 (by omega)
  have f6 : ∀ Q' : zR → zM → Prop, _ := fun Q' => h_figF (M := M) (Q := Q') (x1 := fcA M a b (7 + 7 * k) - 48) (x2 := 0) (x3 := nI h - 1) hab (show 8 + 7 * k < 1000 by omega) (i_trans (by decide) h5.1) h6
  unfold RH
  have e112 : ¬ (119 : Int32) = 112 := by decide
  have e99 : ¬ (99 : Int32) = 112 := by decide
  have e98 : ¬ (99 : Int32) = 119 := by decide
  rcases h1 with h1 | h1 | h1
  all_goals simp only [q95_0, q95_1, q95_2, q95_3, q95_6, q95_8, q95_11, q95_12, q95_13, q95_14, q95_15, q95_18, q95_19, q95_20, q95_23, q95_24, q95_25, q95_26, q95_29i, q95_29r, q95_29n, q95_31, q95_33, q95_35, q95_38, q95_40, q95_42, q95_45, q95_47, q95_49, q95_52, q95_53, q95_54, q95_55, q95_56, q95_59, q95_60, q95_61, q95_64, q95_65, q95_66, q95_67, q95_68, q95_69, q95_71, q95_74i, q95_74r, q95_74n, q95_76, q95_77, q95_78, q95_79, q95_81, q95_83, q95_86, q95_87, q95_90, q95_91, q95_93, q95_96i, q95_96r, q95_96n, q95_98, q95_99, q95_100, q95_101, q95_103, q95_104, q95_106, q95_109i, q95_109r, q95_109n, q95_111, q95_112, q95_113, q95_114, q95_116, q95_117, q95_118, q95_121i, q95_121r, q95_121n, q95_123, q95_124, q95_125, q95_126, q95_128, q95_129, q95_130, q95_133, q95_134, q95_135, q95_138i, q95_138r, q95_138n, q95_140, q95_141, q95_144, q95_145, q95_147, q95_149, q95_152, q95_153, q95_156, q95_158, q95_160, q95_163, q95_164, q95_167, q95_168, q95_169, q95_170, q95_173, q95_174, q95_176, q95_178, q95_179, q95_181, q95_182, q95_183, q95_184, q95_187, q95_188, q95_190, q95_191, q95_192, q95_195, q95_196, q95_198, q95_199, q95_200, q95_203, q95_204, q95_206, q95_207, q95_209, q95_212, q95_213, q95_216, q95_217, zNC, zcs_0, zcs_i, zcs_r, zcs_l, zpush_0, zpush_i, zpush_l, and_true, true_and, Nat.reduceLT, Nat.reduceLeDiff, Nat.reduceAdd, Nat.reduceMul, reduceIte, ite_true, ite_false, if_true, if_false, not_true_eq_false, not_false_eq_true, false_implies, true_implies, forall_const, implies_true, imp_self, and_self, false_and, and_false, ne_eq, zk_42, zfv_42_0, zf_42_0, zfv_42_1, zf_42_1, zfv_42_2, zf_42_2, zfv_42_3, zfv_42_4, zfv_42_5, zfv_42_6, zfv_42_7, zfv_42_8, zfv_42_9, zf_42_9, zfv_42_10, zf_42_10, zfv_42_11, zf_42_11, zfv_42_12, zfv_42_13, zfv_42_14, zfv_42_15, zfv_42_16, zfv_42_17, zfv_42_18, zf_42_18, zfv_42_19, zf_42_19, zfv_42_20, zfv_42_21, zfv_42_22, zfv_42_23, zf_42_23, zfv_42_24, zfv_42_25, zfv_42_26, zfv_42_27, zfv_42_28, zfv_42_29, zfv_42_30, zfv_42_31, zf_42_31, zk_43, zn_43, zk_44, zn_44, zk_45, zn_45, zk_46, zn_46, zk_47, zn_47, zk_48, zn_48, zk_49, zn_49, zk_50, zn_50, zk_51, zn_51, zk_52, zn_52, zk_53, zn_53, zk_54, zn_54, zk_55, zn_55, zk_56, zn_56, zk_57, zn_57, zk_58, zn_58, zk_59, zn_59, zk_60, zn_60, zk_61, zn_61, zk_62, zn_62, zk_63, zn_63, zk_64, zn_64, zup_zup, e112, e99, e98, h1, c0, c1, n0, n1, r0, r1, m9, m8, hc, hzz, h0, f2, f3, f4, f5, f6, hz]
  all_goals try simp
theorem rh_6n (hab : a + b ≤ 240) (hk : k < h) (hh6 : h ≤ 6) (hH : M 42 11 = nI h) (h0 : fcA M a b (2 + 7 * k) = 59) (h1 : fcA M a b (3 + 7 * k) = 112 ∨ fcA M a b (3 + 7 * k) = 119 ∨ fcA M a b (3 + 7 * k) = 99) (hz : ¬ fcA M a b (4 + 7 * k) - 48 = 0) (h2 : (0 ≤ fcA M a b (4 + 7 * k) - 48 ∧ fcA M a b (4 + 7 * k) - 48 ≤ 9)) (h3 : (0 ≤ fcA M a b (5 + 7 * k) - 48 ∧ fcA M a b (5 + 7 * k) - 48 ≤ 9)) (h4 : (0 ≤ fcA M a b (6 + 7 * k) - 48 ∧ fcA M a b (6 + 7 * k) - 48 ≤ 9)) (h5 : (0 ≤ fcA M a b (7 + 7 * k) - 48 ∧ fcA M a b (7 + 7 * k) - 48 ≤ 3)) (h6 : ¬ (0 ≤ fcA M a b (8 + 7 * k) - 48 ∧ fcA M a b (8 + 7 * k) - 48 ≤ nI h - 1)) : zQ 95 0 [.ref 42, .int (nI a), .int (nI b), .int (nI k), .null, .null, .null, .null, .null, .null] [] (zup M 42 10 (nI (2 + 7 * k))) Q ↔ Q (zI 0) (RH M k (8 + 7 * k) (if fcA M a b (3 + 7 * k) = 112 then 0 else if fcA M a b (3 + 7 * k) = 119 then 1 else 2) (10 * (fcA M a b (4 + 7 * k) - 48) + (fcA M a b (5 + 7 * k) - 48)) (fcA M a b (6 + 7 * k) - 48) (fcA M a b (7 + 7 * k) - 48) ((-9))) := by
  have hc : (nI k).toNatClampNeg = k := nI_clamp (by omega)
  have hzz := zin_nI (k := k) (n := 6) (by omega) (by decide)
  have c0 : ∀ Q' : zR → zM → Prop, _ := fun Q' => h_cod (M := M) (Q := Q') hab (show 2 + 7 * k < 1000 by omega)
  have c1 : ∀ Q' : zR → zM → Prop, _ := fun Q' => h_cod (M := M) (Q := Q') hab (show 3 + 7 * k < 1000 by omega)
  have n0 : nI (2 + 7 * k) + 1 = nI (3 + 7 * k) := by rw [nI_1]; congr 1; omega
  have n1 : nI (3 + 7 * k) + 1 = nI (4 + 7 * k) := by rw [nI_1]; congr 1; omega
  have r0 : ∀ v, zup M 42 10 v 42 10 = v := fun v => by rw [zup_app, if_pos rfl, if_pos rfl]
  have r1 : ∀ v, zup M 42 10 v 42 11 = nI h := fun v => hH
  have m9 : ¬ (-9 : Int32) = 0 := by decide
  have m8 : (-9 : Int32) < 0 := by decide
  have f2 : ∀ Q' : zR → zM → Prop, _ := fun Q' => h_figT (M := M) (Q := Q') (x1 := 0) (x2 := 0) (x3 := 9) (p := 5 + 7 * k) hab (show 4 + 7 * k < 1000 by omega) (by decide) h2 (by omega)
  have f3 : ∀ Q' : zR → zM → Prop, _ := fun Q' => h_figT (M := M) (Q := Q') (x1 := fcA M a b (4 + 7 * k) - 48) (x2 := 0) (x3 := 9) (p := 6 + 7 * k) hab (show 5 + 7 * k < 1000 by omega) (i_trans (by decide) h2.1) h3 (by omega)
  have f4 : ∀ Q' : zR → zM → Prop, _ := fun Q' => h_figT (M := M) (Q := Q') (x1 := fcA M a b (5 + 7 * k) - 48) (x2 := 0) (x3 := 9) (p := 7 + 7 * k) hab (show 6 + 7 * k < 1000 by omega) (i_trans (by decide) h3.1) h4 (by omega)
  have f5 : ∀ Q' : zR → zM → Prop, _ := fun Q' => h_figT (M := M) (Q := Q') (x1 := fcA M a b (6 + 7 * k) - 48) (x2 := 0) (x3 := 3) (p := 8 + 7 * k) hab (show 7 + 7 * k < 1000 by omega) (i_trans (by decide) h4.1) h5 (by omega)
  have f6 : ∀ Q' : zR → zM → Prop, _ := fun Q' => h_figF (M := M) (Q := Q') (x1 := fcA M a b (7 + 7 * k) - 48) (x2 := 0) (x3 := nI h - 1) hab (show 8 + 7 * k < 1000 by omega) (i_trans (by decide) h5.1) h6
  unfold RH
  have e112 : ¬ (119 : Int32) = 112 := by decide
  have e99 : ¬ (99 : Int32) = 112 := by decide
  have e98 : ¬ (99 : Int32) = 119 := by decide
  rcases h1 with h1 | h1 | h1
  all_goals simp only [q95_0, q95_1, q95_2, q95_3, q95_6, q95_8, q95_11, q95_12, q95_13, q95_14, q95_15, q95_18, q95_19, q95_20, q95_23, q95_24, q95_25, q95_26, q95_29i, q95_29r, q95_29n, q95_31, q95_33, q95_35, q95_38, q95_40, q95_42, q95_45, q95_47, q95_49, q95_52, q95_53, q95_54, q95_55, q95_56, q95_59, q95_60, q95_61, q95_64, q95_65, q95_66, q95_67, q95_68, q95_69, q95_71, q95_74i, q95_74r, q95_74n, q95_76, q95_77, q95_78, q95_79, q95_81, q95_83, q95_86, q95_87, q95_90, q95_91, q95_93, q95_96i, q95_96r, q95_96n, q95_98, q95_99, q95_100, q95_101, q95_103, q95_104, q95_106, q95_109i, q95_109r, q95_109n, q95_111, q95_112, q95_113, q95_114, q95_116, q95_117, q95_118, q95_121i, q95_121r, q95_121n, q95_123, q95_124, q95_125, q95_126, q95_128, q95_129, q95_130, q95_133, q95_134, q95_135, q95_138i, q95_138r, q95_138n, q95_140, q95_141, q95_144, q95_145, q95_147, q95_149, q95_152, q95_153, q95_156, q95_158, q95_160, q95_163, q95_164, q95_167, q95_168, q95_169, q95_170, q95_173, q95_174, q95_176, q95_178, q95_179, q95_181, q95_182, q95_183, q95_184, q95_187, q95_188, q95_190, q95_191, q95_192, q95_195, q95_196, q95_198, q95_199, q95_200, q95_203, q95_204, q95_206, q95_207, q95_209, q95_212, q95_213, q95_216, q95_217, zNC, zcs_0, zcs_i, zcs_r, zcs_l, zpush_0, zpush_i, zpush_l, and_true, true_and, Nat.reduceLT, Nat.reduceLeDiff, Nat.reduceAdd, Nat.reduceMul, reduceIte, ite_true, ite_false, if_true, if_false, not_true_eq_false, not_false_eq_true, false_implies, true_implies, forall_const, implies_true, imp_self, and_self, false_and, and_false, ne_eq, zk_42, zfv_42_0, zf_42_0, zfv_42_1, zf_42_1, zfv_42_2, zf_42_2, zfv_42_3, zfv_42_4, zfv_42_5, zfv_42_6, zfv_42_7, zfv_42_8, zfv_42_9, zf_42_9, zfv_42_10, zf_42_10, zfv_42_11, zf_42_11, zfv_42_12, zfv_42_13, zfv_42_14, zfv_42_15, zfv_42_16, zfv_42_17, zfv_42_18, zf_42_18, zfv_42_19, zf_42_19, zfv_42_20, zfv_42_21, zfv_42_22, zfv_42_23, zf_42_23, zfv_42_24, zfv_42_25, zfv_42_26, zfv_42_27, zfv_42_28, zfv_42_29, zfv_42_30, zfv_42_31, zf_42_31, zk_43, zn_43, zk_44, zn_44, zk_45, zn_45, zk_46, zn_46, zk_47, zn_47, zk_48, zn_48, zk_49, zn_49, zk_50, zn_50, zk_51, zn_51, zk_52, zn_52, zk_53, zn_53, zk_54, zn_54, zk_55, zn_55, zk_56, zn_56, zk_57, zn_57, zk_58, zn_58, zk_59, zn_59, zk_60, zn_60, zk_61, zn_61, zk_62, zn_62, zk_63, zn_63, zk_64, zn_64, zup_zup, e112, e99, e98, h1, c0, c1, n0, n1, r0, r1, m9, m8, hc, hzz, h0, f2, f3, f4, f5, f6, hz]
  all_goals try simp
theorem rh_7z (hab : a + b ≤ 240) (hk : k < h) (hh6 : h ≤ 6) (hH : M 42 11 = nI h) (h0 : fcA M a b (2 + 7 * k) = 59) (h1 : fcA M a b (3 + 7 * k) = 112 ∨ fcA M a b (3 + 7 * k) = 119 ∨ fcA M a b (3 + 7 * k) = 99) (hz : fcA M a b (4 + 7 * k) - 48 = 0) (h2 : (0 ≤ fcA M a b (4 + 7 * k) - 48 ∧ fcA M a b (4 + 7 * k) - 48 ≤ 9)) (h3 : (1 ≤ fcA M a b (5 + 7 * k) - 48 ∧ fcA M a b (5 + 7 * k) - 48 ≤ 9)) (h4 : (0 ≤ fcA M a b (6 + 7 * k) - 48 ∧ fcA M a b (6 + 7 * k) - 48 ≤ 9)) (h5 : (0 ≤ fcA M a b (7 + 7 * k) - 48 ∧ fcA M a b (7 + 7 * k) - 48 ≤ 3)) (h6 : (0 ≤ fcA M a b (8 + 7 * k) - 48 ∧ fcA M a b (8 + 7 * k) - 48 ≤ nI h - 1)) : zQ 95 0 [.ref 42, .int (nI a), .int (nI b), .int (nI k), .null, .null, .null, .null, .null, .null] [] (zup M 42 10 (nI (2 + 7 * k))) Q ↔ Q (zI 1) (RH M k (9 + 7 * k) (if fcA M a b (3 + 7 * k) = 112 then 0 else if fcA M a b (3 + 7 * k) = 119 then 1 else 2) (10 * (fcA M a b (4 + 7 * k) - 48) + (fcA M a b (5 + 7 * k) - 48)) (fcA M a b (6 + 7 * k) - 48) (fcA M a b (7 + 7 * k) - 48) (fcA M a b (8 + 7 * k) - 48)) := by
  have hc : (nI k).toNatClampNeg = k := nI_clamp (by omega)
  have hzz := zin_nI (k := k) (n := 6) (by omega) (by decide)
  have c0 : ∀ Q' : zR → zM → Prop, _ := fun Q' => h_cod (M := M) (Q := Q') hab (show 2 + 7 * k < 1000 by omega)
  have c1 : ∀ Q' : zR → zM → Prop, _ := fun Q' => h_cod (M := M) (Q := Q') hab (show 3 + 7 * k < 1000 by omega)
  have n0 : nI (2 + 7 * k) + 1 = nI (3 + 7 * k) := by rw [nI_1]; congr 1; omega
  have n1 : nI (3 + 7 * k) + 1 = nI (4 + 7 * k) := by rw [nI_1]; congr 1; omega
  have r0 : ∀ v, zup M 42 10 v 42 10 = v := fun v => by rw [zup_app, if_pos rfl, if_pos rfl]
  have r1 : ∀ v, zup M 42 10 v 42 11 = nI h := fun v => hH
  have m9 : ¬ (-9 : Int32) = 0 := by decide
  have m8 : (-9 : Int32) < 0 := by decide
  have f2 : ∀ Q' : zR → zM → Prop, _ := fun Q' => h_figT (M := M) (Q := Q') (x1 := 0) (x2 := 0) (x3 := 9) (p := 5 + 7 * k) hab (show 4 + 7 * k < 1000 by omega) (by decide) h2 (by omega)
  have f3 : ∀ Q' : zR → zM → Prop, _ := fun Q' => h_figT (M := M) (Q := Q') (x1 := 0) (x2 := 1) (x3 := 9) (p := 6 + 7 * k) hab (show 5 + 7 * k < 1000 by omega) (by decide) h3 (by omega)
  have f4 : ∀ Q' : zR → zM → Prop, _ := fun Q' => h_figT (M := M) (Q := Q') (x1 := fcA M a b (5 + 7 * k) - 48) (x2 := 0) (x3 := 9) (p := 7 + 7 * k) hab (show 6 + 7 * k < 1000 by omega) (i_trans (by decide) h3.1) h4 (by omega)
  have f5 : ∀ Q' : zR → zM → Prop, _ := fun Q' => h_figT (M := M) (Q := Q') (x1 := fcA M a b (6 + 7 * k) - 48) (x2 := 0) (x3 := 3) (p := 8 + 7 * k) hab (show 7 + 7 * k < 1000 by omega) (i_trans (by decide) h4.1) h5 (by omega)
  have f6 : ∀ Q' : zR → zM → Prop, _ := fun Q' => h_figT (M := M) (Q := Q') (x1 := fcA M a b (7 + 7 * k) - 48) (x2 := 0) (x3 := nI h - 1) (p := 9 + 7 * k) hab (show 8 + 7 * k < 1000 by omega) (i_trans (by decide) h5.1) h6 (by omega)
  have k9 : ¬ fcA M a b (8 + 7 * k) - 48 < 0 := by have := h6.1; simp only [fa_le, fa_lt] at *; omega
  unfold RH
  have e112 : ¬ (119 : Int32) = 112 := by decide
  have e99 : ¬ (99 : Int32) = 112 := by decide
  have e98 : ¬ (99 : Int32) = 119 := by decide
  rcases h1 with h1 | h1 | h1
  all_goals simp only [q95_0, q95_1, q95_2, q95_3, q95_6, q95_8, q95_11, q95_12, q95_13, q95_14, q95_15, q95_18, q95_19, q95_20, q95_23, q95_24, q95_25, q95_26, q95_29i, q95_29r, q95_29n, q95_31, q95_33, q95_35, q95_38, q95_40, q95_42, q95_45, q95_47, q95_49, q95_52, q95_53, q95_54, q95_55, q95_56, q95_59, q95_60, q95_61, q95_64, q95_65, q95_66, q95_67, q95_68, q95_69, q95_71, q95_74i, q95_74r, q95_74n, q95_76, q95_77, q95_78, q95_79, q95_81, q95_83, q95_86, q95_87, q95_90, q95_91, q95_93, q95_96i, q95_96r, q95_96n, q95_98, q95_99, q95_100, q95_101, q95_103, q95_104, q95_106, q95_109i, q95_109r, q95_109n, q95_111, q95_112, q95_113, q95_114, q95_116, q95_117, q95_118, q95_121i, q95_121r, q95_121n, q95_123, q95_124, q95_125, q95_126, q95_128, q95_129, q95_130, q95_133, q95_134, q95_135, q95_138i, q95_138r, q95_138n, q95_140, q95_141, q95_144, q95_145, q95_147, q95_149, q95_152, q95_153, q95_156, q95_158, q95_160, q95_163, q95_164, q95_167, q95_168, q95_169, q95_170, q95_173, q95_174, q95_176, q95_178, q95_179, q95_181, q95_182, q95_183, q95_184, q95_187, q95_188, q95_190, q95_191, q95_192, q95_195, q95_196, q95_198, q95_199, q95_200, q95_203, q95_204, q95_206, q95_207, q95_209, q95_212, q95_213, q95_216, q95_217, zNC, zcs_0, zcs_i, zcs_r, zcs_l, zpush_0, zpush_i, zpush_l, and_true, true_and, Nat.reduceLT, Nat.reduceLeDiff, Nat.reduceAdd, Nat.reduceMul, reduceIte, ite_true, ite_false, if_true, if_false, not_true_eq_false, not_false_eq_true, false_implies, true_implies, forall_const, implies_true, imp_self, and_self, false_and, and_false, ne_eq, zk_42, zfv_42_0, zf_42_0, zfv_42_1, zf_42_1, zfv_42_2, zf_42_2, zfv_42_3, zfv_42_4, zfv_42_5, zfv_42_6, zfv_42_7, zfv_42_8, zfv_42_9, zf_42_9, zfv_42_10, zf_42_10, zfv_42_11, zf_42_11, zfv_42_12, zfv_42_13, zfv_42_14, zfv_42_15, zfv_42_16, zfv_42_17, zfv_42_18, zf_42_18, zfv_42_19, zf_42_19, zfv_42_20, zfv_42_21, zfv_42_22, zfv_42_23, zf_42_23, zfv_42_24, zfv_42_25, zfv_42_26, zfv_42_27, zfv_42_28, zfv_42_29, zfv_42_30, zfv_42_31, zf_42_31, zk_43, zn_43, zk_44, zn_44, zk_45, zn_45, zk_46, zn_46, zk_47, zn_47, zk_48, zn_48, zk_49, zn_49, zk_50, zn_50, zk_51, zn_51, zk_52, zn_52, zk_53, zn_53, zk_54, zn_54, zk_55, zn_55, zk_56, zn_56, zk_57, zn_57, zk_58, zn_58, zk_59, zn_59, zk_60, zn_60, zk_61, zn_61, zk_62, zn_62, zk_63, zn_63, zk_64, zn_64, zup_zup, e112, e99, e98, h1, c0, c1, n0, n1, r0, r1, m9, m8, hc, hzz, h0, f2, f3, f4, f5, f6, hz, k9]
  all_goals try simp
theorem rh_7n (hab : a + b ≤ 240) (hk : k < h) (hh6 : h ≤ 6) (hH : M 42 11 = nI h) (h0 : fcA M a b (2 + 7 * k) = 59) (h1 : fcA M a b (3 + 7 * k) = 112 ∨ fcA M a b (3 + 7 * k) = 119 ∨ fcA M a b (3 + 7 * k) = 99) (hz : ¬ fcA M a b (4 + 7 * k) - 48 = 0) (h2 : (0 ≤ fcA M a b (4 + 7 * k) - 48 ∧ fcA M a b (4 + 7 * k) - 48 ≤ 9)) (h3 : (0 ≤ fcA M a b (5 + 7 * k) - 48 ∧ fcA M a b (5 + 7 * k) - 48 ≤ 9)) (h4 : (0 ≤ fcA M a b (6 + 7 * k) - 48 ∧ fcA M a b (6 + 7 * k) - 48 ≤ 9)) (h5 : (0 ≤ fcA M a b (7 + 7 * k) - 48 ∧ fcA M a b (7 + 7 * k) - 48 ≤ 3)) (h6 : (0 ≤ fcA M a b (8 + 7 * k) - 48 ∧ fcA M a b (8 + 7 * k) - 48 ≤ nI h - 1)) : zQ 95 0 [.ref 42, .int (nI a), .int (nI b), .int (nI k), .null, .null, .null, .null, .null, .null] [] (zup M 42 10 (nI (2 + 7 * k))) Q ↔ Q (zI 1) (RH M k (9 + 7 * k) (if fcA M a b (3 + 7 * k) = 112 then 0 else if fcA M a b (3 + 7 * k) = 119 then 1 else 2) (10 * (fcA M a b (4 + 7 * k) - 48) + (fcA M a b (5 + 7 * k) - 48)) (fcA M a b (6 + 7 * k) - 48) (fcA M a b (7 + 7 * k) - 48) (fcA M a b (8 + 7 * k) - 48)) := by
  have hc : (nI k).toNatClampNeg = k := nI_clamp (by omega)
  have hzz := zin_nI (k := k) (n := 6) (by omega) (by decide)
  have c0 : ∀ Q' : zR → zM → Prop, _ := fun Q' => h_cod (M := M) (Q := Q') hab (show 2 + 7 * k < 1000 by omega)
  have c1 : ∀ Q' : zR → zM → Prop, _ := fun Q' => h_cod (M := M) (Q := Q') hab (show 3 + 7 * k < 1000 by omega)
  have n0 : nI (2 + 7 * k) + 1 = nI (3 + 7 * k) := by rw [nI_1]; congr 1; omega
  have n1 : nI (3 + 7 * k) + 1 = nI (4 + 7 * k) := by rw [nI_1]; congr 1; omega
  have r0 : ∀ v, zup M 42 10 v 42 10 = v := fun v => by rw [zup_app, if_pos rfl, if_pos rfl]
  have r1 : ∀ v, zup M 42 10 v 42 11 = nI h := fun v => hH
  have m9 : ¬ (-9 : Int32) = 0 := by decide
  have m8 : (-9 : Int32) < 0 := by decide
  have f2 : ∀ Q' : zR → zM → Prop, _ := fun Q' => h_figT (M := M) (Q := Q') (x1 := 0) (x2 := 0) (x3 := 9) (p := 5 + 7 * k) hab (show 4 + 7 * k < 1000 by omega) (by decide) h2 (by omega)
  have f3 : ∀ Q' : zR → zM → Prop, _ := fun Q' => h_figT (M := M) (Q := Q') (x1 := fcA M a b (4 + 7 * k) - 48) (x2 := 0) (x3 := 9) (p := 6 + 7 * k) hab (show 5 + 7 * k < 1000 by omega) (i_trans (by decide) h2.1) h3 (by omega)
  have f4 : ∀ Q' : zR → zM → Prop, _ := fun Q' => h_figT (M := M) (Q := Q') (x1 := fcA M a b (5 + 7 * k) - 48) (x2 := 0) (x3 := 9) (p := 7 + 7 * k) hab (show 6 + 7 * k < 1000 by omega) (i_trans (by decide) h3.1) h4 (by omega)
  have f5 : ∀ Q' : zR → zM → Prop, _ := fun Q' => h_figT (M := M) (Q := Q') (x1 := fcA M a b (6 + 7 * k) - 48) (x2 := 0) (x3 := 3) (p := 8 + 7 * k) hab (show 7 + 7 * k < 1000 by omega) (i_trans (by decide) h4.1) h5 (by omega)
  have f6 : ∀ Q' : zR → zM → Prop, _ := fun Q' => h_figT (M := M) (Q := Q') (x1 := fcA M a b (7 + 7 * k) - 48) (x2 := 0) (x3 := nI h - 1) (p := 9 + 7 * k) hab (show 8 + 7 * k < 1000 by omega) (i_trans (by decide) h5.1) h6 (by omega)
  have k9 : ¬ fcA M a b (8 + 7 * k) - 48 < 0 := by have := h6.1; simp only [fa_le, fa_lt] at *; omega
  unfold RH
  have e112 : ¬ (119 : Int32) = 112 := by decide
  have e99 : ¬ (99 : Int32) = 112 := by decide
  have e98 : ¬ (99 : Int32) = 119 := by decide
  rcases h1 with h1 | h1 | h1
  all_goals simp only [q95_0, q95_1, q95_2, q95_3, q95_6, q95_8, q95_11, q95_12, q95_13, q95_14, q95_15, q95_18, q95_19, q95_20, q95_23, q95_24, q95_25, q95_26, q95_29i, q95_29r, q95_29n, q95_31, q95_33, q95_35, q95_38, q95_40, q95_42, q95_45, q95_47, q95_49, q95_52, q95_53, q95_54, q95_55, q95_56, q95_59, q95_60, q95_61, q95_64, q95_65, q95_66, q95_67, q95_68, q95_69, q95_71, q95_74i, q95_74r, q95_74n, q95_76, q95_77, q95_78, q95_79, q95_81, q95_83, q95_86, q95_87, q95_90, q95_91, q95_93, q95_96i, q95_96r, q95_96n, q95_98, q95_99, q95_100, q95_101, q95_103, q95_104, q95_106, q95_109i, q95_109r, q95_109n, q95_111, q95_112, q95_113, q95_114, q95_116, q95_117, q95_118, q95_121i, q95_121r, q95_121n, q95_123, q95_124, q95_125, q95_126, q95_128, q95_129, q95_130, q95_133, q95_134, q95_135, q95_138i, q95_138r, q95_138n, q95_140, q95_141, q95_144, q95_145, q95_147, q95_149, q95_152, q95_153, q95_156, q95_158, q95_160, q95_163, q95_164, q95_167, q95_168, q95_169, q95_170, q95_173, q95_174, q95_176, q95_178, q95_179, q95_181, q95_182, q95_183, q95_184, q95_187, q95_188, q95_190, q95_191, q95_192, q95_195, q95_196, q95_198, q95_199, q95_200, q95_203, q95_204, q95_206, q95_207, q95_209, q95_212, q95_213, q95_216, q95_217, zNC, zcs_0, zcs_i, zcs_r, zcs_l, zpush_0, zpush_i, zpush_l, and_true, true_and, Nat.reduceLT, Nat.reduceLeDiff, Nat.reduceAdd, Nat.reduceMul, reduceIte, ite_true, ite_false, if_true, if_false, not_true_eq_false, not_false_eq_true, false_implies, true_implies, forall_const, implies_true, imp_self, and_self, false_and, and_false, ne_eq, zk_42, zfv_42_0, zf_42_0, zfv_42_1, zf_42_1, zfv_42_2, zf_42_2, zfv_42_3, zfv_42_4, zfv_42_5, zfv_42_6, zfv_42_7, zfv_42_8, zfv_42_9, zf_42_9, zfv_42_10, zf_42_10, zfv_42_11, zf_42_11, zfv_42_12, zfv_42_13, zfv_42_14, zfv_42_15, zfv_42_16, zfv_42_17, zfv_42_18, zf_42_18, zfv_42_19, zf_42_19, zfv_42_20, zfv_42_21, zfv_42_22, zfv_42_23, zf_42_23, zfv_42_24, zfv_42_25, zfv_42_26, zfv_42_27, zfv_42_28, zfv_42_29, zfv_42_30, zfv_42_31, zf_42_31, zk_43, zn_43, zk_44, zn_44, zk_45, zn_45, zk_46, zn_46, zk_47, zn_47, zk_48, zn_48, zk_49, zn_49, zk_50, zn_50, zk_51, zn_51, zk_52, zn_52, zk_53, zn_53, zk_54, zn_54, zk_55, zn_55, zk_56, zn_56, zk_57, zn_57, zk_58, zn_58, zk_59, zn_59, zk_60, zn_60, zk_61, zn_61, zk_62, zn_62, zk_63, zn_63, zk_64, zn_64, zup_zup, e112, e99, e98, h1, c0, c1, n0, n1, r0, r1, m9, m8, hc, hzz, h0, f2, f3, f4, f5, f6, hz, k9]
  all_goals try simp
end IV
