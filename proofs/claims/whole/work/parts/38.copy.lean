section IV
variable {M M' : zM} {h y lw c k t a b o n : Nat} {Q : zR → zM → Prop}
theorem znf : nativeFrameWords "java/lang/System" "arraycopy" 5 = 7 := by decide +kernel
theorem zlo_67 : zlo 67 = 48 := rfl
theorem zfr_67 : zfr 67 = 1 := rfl
def frh (M : zM) (k a p : Nat) : Nat → Int32 := fun z => if z < p then M 63 (60 * k + a + z) else M 64 z
def frc (M : zM) (o b p : Nat) : Nat → Int32 := fun z => if 60 * o + b ≤ z ∧ z < 60 * o + b + p then M 64 (z - (60 * o + b)) else M 63 z
theorem frh_0 : zrow M 64 (frh M k a 0) = M := by
  funext e
  unfold zrow frh
  split
  · rename_i e1; rw [e1]; funext i; rw [if_neg (by omega)]
  · rfl
theorem frh_s (p : Nat) : zup (zrow M 64 (frh M k a p)) 64 p (M 63 (60 * k + a + p)) = zrow M 64 (frh M k a (p + 1)) := by
  funext e
  unfold zup zrow
  split
  · rw [if_pos rfl]
    funext i
    unfold upd frh
    by_cases e : i = p
    · subst e; rw [if_pos rfl, if_pos (by omega)]
    · rw [if_neg e]
      by_cases e2 : i < p
      · rw [if_pos e2, if_pos (by omega)]
      · rw [if_neg e2, if_neg (by omega)]
  · rfl
theorem frc_0 : zrow M 63 (frc M o b 0) = M := by
  funext e
  unfold zrow frc
  split
  · rename_i e1; rw [e1]; funext i; rw [if_neg (by omega)]
  · rfl
theorem frc_s (p : Nat) : zup (zrow M 63 (frc M o b p)) 63 (60 * o + b + p) (M 64 p) = zrow M 63 (frc M o b (p + 1)) := by
  funext e
  unfold zup zrow
  split
  · rw [if_pos rfl]
    funext i
    unfold upd frc
    by_cases e : i = 60 * o + b + p
    · subst e; rw [if_pos rfl, if_pos (by omega)]; congr 1; omega
    · rw [if_neg e]
      by_cases e2 : 60 * o + b ≤ i ∧ i < 60 * o + b + p
      · rw [if_pos e2, if_pos (by omega)]
      · rw [if_neg e2, if_neg (by omega)]
  · rfl
theorem l_copy1 (hk : k < 4) (hab : a + n ≤ 60) {x3 x4 : Int32} : ∀ d p, p + d = n → (zQ 148 107 [.ref 42, .int (nI k), .int (nI a), .int x3, .int x4, .int (nI n), .int (nI p)] [] (zrow M 64 (frh M k a p)) Q ↔ zQ 148 141 [.ref 42, .int (nI k), .int (nI a), .int x3, .int x4, .int (nI n), .int (nI n)] [] (zrow M 64 (frh M k a n)) Q) := by
  intro d
  induction d with
  | zero =>
    intro p hp
    obtain rfl : p = n := by omega
    rw [q148_107]
    simp only [q148_0, q148_1, q148_4, q148_7, q148_8, q148_11, q148_14, q148_15, q148_16, q148_19, q148_20, q148_21, q148_24, q148_25, q148_26, q148_29, q148_30, q148_33, q148_34, q148_35, q148_38, q148_39, q148_40, q148_43, q148_44, q148_45, q148_48, q148_49, q148_50, q148_51, q148_54, q148_55, q148_56, q148_59, q148_60, q148_61, q148_64, q148_65, q148_66, q148_68, q148_69, q148_70, q148_73, q148_74, q148_75, q148_78, q148_81, q148_83, q148_85, q148_86, q148_87, q148_90, q148_91, q148_92, q148_95, q148_98, q148_99, q148_100, q148_103, q148_104, q148_105i, q148_105r, q148_105n, q148_109, q148_111, q148_114, q148_115, q148_118, q148_120, q148_121, q148_124, q148_126, q148_127, q148_128, q148_129, q148_130, q148_132, q148_133, q148_134, q148_135i, q148_135r, q148_135n, q148_138, q148_142i, q148_142r, q148_142n, q148_146, q148_148, q148_151, q148_152, q148_155, q148_157, q148_158, q148_159, q148_161, q148_162, q148_164, q148_165, q148_166, q148_169, q148_171, q148_172, q148_173i, q148_173r, q148_173n, q148_176, q148_179, q148_180, q148_182, q148_185, zNC, zcs_0, zcs_i, zcs_r, zcs_l, zpush_0, zpush_i, zpush_l, and_true, true_and, Nat.reduceLT, Nat.reduceLeDiff, Nat.reduceAdd, Nat.reduceMul, reduceIte, ite_true, ite_false, if_true, if_false, not_true_eq_false, not_false_eq_true, false_implies, true_implies, forall_const, implies_true, imp_self, and_self, false_and, and_false, ne_eq, zk_42, zfv_42_0, zf_42_0, zfv_42_1, zf_42_1, zfv_42_2, zf_42_2, zfv_42_3, zfv_42_4, zfv_42_5, zfv_42_6, zfv_42_7, zfv_42_8, zfv_42_9, zf_42_9, zfv_42_10, zf_42_10, zfv_42_11, zf_42_11, zfv_42_12, zfv_42_13, zfv_42_14, zfv_42_15, zfv_42_16, zfv_42_17, zfv_42_18, zf_42_18, zfv_42_19, zf_42_19, zfv_42_20, zfv_42_21, zfv_42_22, zfv_42_23, zf_42_23, zfv_42_24, zfv_42_25, zfv_42_26, zfv_42_27, zfv_42_28, zfv_42_29, zfv_42_30, zfv_42_31, zf_42_31, zk_43, zn_43, zk_44, zn_44, zk_45, zn_45, zk_46, zn_46, zk_47, zn_47, zk_48, zn_48, zk_49, zn_49, zk_50, zn_50, zk_51, zn_51, zk_52, zn_52, zk_53, zn_53, zk_54, zn_54, zk_55, zn_55, zk_56, zn_56, zk_57, zn_57, zk_58, zn_58, zk_59, zn_59, zk_60, zn_60, zk_61, zn_61, zk_62, zn_62, zk_63, zn_63, zk_64, zn_64, i_le_refl]
  | succ d ih =>
    intro p hp
    have h1 : ¬ nI n ≤ nI p := nI_ge (by omega) (by omega)
    have e6 : (60 : Int32) * nI k + nI a + nI p = nI (60 * k + a + p) := by show nI 60 * nI k + nI a + nI p = _; rw [pk_mul, nI_add, nI_add]
    have hc : (nI (60 * k + a + p)).toNatClampNeg = 60 * k + a + p := nI_clamp (by omega)
    have hz := zin_nI (k := 60 * k + a + p) (n := 240) (by omega) (by decide)
    have hc2 : (nI p).toNatClampNeg = p := nI_clamp (by omega)
    have hz2 := zin_nI (k := p) (n := 60) (by omega) (by decide)
    have e7 : zrow M 64 (frh M k a p) 63 = M 63 := rfl
    have ih' := ih (p + 1) (by omega)
    rw [← frh_s] at ih'
    rw [q148_107, ← ih']
    simp only [q148_0, q148_1, q148_4, q148_7, q148_8, q148_11, q148_14, q148_15, q148_16, q148_19, q148_20, q148_21, q148_24, q148_25, q148_26, q148_29, q148_30, q148_33, q148_34, q148_35, q148_38, q148_39, q148_40, q148_43, q148_44, q148_45, q148_48, q148_49, q148_50, q148_51, q148_54, q148_55, q148_56, q148_59, q148_60, q148_61, q148_64, q148_65, q148_66, q148_68, q148_69, q148_70, q148_73, q148_74, q148_75, q148_78, q148_81, q148_83, q148_85, q148_86, q148_87, q148_90, q148_91, q148_92, q148_95, q148_98, q148_99, q148_100, q148_103, q148_104, q148_105i, q148_105r, q148_105n, q148_109, q148_111, q148_114, q148_115, q148_118, q148_120, q148_121, q148_124, q148_126, q148_127, q148_128, q148_129, q148_130, q148_132, q148_133, q148_134, q148_135i, q148_135r, q148_135n, q148_138, q148_142i, q148_142r, q148_142n, q148_146, q148_148, q148_151, q148_152, q148_155, q148_157, q148_158, q148_159, q148_161, q148_162, q148_164, q148_165, q148_166, q148_169, q148_171, q148_172, q148_173i, q148_173r, q148_173n, q148_176, q148_179, q148_180, q148_182, q148_185, zNC, zcs_0, zcs_i, zcs_r, zcs_l, zpush_0, zpush_i, zpush_l, and_true, true_and, Nat.reduceLT, Nat.reduceLeDiff, Nat.reduceAdd, Nat.reduceMul, reduceIte, ite_true, ite_false, if_true, if_false, not_true_eq_false, not_false_eq_true, false_implies, true_implies, forall_const, implies_true, imp_self, and_self, false_and, and_false, ne_eq, zk_42, zfv_42_0, zf_42_0, zfv_42_1, zf_42_1, zfv_42_2, zf_42_2, zfv_42_3, zfv_42_4, zfv_42_5, zfv_42_6, zfv_42_7, zfv_42_8, zfv_42_9, zf_42_9, zfv_42_10, zf_42_10, zfv_42_11, zf_42_11, zfv_42_12, zfv_42_13, zfv_42_14, zfv_42_15, zfv_42_16, zfv_42_17, zfv_42_18, zf_42_18, zfv_42_19, zf_42_19, zfv_42_20, zfv_42_21, zfv_42_22, zfv_42_23, zf_42_23, zfv_42_24, zfv_42_25, zfv_42_26, zfv_42_27, zfv_42_28, zfv_42_29, zfv_42_30, zfv_42_31, zf_42_31, zk_43, zn_43, zk_44, zn_44, zk_45, zn_45, zk_46, zn_46, zk_47, zn_47, zk_48, zn_48, zk_49, zn_49, zk_50, zn_50, zk_51, zn_51, zk_52, zn_52, zk_53, zn_53, zk_54, zn_54, zk_55, zn_55, zk_56, zn_56, zk_57, zn_57, zk_58, zn_58, zk_59, zn_59, zk_60, zn_60, zk_61, zn_61, zk_62, zn_62, zk_63, zn_63, zk_64, zn_64, h1, e6, hc, hz, hc2, hz2, e7, nI_1]
theorem l_copy2 (ho : o < 4) (hab : b + n ≤ 60) {x1 x2 : Int32} : ∀ d p, p + d = n → (zQ 148 144 [.ref 42, .int x1, .int x2, .int (nI o), .int (nI b), .int (nI n), .int (nI p)] [] (zrow M 63 (frc M o b p)) Q ↔ Q (zI (nI n)) (zup (zrow M 63 (frc M o b n)) 42 0 0)) := by
  intro d
  induction d with
  | zero =>
    intro p hp
    obtain rfl : p = n := by omega
    rw [q148_144]
    simp only [q148_0, q148_1, q148_4, q148_7, q148_8, q148_11, q148_14, q148_15, q148_16, q148_19, q148_20, q148_21, q148_24, q148_25, q148_26, q148_29, q148_30, q148_33, q148_34, q148_35, q148_38, q148_39, q148_40, q148_43, q148_44, q148_45, q148_48, q148_49, q148_50, q148_51, q148_54, q148_55, q148_56, q148_59, q148_60, q148_61, q148_64, q148_65, q148_66, q148_68, q148_69, q148_70, q148_73, q148_74, q148_75, q148_78, q148_81, q148_83, q148_85, q148_86, q148_87, q148_90, q148_91, q148_92, q148_95, q148_98, q148_99, q148_100, q148_103, q148_104, q148_105i, q148_105r, q148_105n, q148_109, q148_111, q148_114, q148_115, q148_118, q148_120, q148_121, q148_124, q148_126, q148_127, q148_128, q148_129, q148_130, q148_132, q148_133, q148_134, q148_135i, q148_135r, q148_135n, q148_138, q148_142i, q148_142r, q148_142n, q148_146, q148_148, q148_151, q148_152, q148_155, q148_157, q148_158, q148_159, q148_161, q148_162, q148_164, q148_165, q148_166, q148_169, q148_171, q148_172, q148_173i, q148_173r, q148_173n, q148_176, q148_179, q148_180, q148_182, q148_185, zNC, zcs_0, zcs_i, zcs_r, zcs_l, zpush_0, zpush_i, zpush_l, and_true, true_and, Nat.reduceLT, Nat.reduceLeDiff, Nat.reduceAdd, Nat.reduceMul, reduceIte, ite_true, ite_false, if_true, if_false, not_true_eq_false, not_false_eq_true, false_implies, true_implies, forall_const, implies_true, imp_self, and_self, false_and, and_false, ne_eq, zk_42, zfv_42_0, zf_42_0, zfv_42_1, zf_42_1, zfv_42_2, zf_42_2, zfv_42_3, zfv_42_4, zfv_42_5, zfv_42_6, zfv_42_7, zfv_42_8, zfv_42_9, zf_42_9, zfv_42_10, zf_42_10, zfv_42_11, zf_42_11, zfv_42_12, zfv_42_13, zfv_42_14, zfv_42_15, zfv_42_16, zfv_42_17, zfv_42_18, zf_42_18, zfv_42_19, zf_42_19, zfv_42_20, zfv_42_21, zfv_42_22, zfv_42_23, zf_42_23, zfv_42_24, zfv_42_25, zfv_42_26, zfv_42_27, zfv_42_28, zfv_42_29, zfv_42_30, zfv_42_31, zf_42_31, zk_43, zn_43, zk_44, zn_44, zk_45, zn_45, zk_46, zn_46, zk_47, zn_47, zk_48, zn_48, zk_49, zn_49, zk_50, zn_50, zk_51, zn_51, zk_52, zn_52, zk_53, zn_53, zk_54, zn_54, zk_55, zn_55, zk_56, zn_56, zk_57, zn_57, zk_58, zn_58, zk_59, zn_59, zk_60, zn_60, zk_61, zn_61, zk_62, zn_62, zk_63, zn_63, zk_64, zn_64, i_le_refl, s_refused]
  | succ d ih =>
    intro p hp
    have h1 : ¬ nI n ≤ nI p := nI_ge (by omega) (by omega)
    have e6 : (60 : Int32) * nI o + nI b + nI p = nI (60 * o + b + p) := by show nI 60 * nI o + nI b + nI p = _; rw [pk_mul, nI_add, nI_add]
    have hc : (nI (60 * o + b + p)).toNatClampNeg = 60 * o + b + p := nI_clamp (by omega)
    have hz := zin_nI (k := 60 * o + b + p) (n := 240) (by omega) (by decide)
    have hc2 : (nI p).toNatClampNeg = p := nI_clamp (by omega)
    have hz2 := zin_nI (k := p) (n := 60) (by omega) (by decide)
    have e7 : zrow M 63 (frc M o b p) 64 = M 64 := rfl
    have ih' := ih (p + 1) (by omega)
    rw [← frc_s] at ih'
    rw [q148_144, ← ih']
    simp only [q148_0, q148_1, q148_4, q148_7, q148_8, q148_11, q148_14, q148_15, q148_16, q148_19, q148_20, q148_21, q148_24, q148_25, q148_26, q148_29, q148_30, q148_33, q148_34, q148_35, q148_38, q148_39, q148_40, q148_43, q148_44, q148_45, q148_48, q148_49, q148_50, q148_51, q148_54, q148_55, q148_56, q148_59, q148_60, q148_61, q148_64, q148_65, q148_66, q148_68, q148_69, q148_70, q148_73, q148_74, q148_75, q148_78, q148_81, q148_83, q148_85, q148_86, q148_87, q148_90, q148_91, q148_92, q148_95, q148_98, q148_99, q148_100, q148_103, q148_104, q148_105i, q148_105r, q148_105n, q148_109, q148_111, q148_114, q148_115, q148_118, q148_120, q148_121, q148_124, q148_126, q148_127, q148_128, q148_129, q148_130, q148_132, q148_133, q148_134, q148_135i, q148_135r, q148_135n, q148_138, q148_142i, q148_142r, q148_142n, q148_146, q148_148, q148_151, q148_152, q148_155, q148_157, q148_158, q148_159, q148_161, q148_162, q148_164, q148_165, q148_166, q148_169, q148_171, q148_172, q148_173i, q148_173r, q148_173n, q148_176, q148_179, q148_180, q148_182, q148_185, zNC, zcs_0, zcs_i, zcs_r, zcs_l, zpush_0, zpush_i, zpush_l, and_true, true_and, Nat.reduceLT, Nat.reduceLeDiff, Nat.reduceAdd, Nat.reduceMul, reduceIte, ite_true, ite_false, if_true, if_false, not_true_eq_false, not_false_eq_true, false_implies, true_implies, forall_const, implies_true, imp_self, and_self, false_and, and_false, ne_eq, zk_42, zfv_42_0, zf_42_0, zfv_42_1, zf_42_1, zfv_42_2, zf_42_2, zfv_42_3, zfv_42_4, zfv_42_5, zfv_42_6, zfv_42_7, zfv_42_8, zfv_42_9, zf_42_9, zfv_42_10, zf_42_10, zfv_42_11, zf_42_11, zfv_42_12, zfv_42_13, zfv_42_14, zfv_42_15, zfv_42_16, zfv_42_17, zfv_42_18, zf_42_18, zfv_42_19, zf_42_19, zfv_42_20, zfv_42_21, zfv_42_22, zfv_42_23, zf_42_23, zfv_42_24, zfv_42_25, zfv_42_26, zfv_42_27, zfv_42_28, zfv_42_29, zfv_42_30, zfv_42_31, zf_42_31, zk_43, zn_43, zk_44, zn_44, zk_45, zn_45, zk_46, zn_46, zk_47, zn_47, zk_48, zn_48, zk_49, zn_49, zk_50, zn_50, zk_51, zn_51, zk_52, zn_52, zk_53, zn_53, zk_54, zn_54, zk_55, zn_55, zk_56, zn_56, zk_57, zn_57, zk_58, zn_58, zk_59, zn_59, zk_60, zn_60, zk_61, zn_61, zk_62, zn_62, zk_63, zn_63, zk_64, zn_64, h1, e6, hc, hz, hc2, hz2, e7, nI_1]
/-- the memories behind both sides' copy keep the invariant -/
theorem J_copy (J : zV M) (hk : k < 4) (ho : o < 4) {n1 n2 : Nat} (h1 : a + n ≤ n1) (h2 : b + n ≤ n2) (r1 : M (34 + 2 * k) 1 = 1) (r2 : M (34 + 2 * o) 1 = 1) (s1 : M 61 k = nI n1) (s2 : M 61 o = nI n2) (q1 : n1 ≤ 60) (q2 : n2 ≤ 60) (N : zM) (hN : N = zrow (zup M 0 7 0) (34 + 2 * o + 1) (va_cpy (M (34 + 2 * k + 1)) (M (34 + 2 * o + 1)) a b n)) :
    zV (zup (zrow (zrow N 64 (frh N k a n)) 63 (frc (zrow N 64 (frh N k a n)) o b n)) 42 0 0) := by
  obtain ⟨h, y, lw, c, T, R, S, Z⟩ := J
  have nf : ∀ e, e ≠ 34 + 2 * o + 1 → e ≠ 0 → N e = M e := fun e h1 h2 => by rw [hN, zrow_ne _ _ h1, zup_ne _ _ _ h2]
  have nc : N (34 + 2 * o + 1) = va_cpy (M (34 + 2 * k + 1)) (M (34 + 2 * o + 1)) a b n := by rw [hN, zrow_self]
  have n0 : N 0 = zup M 0 7 0 0 := by rw [hN, zrow_ne _ _ (by omega)]
  clear hN
  generalize hP : zup (zrow (zrow N 64 (frh N k a n)) 63 (frc (zrow N 64 (frh N k a n)) o b n)) 42 0 0 = P
  have pf : ∀ e, e ≠ 63 → e ≠ 64 → e ≠ 42 → P e = N e := fun e h1 h2 h3 => by rw [← hP, zup_ne _ _ _ h3, zrow_ne _ _ h1, zrow_ne _ _ h2]
  have p42 : ∀ i, i ≠ 0 → P 42 i = M 42 i := fun i hi => by
    rw [← hP]
    simp only [zup_app, if_true, if_neg hi]
    rw [zrow_ne _ _ (by decide), zrow_ne _ _ (by decide), nf 42 (by omega) (by omega)]
  have p63 : ∀ z, P 63 z = if 60 * o + b ≤ z ∧ z < 60 * o + b + n then M 63 (60 * k + a + (z - (60 * o + b))) else M 63 z := fun z => by
    rw [← hP, zup_ne _ _ _ (by decide), zrow_self]
    unfold frc
    split
    · rename_i e
      rw [zrow_self]
      unfold frh
      rw [if_pos (by omega), nf 63 (by omega) (by omega)]
    · rw [zrow_ne _ _ (by decide), nf 63 (by omega) (by omega)]
  have fr : ∀ e, e ≠ 63 → e ≠ 64 → e ≠ 42 → e ≠ 34 + 2 * o + 1 → e ≠ 0 → P e = M e := fun e a1 a2 a3 a4 a5 => (pf e a1 a2 a3).trans (nf e a4 a5)
  refine ⟨h, y, lw, c, JT_congr T (fun e he => fr e (by omega) (by omega) (by omega) (by omega) (by omega)) (p42 _ (by omega)) (p42 _ (by omega)) (p42 _ (by omega)), JR_congr R (fun e he => fr e (by omega) (by omega) (by omega) (by omega) (by omega)) (p42 _ (by omega)), fun i hi => ?_, ?_⟩
  · by_cases e : i = o
    · subst e
      have Sk := S i hi
      have Sf := S k hk
      unfold JS at *
      rw [fr (34 + 2 * i) (by omega) (by omega) (by omega) (by omega) (by omega), fr 61 (by omega) (by omega) (by omega) (by omega) (by omega), fr 62 (by omega) (by omega) (by omega) (by omega) (by omega)]
      rcases Sk with Sk | ⟨u1, m, l, hm, hl, d1, d2, d3, d4, d5⟩
      · exact Or.inl Sk
      · refine Or.inr ⟨u1, m, l, hm, hl, d1, d2, d3, d4, fun z hz => ?_⟩
        have hm2 : m = n2 := (nI_eq (by omega) (by omega)).mp (d2.symm.trans s2)
        rcases Sf with ⟨w1, -⟩ | ⟨w1, m1, l1, hm1, hl1, w3, w4, w5, w6, w7⟩
        · rw [r1] at w1; exact absurd w1 (by decide)
        · have hm3 : m1 = n1 := (nI_eq (by omega) (by omega)).mp (w4.symm.trans s1)
          rw [pf (34 + 2 * i + 1) (by omega) (by omega) (by omega), nc, p63]
          unfold va_cpy
          by_cases e2 : b ≤ z ∧ z < b + n
          · rw [if_pos e2, if_pos (by omega), w7 (a + (z - b)) (by omega)]
            congr 1
            omega
          · rw [if_neg e2, if_neg (by omega)]
            exact d5 z hz
    · refine JS_frame (fr _ (by omega) (by omega) (by omega) (by omega) (by omega)) (fr _ (by omega) (by omega) (by omega) (by omega) (by omega)) (by rw [fr 61 (by omega) (by omega) (by omega) (by omega) (by omega)]) (by rw [fr 62 (by omega) (by omega) (by omega) (by omega) (by omega)]) (fun z hz => ?_) (S i hi)
      rw [p63, if_neg (by omega)]
  · refine ⟨?_, ?_⟩
    · rw [pf 0 (by omega) (by omega) (by omega), n0, p42 31 (by omega)]; simp [zup_app, Z.1]
    · rw [pf 0 (by omega) (by omega) (by omega), n0, ← hP]; simp [zup_app]
end IV
