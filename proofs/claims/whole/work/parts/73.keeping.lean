-- KEEPING: the method
section IV
variable {M M' N K W : zM} {h y lw c k t a b n m d w g j gl : Nat} {Q : zR → zM → Prop} {x x1 x2 x3 ch mo it : Int32} {L : Nat → Nat → Nat} {r : List Nat} {q : Nat → Int32}
def I1 (M : zM) (k : Nat) : zM := fun a i => if i < k then (if a = 56 then M 48 i else if a = 48 then nI i else M a i) else M a i
theorem I1_o (h1 : a ≠ 56) (h2 : a ≠ 48) : I1 M k a = M a := by
  funext i
  unfold I1
  rw [if_neg h1, if_neg h2]
  split <;> rfl
theorem I1_0 : I1 M 0 = M := by
  funext a i
  unfold I1
  rw [if_neg (by omega)]
theorem I1_48 : I1 M k 48 k = M 48 k := by
  unfold I1
  rw [if_neg (by omega)]
theorem I1_s : zup (zup (I1 M k) 56 k (M 48 k)) 48 k (nI k) = I1 M (k + 1) := by
  funext a i
  simp only [zup_app]
  unfold I1
  by_cases ei : i = k
  · subst ei
    have g1 : ¬ i < i := by omega
    have g2 : i < i + 1 := by omega
    simp only [if_neg g1, if_pos g2, if_true]
    by_cases a48 : a = 48
    · subst a48; rfl
    · by_cases a56 : a = 56
      · subst a56; rfl
      · simp only [if_neg a48, if_neg a56]
  · have e1 : (i < k) = (i < k + 1) := by simp; omega
    simp only [if_neg ei, e1]
    by_cases a48 : a = 48
    · subst a48; rfl
    · by_cases a56 : a = 56
      · subst a56; rfl
      · simp only [if_neg a48, if_neg a56]
def B0 (M : zM) (h : Nat) : zM := zrow M 56 (fun i => if i < h then M 48 i else M 56 i)
theorem I1_KM : I1 M h = KM (B0 M h) (List.range h) h := by
  funext e i
  by_cases e48 : e = 48
  · subst e48
    unfold KM
    rw [zrow_self]
    unfold I1
    by_cases c : i < h
    · rw [if_pos c, if_pos c, if_neg (by decide), if_pos rfl, range_at c]
    · rw [if_neg c, if_neg c]; rfl
  · rw [KM_ne e48]
    by_cases e56 : e = 56
    · subst e56
      unfold B0
      rw [zrow_self]
      unfold I1
      by_cases c : i < h
      · rw [if_pos c, if_pos c, if_pos rfl]
      · rw [if_neg c, if_neg c]
    · rw [I1_o e56 e48]
      unfold B0
      rw [zrow_ne _ _ e56]
theorem l_id (hm : M 42 1 = nI h) (h6 : h ≤ 6) : ∀ d k, k + d = h → (zQ 129 2 [.ref 42, .int (nI k), .null, .null, .null] [] (I1 M k) Q ↔ zQ 129 40 [.ref 42, .int (-9), .int 1, .null, .null] [] (I1 M h) Q) := by
  intro d
  induction d with
  | zero =>
    intro k hk
    obtain rfl : k = h := by omega
    have e1 : I1 M k 42 1 = nI k := by rw [I1_o (by decide) (by decide)]; exact hm
    rw [q129_2]
    simp only [q129_0, q129_1i, q129_1r, q129_1n, q129_3, q129_4, q129_7, q129_10, q129_11, q129_14, q129_15, q129_16, q129_19, q129_20, q129_21, q129_22, q129_23, q129_26, q129_27, q129_28, q129_29i, q129_29r, q129_29n, q129_32, q129_35, q129_37i, q129_37r, q129_37n, q129_38, q129_39i, q129_39r, q129_39n, q129_41, q129_44, q129_45, q129_48, q129_51, q129_52, q129_55, q129_58, q129_60i, q129_60r, q129_60n, q129_61, q129_62i, q129_62r, q129_62n, q129_66, q129_67, q129_70, q129_73, q129_74, q129_77, q129_79, q129_80, q129_81, q129_84, q129_85, q129_88, q129_90, q129_91, q129_94, q129_95, q129_98, q129_100, q129_101, q129_102i, q129_102r, q129_102n, q129_105, q129_109, q129_110, q129_113, q129_114, q129_117, q129_118i, q129_118r, q129_118n, q129_119, q129_120, q129_123i, q129_123r, q129_123n, q129_124, q129_127, q129_128i, q129_128r, q129_128n, q129_130, q129_131, q129_134, q129_137, q129_138, q129_141, q129_142, q129_143, q129_146, q129_147, q129_148, q129_149i, q129_149r, q129_149n, q129_152, q129_155, q129_156, zNC, zcs_0, zcs_i, zcs_r, zcs_l, zpush_0, zpush_i, zpush_l, and_true, true_and, Nat.reduceLT, Nat.reduceLeDiff, Nat.reduceAdd, Nat.reduceMul, reduceIte, ite_true, ite_false, if_true, if_false, not_true_eq_false, not_false_eq_true, false_implies, true_implies, forall_const, implies_true, imp_self, and_self, false_and, and_false, ne_eq, zk_42, zfv_42_0, zf_42_0, zfv_42_1, zf_42_1, zfv_42_2, zf_42_2, zfv_42_3, zfv_42_4, zfv_42_5, zfv_42_6, zfv_42_7, zfv_42_8, zfv_42_9, zf_42_9, zfv_42_10, zf_42_10, zfv_42_11, zf_42_11, zfv_42_12, zfv_42_13, zfv_42_14, zfv_42_15, zfv_42_16, zfv_42_17, zfv_42_18, zf_42_18, zfv_42_19, zf_42_19, zfv_42_20, zfv_42_21, zfv_42_22, zfv_42_23, zf_42_23, zfv_42_24, zfv_42_25, zfv_42_26, zfv_42_27, zfv_42_28, zfv_42_29, zfv_42_30, zfv_42_31, zf_42_31, zk_43, zn_43, zk_44, zn_44, zk_45, zn_45, zk_46, zn_46, zk_47, zn_47, zk_48, zn_48, zk_49, zn_49, zk_50, zn_50, zk_51, zn_51, zk_52, zn_52, zk_53, zn_53, zk_54, zn_54, zk_55, zn_55, zk_56, zn_56, zk_57, zn_57, zk_58, zn_58, zk_59, zn_59, zk_60, zn_60, zk_61, zn_61, zk_62, zn_62, zk_63, zn_63, zk_64, zn_64, e1, i_le_refl]
  | succ d ih =>
    intro k hk
    have e1 : I1 M k 42 1 = nI h := by rw [I1_o (by decide) (by decide)]; exact hm
    have h1 : ¬ nI h ≤ nI k := nI_ge (by omega) (by omega)
    have hc : (nI k).toNatClampNeg = k := nI_clamp (by omega)
    have hz := zin_nI (k := k) (n := 6) (by omega) (by decide)
    have e48 := I1_48 (M := M) (k := k)
    have ih' := ih (k + 1) (by omega)
    rw [← I1_s] at ih'
    rw [q129_2, ← ih']
    simp only [q129_0, q129_1i, q129_1r, q129_1n, q129_3, q129_4, q129_7, q129_10, q129_11, q129_14, q129_15, q129_16, q129_19, q129_20, q129_21, q129_22, q129_23, q129_26, q129_27, q129_28, q129_29i, q129_29r, q129_29n, q129_32, q129_35, q129_37i, q129_37r, q129_37n, q129_38, q129_39i, q129_39r, q129_39n, q129_41, q129_44, q129_45, q129_48, q129_51, q129_52, q129_55, q129_58, q129_60i, q129_60r, q129_60n, q129_61, q129_62i, q129_62r, q129_62n, q129_66, q129_67, q129_70, q129_73, q129_74, q129_77, q129_79, q129_80, q129_81, q129_84, q129_85, q129_88, q129_90, q129_91, q129_94, q129_95, q129_98, q129_100, q129_101, q129_102i, q129_102r, q129_102n, q129_105, q129_109, q129_110, q129_113, q129_114, q129_117, q129_118i, q129_118r, q129_118n, q129_119, q129_120, q129_123i, q129_123r, q129_123n, q129_124, q129_127, q129_128i, q129_128r, q129_128n, q129_130, q129_131, q129_134, q129_137, q129_138, q129_141, q129_142, q129_143, q129_146, q129_147, q129_148, q129_149i, q129_149r, q129_149n, q129_152, q129_155, q129_156, zNC, zcs_0, zcs_i, zcs_r, zcs_l, zpush_0, zpush_i, zpush_l, and_true, true_and, Nat.reduceLT, Nat.reduceLeDiff, Nat.reduceAdd, Nat.reduceMul, reduceIte, ite_true, ite_false, if_true, if_false, not_true_eq_false, not_false_eq_true, false_implies, true_implies, forall_const, implies_true, imp_self, and_self, false_and, and_false, ne_eq, zk_42, zfv_42_0, zf_42_0, zfv_42_1, zf_42_1, zfv_42_2, zf_42_2, zfv_42_3, zfv_42_4, zfv_42_5, zfv_42_6, zfv_42_7, zfv_42_8, zfv_42_9, zf_42_9, zfv_42_10, zf_42_10, zfv_42_11, zf_42_11, zfv_42_12, zfv_42_13, zfv_42_14, zfv_42_15, zfv_42_16, zfv_42_17, zfv_42_18, zf_42_18, zfv_42_19, zf_42_19, zfv_42_20, zfv_42_21, zfv_42_22, zfv_42_23, zf_42_23, zfv_42_24, zfv_42_25, zfv_42_26, zfv_42_27, zfv_42_28, zfv_42_29, zfv_42_30, zfv_42_31, zf_42_31, zk_43, zn_43, zk_44, zn_44, zk_45, zn_45, zk_46, zn_46, zk_47, zn_47, zk_48, zn_48, zk_49, zn_49, zk_50, zn_50, zk_51, zn_51, zk_52, zn_52, zk_53, zn_53, zk_54, zn_54, zk_55, zn_55, zk_56, zn_56, zk_57, zn_57, zk_58, zn_58, zk_59, zn_59, zk_60, zn_60, zk_61, zn_61, zk_62, zn_62, zk_63, zn_63, zk_64, zn_64, e1, h1, hc, hz, e48, nI_1]
def R3 (K : zM) (k : Nat) : zM := fun a i => if a = 48 ∧ i < k then K 56 i else K a i
theorem R3_o (ha : a ≠ 48) : R3 K k a = K a := by
  funext i
  unfold R3
  rw [if_neg (fun e => ha e.1)]
theorem R3_0 : R3 K 0 = K := by
  funext a i
  unfold R3
  rw [if_neg (by omega)]
theorem R3_s : zup (R3 K k) 48 k (K 56 k) = R3 K (k + 1) := by
  funext a i
  rw [zup_app]
  unfold R3
  by_cases ea : a = 48
  · subst ea
    simp only [if_true, true_and]
    by_cases ei : i = k
    · subst ei
      rw [if_pos rfl, if_pos (by omega)]
    · rw [if_neg ei]
      have e1 : (i < k) = (i < k + 1) := by simp; omega
      simp only [e1]
  · simp only [if_neg ea, ea, false_and, if_false]
theorem l_back (hm : K 42 1 = nI h) (h6 : h ≤ 6) {v4 : Value} {x2 : Int32} : ∀ d k, k + d = h → (zQ 129 129 [.ref 42, .int mo, .int x2, .int (nI k), v4] [] (R3 K k) Q ↔ Q (zI mo) (R3 K h)) := by
  intro d
  induction d with
  | zero =>
    intro k hk
    obtain rfl : k = h := by omega
    have e1 : R3 K k 42 1 = nI k := by rw [R3_o (by decide)]; exact hm
    rw [q129_129]
    simp only [q129_0, q129_1i, q129_1r, q129_1n, q129_3, q129_4, q129_7, q129_10, q129_11, q129_14, q129_15, q129_16, q129_19, q129_20, q129_21, q129_22, q129_23, q129_26, q129_27, q129_28, q129_29i, q129_29r, q129_29n, q129_32, q129_35, q129_37i, q129_37r, q129_37n, q129_38, q129_39i, q129_39r, q129_39n, q129_41, q129_44, q129_45, q129_48, q129_51, q129_52, q129_55, q129_58, q129_60i, q129_60r, q129_60n, q129_61, q129_62i, q129_62r, q129_62n, q129_66, q129_67, q129_70, q129_73, q129_74, q129_77, q129_79, q129_80, q129_81, q129_84, q129_85, q129_88, q129_90, q129_91, q129_94, q129_95, q129_98, q129_100, q129_101, q129_102i, q129_102r, q129_102n, q129_105, q129_109, q129_110, q129_113, q129_114, q129_117, q129_118i, q129_118r, q129_118n, q129_119, q129_120, q129_123i, q129_123r, q129_123n, q129_124, q129_127, q129_128i, q129_128r, q129_128n, q129_130, q129_131, q129_134, q129_137, q129_138, q129_141, q129_142, q129_143, q129_146, q129_147, q129_148, q129_149i, q129_149r, q129_149n, q129_152, q129_155, q129_156, zNC, zcs_0, zcs_i, zcs_r, zcs_l, zpush_0, zpush_i, zpush_l, and_true, true_and, Nat.reduceLT, Nat.reduceLeDiff, Nat.reduceAdd, Nat.reduceMul, reduceIte, ite_true, ite_false, if_true, if_false, not_true_eq_false, not_false_eq_true, false_implies, true_implies, forall_const, implies_true, imp_self, and_self, false_and, and_false, ne_eq, zk_42, zfv_42_0, zf_42_0, zfv_42_1, zf_42_1, zfv_42_2, zf_42_2, zfv_42_3, zfv_42_4, zfv_42_5, zfv_42_6, zfv_42_7, zfv_42_8, zfv_42_9, zf_42_9, zfv_42_10, zf_42_10, zfv_42_11, zf_42_11, zfv_42_12, zfv_42_13, zfv_42_14, zfv_42_15, zfv_42_16, zfv_42_17, zfv_42_18, zf_42_18, zfv_42_19, zf_42_19, zfv_42_20, zfv_42_21, zfv_42_22, zfv_42_23, zf_42_23, zfv_42_24, zfv_42_25, zfv_42_26, zfv_42_27, zfv_42_28, zfv_42_29, zfv_42_30, zfv_42_31, zf_42_31, zk_43, zn_43, zk_44, zn_44, zk_45, zn_45, zk_46, zn_46, zk_47, zn_47, zk_48, zn_48, zk_49, zn_49, zk_50, zn_50, zk_51, zn_51, zk_52, zn_52, zk_53, zn_53, zk_54, zn_54, zk_55, zn_55, zk_56, zn_56, zk_57, zn_57, zk_58, zn_58, zk_59, zn_59, zk_60, zn_60, zk_61, zn_61, zk_62, zn_62, zk_63, zn_63, zk_64, zn_64, e1, i_le_refl]
  | succ d ih =>
    intro k hk
    have e1 : R3 K k 42 1 = nI h := by rw [R3_o (by decide)]; exact hm
    have h1 : ¬ nI h ≤ nI k := nI_ge (by omega) (by omega)
    have hc : (nI k).toNatClampNeg = k := nI_clamp (by omega)
    have hz := zin_nI (k := k) (n := 6) (by omega) (by decide)
    have e56 : R3 K k 56 = K 56 := R3_o (by decide)
    have ih' := ih (k + 1) (by omega)
    rw [← R3_s] at ih'
    rw [q129_129, ← ih']
    simp only [q129_0, q129_1i, q129_1r, q129_1n, q129_3, q129_4, q129_7, q129_10, q129_11, q129_14, q129_15, q129_16, q129_19, q129_20, q129_21, q129_22, q129_23, q129_26, q129_27, q129_28, q129_29i, q129_29r, q129_29n, q129_32, q129_35, q129_37i, q129_37r, q129_37n, q129_38, q129_39i, q129_39r, q129_39n, q129_41, q129_44, q129_45, q129_48, q129_51, q129_52, q129_55, q129_58, q129_60i, q129_60r, q129_60n, q129_61, q129_62i, q129_62r, q129_62n, q129_66, q129_67, q129_70, q129_73, q129_74, q129_77, q129_79, q129_80, q129_81, q129_84, q129_85, q129_88, q129_90, q129_91, q129_94, q129_95, q129_98, q129_100, q129_101, q129_102i, q129_102r, q129_102n, q129_105, q129_109, q129_110, q129_113, q129_114, q129_117, q129_118i, q129_118r, q129_118n, q129_119, q129_120, q129_123i, q129_123r, q129_123n, q129_124, q129_127, q129_128i, q129_128r, q129_128n, q129_130, q129_131, q129_134, q129_137, q129_138, q129_141, q129_142, q129_143, q129_146, q129_147, q129_148, q129_149i, q129_149r, q129_149n, q129_152, q129_155, q129_156, zNC, zcs_0, zcs_i, zcs_r, zcs_l, zpush_0, zpush_i, zpush_l, and_true, true_and, Nat.reduceLT, Nat.reduceLeDiff, Nat.reduceAdd, Nat.reduceMul, reduceIte, ite_true, ite_false, if_true, if_false, not_true_eq_false, not_false_eq_true, false_implies, true_implies, forall_const, implies_true, imp_self, and_self, false_and, and_false, ne_eq, zk_42, zfv_42_0, zf_42_0, zfv_42_1, zf_42_1, zfv_42_2, zf_42_2, zfv_42_3, zfv_42_4, zfv_42_5, zfv_42_6, zfv_42_7, zfv_42_8, zfv_42_9, zf_42_9, zfv_42_10, zf_42_10, zfv_42_11, zf_42_11, zfv_42_12, zfv_42_13, zfv_42_14, zfv_42_15, zfv_42_16, zfv_42_17, zfv_42_18, zf_42_18, zfv_42_19, zf_42_19, zfv_42_20, zfv_42_21, zfv_42_22, zfv_42_23, zf_42_23, zfv_42_24, zfv_42_25, zfv_42_26, zfv_42_27, zfv_42_28, zfv_42_29, zfv_42_30, zfv_42_31, zf_42_31, zk_43, zn_43, zk_44, zn_44, zk_45, zn_45, zk_46, zn_46, zk_47, zn_47, zk_48, zn_48, zk_49, zn_49, zk_50, zn_50, zk_51, zn_51, zk_52, zn_52, zk_53, zn_53, zk_54, zn_54, zk_55, zn_55, zk_56, zn_56, zk_57, zn_57, zk_58, zn_58, zk_59, zn_59, zk_60, zn_60, zk_61, zn_61, zk_62, zn_62, zk_63, zn_63, zk_64, zn_64, e1, h1, hc, hz, e56, nI_1]
theorem R3_KM : R3 (KM (zrow (B0 M h) 57 q) r h) h = zrow (B0 M h) 57 q := by
  funext e i
  by_cases e48 : e = 48
  · subst e48
    unfold R3
    by_cases c : i < h
    · rw [if_pos ⟨rfl, c⟩, KM_ne (by decide)]
      show B0 M h 56 i = M 48 i
      unfold B0
      rw [zrow_self, if_pos c]
    · rw [if_neg (fun e => c e.2)]
      unfold KM
      rw [zrow_self, if_neg c]
  · rw [R3_o e48, KM_ne e48]
theorem zrow_id : zrow M a (M a) = M := by
  funext e
  unfold zrow
  split
  · rename_i c; rw [c]
  · rfl
theorem B0_KB : KB M (B0 M h) := fun e _ e2 _ _ => zrow_ne _ _ e2
theorem s_bestLives (T : JT M h y lw) (h2 : 2 ≤ h) {p : Nat × List Nat} (hp : Bt h (LW M h) h 0 = some p) (hQ : Q (zI (nI p.1)) (zrow (B0 M h) 57 (qs (B0 M h) h (some p)))) : zQ 129 0 [.ref 42, .null, .null, .null, .null] [] M Q := by
  have h6 := T.2.2.2.2.2.2.1
  have i0 : nI 0 = 0 := rfl
  have e1 := l_id (Q := Q) T.2.1 h6 h 0 (by omega)
  rw [I1_0, i0, I1_KM] at e1
  have hb := (rows_best (L := LW M h) h2 h6).1
  have hbest := l_best (Q := Q) (N := B0 M h) (s' := some p) T h2 B0_KB (fun r' v3 v4 hr' => by
    have e2 := l_back (Q := Q) (K := KM (zrow (B0 M h) 57 (qs (B0 M h) h (some p))) r' h) (mo := nI p.1) (x2 := 0) (v4 := v4) T.2.1 h6 h 0 (by omega)
    rw [R3_0, R3_KM, i0] at e2
    have e3 := e2.mpr hQ
    have em : mst (some p) = nI p.1 := rfl
    rw [em]
    cases v3 <;> simp only [q129_0, q129_1i, q129_1r, q129_1n, q129_3, q129_4, q129_7, q129_10, q129_11, q129_14, q129_15, q129_16, q129_19, q129_20, q129_21, q129_22, q129_23, q129_26, q129_27, q129_28, q129_29i, q129_29r, q129_29n, q129_32, q129_35, q129_37i, q129_37r, q129_37n, q129_38, q129_39i, q129_39r, q129_39n, q129_41, q129_44, q129_45, q129_48, q129_51, q129_52, q129_55, q129_58, q129_60i, q129_60r, q129_60n, q129_61, q129_62i, q129_62r, q129_62n, q129_66, q129_67, q129_70, q129_73, q129_74, q129_77, q129_79, q129_80, q129_81, q129_84, q129_85, q129_88, q129_90, q129_91, q129_94, q129_95, q129_98, q129_100, q129_101, q129_102i, q129_102r, q129_102n, q129_105, q129_109, q129_110, q129_113, q129_114, q129_117, q129_118i, q129_118r, q129_118n, q129_119, q129_120, q129_123i, q129_123r, q129_123n, q129_124, q129_127, q129_128i, q129_128r, q129_128n, q129_130, q129_131, q129_134, q129_137, q129_138, q129_141, q129_142, q129_143, q129_146, q129_147, q129_148, q129_149i, q129_149r, q129_149n, q129_152, q129_155, q129_156, zNC, zcs_0, zcs_i, zcs_r, zcs_l, zpush_0, zpush_i, zpush_l, and_true, true_and, Nat.reduceLT, Nat.reduceLeDiff, Nat.reduceAdd, Nat.reduceMul, reduceIte, ite_true, ite_false, if_true, if_false, not_true_eq_false, not_false_eq_true, false_implies, true_implies, forall_const, implies_true, imp_self, and_self, false_and, and_false, ne_eq, zk_42, zfv_42_0, zf_42_0, zfv_42_1, zf_42_1, zfv_42_2, zf_42_2, zfv_42_3, zfv_42_4, zfv_42_5, zfv_42_6, zfv_42_7, zfv_42_8, zfv_42_9, zf_42_9, zfv_42_10, zf_42_10, zfv_42_11, zf_42_11, zfv_42_12, zfv_42_13, zfv_42_14, zfv_42_15, zfv_42_16, zfv_42_17, zfv_42_18, zf_42_18, zfv_42_19, zf_42_19, zfv_42_20, zfv_42_21, zfv_42_22, zfv_42_23, zf_42_23, zfv_42_24, zfv_42_25, zfv_42_26, zfv_42_27, zfv_42_28, zfv_42_29, zfv_42_30, zfv_42_31, zf_42_31, zk_43, zn_43, zk_44, zn_44, zk_45, zn_45, zk_46, zn_46, zk_47, zn_47, zk_48, zn_48, zk_49, zn_49, zk_50, zn_50, zk_51, zn_51, zk_52, zn_52, zk_53, zn_53, zk_54, zn_54, zk_55, zn_55, zk_56, zn_56, zk_57, zn_57, zk_58, zn_58, zk_59, zn_59, zk_60, zn_60, zk_61, zn_61, zk_62, zn_62, zk_63, zn_63, zk_64, zn_64] <;> exact e3) 720 (List.range h) none .null .null range_vr (rows_h h2 h6).2.1 (fun p hp => by cases hp) (hb.trans hp)
  have eq : KM (zrow (B0 M h) 57 (qs (B0 M h) h none)) (List.range h) h = KM (B0 M h) (List.range h) h := by
    show KM (zrow (B0 M h) 57 (B0 M h 57)) (List.range h) h = _
    rw [zrow_id]
  rw [eq] at hbest
  have e4 := e1.mpr hbest
  simp only [q129_0, q129_1i, q129_1r, q129_1n, q129_3, q129_4, q129_7, q129_10, q129_11, q129_14, q129_15, q129_16, q129_19, q129_20, q129_21, q129_22, q129_23, q129_26, q129_27, q129_28, q129_29i, q129_29r, q129_29n, q129_32, q129_35, q129_37i, q129_37r, q129_37n, q129_38, q129_39i, q129_39r, q129_39n, q129_41, q129_44, q129_45, q129_48, q129_51, q129_52, q129_55, q129_58, q129_60i, q129_60r, q129_60n, q129_61, q129_62i, q129_62r, q129_62n, q129_66, q129_67, q129_70, q129_73, q129_74, q129_77, q129_79, q129_80, q129_81, q129_84, q129_85, q129_88, q129_90, q129_91, q129_94, q129_95, q129_98, q129_100, q129_101, q129_102i, q129_102r, q129_102n, q129_105, q129_109, q129_110, q129_113, q129_114, q129_117, q129_118i, q129_118r, q129_118n, q129_119, q129_120, q129_123i, q129_123r, q129_123n, q129_124, q129_127, q129_128i, q129_128r, q129_128n, q129_130, q129_131, q129_134, q129_137, q129_138, q129_141, q129_142, q129_143, q129_146, q129_147, q129_148, q129_149i, q129_149r, q129_149n, q129_152, q129_155, q129_156, zNC, zcs_0, zcs_i, zcs_r, zcs_l, zpush_0, zpush_i, zpush_l, and_true, true_and, Nat.reduceLT, Nat.reduceLeDiff, Nat.reduceAdd, Nat.reduceMul, reduceIte, ite_true, ite_false, if_true, if_false, not_true_eq_false, not_false_eq_true, false_implies, true_implies, forall_const, implies_true, imp_self, and_self, false_and, and_false, ne_eq, zk_42, zfv_42_0, zf_42_0, zfv_42_1, zf_42_1, zfv_42_2, zf_42_2, zfv_42_3, zfv_42_4, zfv_42_5, zfv_42_6, zfv_42_7, zfv_42_8, zfv_42_9, zf_42_9, zfv_42_10, zf_42_10, zfv_42_11, zf_42_11, zfv_42_12, zfv_42_13, zfv_42_14, zfv_42_15, zfv_42_16, zfv_42_17, zfv_42_18, zf_42_18, zfv_42_19, zf_42_19, zfv_42_20, zfv_42_21, zfv_42_22, zfv_42_23, zf_42_23, zfv_42_24, zfv_42_25, zfv_42_26, zfv_42_27, zfv_42_28, zfv_42_29, zfv_42_30, zfv_42_31, zf_42_31, zk_43, zn_43, zk_44, zn_44, zk_45, zn_45, zk_46, zn_46, zk_47, zn_47, zk_48, zn_48, zk_49, zn_49, zk_50, zn_50, zk_51, zn_51, zk_52, zn_52, zk_53, zn_53, zk_54, zn_54, zk_55, zn_55, zk_56, zn_56, zk_57, zn_57, zk_58, zn_58, zk_59, zn_59, zk_60, zn_60, zk_61, zn_61, zk_62, zn_62, zk_63, zn_63, zk_64, zn_64]
  exact e4
theorem LW_congr (e : ∀ a, 1 ≤ a → a ≤ 8 → N a = M a) : LW N h = LW M h := by
  funext k g
  unfold LW fl
  rw [e (1 + 2) (by decide) (by decide), e (1 + 7) (by decide) (by decide), e (1 + 1) (by decide) (by decide), e (1 + 4) (by decide) (by decide), e (1 + 5) (by decide) (by decide)]
theorem keep_ref (J : zV M) (T : JT M h y lw) (h2 : 2 ≤ h) (hW : ∀ e, e ≠ 28 → W e = M e) {p : Nat × List Nat} (hp : Bt h (LW M h) h 0 = some p) {v : Int32} (hx : x = -1 ∧ v = nI p.1 ∨ ∃ k, k < 6 ∧ x = nI k ∧ v = if k < h then nI (p.2.getD k 0) else -9) : zQ 130 0 [.ref 42, .int x, .null] [] W (fun r2 M2 => r2 = zI v ∧ zV M2) := by
  have h6 := T.2.2.2.2.2.2.1
  have T' : JT W h y lw := JT_congr T (fun a ha => hW a (by omega)) (by rw [hW 42 (by decide)]) (by rw [hW 42 (by decide)]) (by rw [hW 42 (by decide)])
  have hp' : Bt h (LW W h) h 0 = some p := by
    rw [LW_congr (fun a h1 h8 => hW a (by omega))]
    exact hp
  have nh0 : ¬ nI h = 0 := nI_ne0 (by omega) (by omega)
  have m1 : W 42 1 = nI h := T'.2.1
  have lm1 : ∀ x : Int32, (-1 ≤ x.toInt64 ↔ -1 ≤ x) := fun x => fa_wide_le (-1) x
  have hF : ∀ e, e ≠ 28 → e ≠ 56 → e ≠ 57 → zrow (B0 W h) 57 (qs (B0 W h) h (some p)) e = M e := fun e e1 e2 e3 => by
    rw [zrow_ne _ _ e3]
    unfold B0
    rw [zrow_ne _ _ e2]
    exact hW e e1
  have hV : zV (zrow (B0 W h) 57 (qs (B0 W h) h (some p))) := by
    have Z := J
    obtain ⟨h', y', lw', c', T', R', S', Z⟩ := Z
    refine zV_keep J (fun a ha => hF a (by omega) (by omega) (by omega)) ?_ ?_ ?_ ?_ ⟨?_, ?_⟩
    · rw [hF 42 (by decide) (by decide) (by decide)]
    · rw [hF 42 (by decide) (by decide) (by decide)]
    · rw [hF 42 (by decide) (by decide) (by decide)]
    · rw [hF 42 (by decide) (by decide) (by decide)]
    · rw [hF 42 (by decide) (by decide) (by decide), hF 0 (by decide) (by decide) (by decide)]
      exact Z.1
    · rw [hF 42 (by decide) (by decide) (by decide), hF 0 (by decide) (by decide) (by decide)]
      exact Z.2
  rcases hx with ⟨rfl, rfl⟩ | ⟨k, hk, rfl, rfl⟩
  · have hin : (-1 : Int32) ≤ -1 ∧ (-1 : Int32) ≤ 5 := by decide
    have m0 : ¬ (0 : Int32) ≤ -1 := by decide
    simp only [q130_0, q130_1, q130_2, q130_5, q130_8, q130_11, q130_14, q130_16, q130_17, q130_18, q130_21, q130_24, q130_26, q130_27, q130_28, q130_31i, q130_31r, q130_31n, q130_32, q130_33, q130_36, q130_37, q130_40, q130_41, q130_42, q130_45, q130_48, q130_50, q130_53, q130_54, q130_57, q130_58, q130_59, zNC, zcs_0, zcs_i, zcs_r, zcs_l, zpush_0, zpush_i, zpush_l, and_true, true_and, Nat.reduceLT, Nat.reduceLeDiff, Nat.reduceAdd, Nat.reduceMul, reduceIte, ite_true, ite_false, if_true, if_false, not_true_eq_false, not_false_eq_true, false_implies, true_implies, forall_const, implies_true, imp_self, and_self, false_and, and_false, ne_eq, zk_42, zfv_42_0, zf_42_0, zfv_42_1, zf_42_1, zfv_42_2, zf_42_2, zfv_42_3, zfv_42_4, zfv_42_5, zfv_42_6, zfv_42_7, zfv_42_8, zfv_42_9, zf_42_9, zfv_42_10, zf_42_10, zfv_42_11, zf_42_11, zfv_42_12, zfv_42_13, zfv_42_14, zfv_42_15, zfv_42_16, zfv_42_17, zfv_42_18, zf_42_18, zfv_42_19, zf_42_19, zfv_42_20, zfv_42_21, zfv_42_22, zfv_42_23, zf_42_23, zfv_42_24, zfv_42_25, zfv_42_26, zfv_42_27, zfv_42_28, zfv_42_29, zfv_42_30, zfv_42_31, zf_42_31, zk_43, zn_43, zk_44, zn_44, zk_45, zn_45, zk_46, zn_46, zk_47, zn_47, zk_48, zn_48, zk_49, zn_49, zk_50, zn_50, zk_51, zn_51, zk_52, zn_52, zk_53, zn_53, zk_54, zn_54, zk_55, zn_55, zk_56, zn_56, zk_57, zn_57, zk_58, zn_58, zk_59, zn_59, zk_60, zn_60, zk_61, zn_61, zk_62, zn_62, zk_63, zn_63, zk_64, zn_64, s_in, lm1, (i64_c _).2.2.2.1, zb1_0, hin, m1, nh0]
    refine s_bestLives T' h2 hp' ?_
    simp only [q130_0, q130_1, q130_2, q130_5, q130_8, q130_11, q130_14, q130_16, q130_17, q130_18, q130_21, q130_24, q130_26, q130_27, q130_28, q130_31i, q130_31r, q130_31n, q130_32, q130_33, q130_36, q130_37, q130_40, q130_41, q130_42, q130_45, q130_48, q130_50, q130_53, q130_54, q130_57, q130_58, q130_59, zNC, zcs_0, zcs_i, zcs_r, zcs_l, zpush_0, zpush_i, zpush_l, and_true, true_and, Nat.reduceLT, Nat.reduceLeDiff, Nat.reduceAdd, Nat.reduceMul, reduceIte, ite_true, ite_false, if_true, if_false, not_true_eq_false, not_false_eq_true, false_implies, true_implies, forall_const, implies_true, imp_self, and_self, false_and, and_false, ne_eq, zk_42, zfv_42_0, zf_42_0, zfv_42_1, zf_42_1, zfv_42_2, zf_42_2, zfv_42_3, zfv_42_4, zfv_42_5, zfv_42_6, zfv_42_7, zfv_42_8, zfv_42_9, zf_42_9, zfv_42_10, zf_42_10, zfv_42_11, zf_42_11, zfv_42_12, zfv_42_13, zfv_42_14, zfv_42_15, zfv_42_16, zfv_42_17, zfv_42_18, zf_42_18, zfv_42_19, zf_42_19, zfv_42_20, zfv_42_21, zfv_42_22, zfv_42_23, zf_42_23, zfv_42_24, zfv_42_25, zfv_42_26, zfv_42_27, zfv_42_28, zfv_42_29, zfv_42_30, zfv_42_31, zf_42_31, zk_43, zn_43, zk_44, zn_44, zk_45, zn_45, zk_46, zn_46, zk_47, zn_47, zk_48, zn_48, zk_49, zn_49, zk_50, zn_50, zk_51, zn_51, zk_52, zn_52, zk_53, zn_53, zk_54, zn_54, zk_55, zn_55, zk_56, zn_56, zk_57, zn_57, zk_58, zn_58, zk_59, zn_59, zk_60, zn_60, zk_61, zn_61, zk_62, zn_62, zk_63, zn_63, zk_64, zn_64, m0]
    first | exact ⟨rfl, hV⟩ | exact hV | (simp; exact hV)
  · have hin : -1 ≤ nI k ∧ nI k ≤ 5 := ⟨i_trans (by decide) (nI_pos' (n := k) (by omega)), nI_le (a := k) (b := 5) (by omega) (by omega)⟩
    have p0 : 0 ≤ nI k := nI_pos' (by omega)
    have hc : (nI k).toNatClampNeg = k := nI_clamp (by omega)
    have hz := zin_nI (k := k) (n := 6) hk (by decide)
    have f1 : zrow (B0 W h) 57 (qs (B0 W h) h (some p)) 42 1 = nI h := m1
    simp only [q130_0, q130_1, q130_2, q130_5, q130_8, q130_11, q130_14, q130_16, q130_17, q130_18, q130_21, q130_24, q130_26, q130_27, q130_28, q130_31i, q130_31r, q130_31n, q130_32, q130_33, q130_36, q130_37, q130_40, q130_41, q130_42, q130_45, q130_48, q130_50, q130_53, q130_54, q130_57, q130_58, q130_59, zNC, zcs_0, zcs_i, zcs_r, zcs_l, zpush_0, zpush_i, zpush_l, and_true, true_and, Nat.reduceLT, Nat.reduceLeDiff, Nat.reduceAdd, Nat.reduceMul, reduceIte, ite_true, ite_false, if_true, if_false, not_true_eq_false, not_false_eq_true, false_implies, true_implies, forall_const, implies_true, imp_self, and_self, false_and, and_false, ne_eq, zk_42, zfv_42_0, zf_42_0, zfv_42_1, zf_42_1, zfv_42_2, zf_42_2, zfv_42_3, zfv_42_4, zfv_42_5, zfv_42_6, zfv_42_7, zfv_42_8, zfv_42_9, zf_42_9, zfv_42_10, zf_42_10, zfv_42_11, zf_42_11, zfv_42_12, zfv_42_13, zfv_42_14, zfv_42_15, zfv_42_16, zfv_42_17, zfv_42_18, zf_42_18, zfv_42_19, zf_42_19, zfv_42_20, zfv_42_21, zfv_42_22, zfv_42_23, zf_42_23, zfv_42_24, zfv_42_25, zfv_42_26, zfv_42_27, zfv_42_28, zfv_42_29, zfv_42_30, zfv_42_31, zf_42_31, zk_43, zn_43, zk_44, zn_44, zk_45, zn_45, zk_46, zn_46, zk_47, zn_47, zk_48, zn_48, zk_49, zn_49, zk_50, zn_50, zk_51, zn_51, zk_52, zn_52, zk_53, zn_53, zk_54, zn_54, zk_55, zn_55, zk_56, zn_56, zk_57, zn_57, zk_58, zn_58, zk_59, zn_59, zk_60, zn_60, zk_61, zn_61, zk_62, zn_62, zk_63, zn_63, zk_64, zn_64, s_in, lm1, (i64_c _).2.2.2.1, zb1_0, hin, m1, nh0]
    refine s_bestLives T' h2 hp' ?_
    by_cases hkh : k < h
    · have hkk := has_nI hkh h6
      have f2 : zrow (B0 W h) 57 (qs (B0 W h) h (some p)) 57 k = nI (p.2.getD k 0) := by
        rw [zrow_self]
        show (if k < h then nI (p.2.getD k 0) else _) = _
        rw [if_pos hkh]
      simp only [q130_0, q130_1, q130_2, q130_5, q130_8, q130_11, q130_14, q130_16, q130_17, q130_18, q130_21, q130_24, q130_26, q130_27, q130_28, q130_31i, q130_31r, q130_31n, q130_32, q130_33, q130_36, q130_37, q130_40, q130_41, q130_42, q130_45, q130_48, q130_50, q130_53, q130_54, q130_57, q130_58, q130_59, zNC, zcs_0, zcs_i, zcs_r, zcs_l, zpush_0, zpush_i, zpush_l, and_true, true_and, Nat.reduceLT, Nat.reduceLeDiff, Nat.reduceAdd, Nat.reduceMul, reduceIte, ite_true, ite_false, if_true, if_false, not_true_eq_false, not_false_eq_true, false_implies, true_implies, forall_const, implies_true, imp_self, and_self, false_and, and_false, ne_eq, zk_42, zfv_42_0, zf_42_0, zfv_42_1, zf_42_1, zfv_42_2, zf_42_2, zfv_42_3, zfv_42_4, zfv_42_5, zfv_42_6, zfv_42_7, zfv_42_8, zfv_42_9, zf_42_9, zfv_42_10, zf_42_10, zfv_42_11, zf_42_11, zfv_42_12, zfv_42_13, zfv_42_14, zfv_42_15, zfv_42_16, zfv_42_17, zfv_42_18, zf_42_18, zfv_42_19, zf_42_19, zfv_42_20, zfv_42_21, zfv_42_22, zfv_42_23, zf_42_23, zfv_42_24, zfv_42_25, zfv_42_26, zfv_42_27, zfv_42_28, zfv_42_29, zfv_42_30, zfv_42_31, zf_42_31, zk_43, zn_43, zk_44, zn_44, zk_45, zn_45, zk_46, zn_46, zk_47, zn_47, zk_48, zn_48, zk_49, zn_49, zk_50, zn_50, zk_51, zn_51, zk_52, zn_52, zk_53, zn_53, zk_54, zn_54, zk_55, zn_55, zk_56, zn_56, zk_57, zn_57, zk_58, zn_58, zk_59, zn_59, zk_60, zn_60, zk_61, zn_61, zk_62, zn_62, zk_63, zn_63, zk_64, zn_64, p0, s_noHouse, f1, zb1_0, hkk, hc, hz, f2, if_pos hkh]
      first | exact ⟨rfl, hV⟩ | exact hV | (simp; exact hV)
    · have hkk : ¬ nI k < nI h := fun e => hkh ((nI_ltI (by omega) (by omega)).mp e)
      simp only [q130_0, q130_1, q130_2, q130_5, q130_8, q130_11, q130_14, q130_16, q130_17, q130_18, q130_21, q130_24, q130_26, q130_27, q130_28, q130_31i, q130_31r, q130_31n, q130_32, q130_33, q130_36, q130_37, q130_40, q130_41, q130_42, q130_45, q130_48, q130_50, q130_53, q130_54, q130_57, q130_58, q130_59, zNC, zcs_0, zcs_i, zcs_r, zcs_l, zpush_0, zpush_i, zpush_l, and_true, true_and, Nat.reduceLT, Nat.reduceLeDiff, Nat.reduceAdd, Nat.reduceMul, reduceIte, ite_true, ite_false, if_true, if_false, not_true_eq_false, not_false_eq_true, false_implies, true_implies, forall_const, implies_true, imp_self, and_self, false_and, and_false, ne_eq, zk_42, zfv_42_0, zf_42_0, zfv_42_1, zf_42_1, zfv_42_2, zf_42_2, zfv_42_3, zfv_42_4, zfv_42_5, zfv_42_6, zfv_42_7, zfv_42_8, zfv_42_9, zf_42_9, zfv_42_10, zf_42_10, zfv_42_11, zf_42_11, zfv_42_12, zfv_42_13, zfv_42_14, zfv_42_15, zfv_42_16, zfv_42_17, zfv_42_18, zf_42_18, zfv_42_19, zf_42_19, zfv_42_20, zfv_42_21, zfv_42_22, zfv_42_23, zf_42_23, zfv_42_24, zfv_42_25, zfv_42_26, zfv_42_27, zfv_42_28, zfv_42_29, zfv_42_30, zfv_42_31, zf_42_31, zk_43, zn_43, zk_44, zn_44, zk_45, zn_45, zk_46, zn_46, zk_47, zn_47, zk_48, zn_48, zk_49, zn_49, zk_50, zn_50, zk_51, zn_51, zk_52, zn_52, zk_53, zn_53, zk_54, zn_54, zk_55, zn_55, zk_56, zn_56, zk_57, zn_57, zk_58, zn_58, zk_59, zn_59, zk_60, zn_60, zk_61, zn_61, zk_62, zn_62, zk_63, zn_63, zk_64, zn_64, p0, s_noHouse, f1, zb1_0, hkk, if_neg hkh]
      first | exact ⟨rfl, hV⟩ | exact hV | (simp; exact hV)
end IV
section OP
variable {M : zM} {x x2 x3 x4 x5 : Int32}
theorem op_keeping (J : zV M) : zQ 53 0 [.ref 0, .int x] [] M (fun r M1 => zQ 130 0 [.ref 42, .int x, .null] [] M1 (fun r2 M2 => r2 = r ∧ zV M2)) := by
  obtain ⟨h, y, lw, c, T, R, S, Z⟩ := id J
  have hh := T.1
  have hm := T.2.1
  have h6 := T.2.2.2.2.2.2.1
  have lm1 : ∀ x : Int32, (-1 ≤ x.toInt64 ↔ -1 ≤ x) := fun x => fa_wide_le (-1) x
  by_cases c1 : x < -1
  · have c1' : ¬ (-1 ≤ x ∧ x ≤ 5) := by simp only [fa_lt, fa_le, fa_eq, zt_0, zt_1, zt_2, zt_3, zt_4, zt_5, zt_6, zt_7, zt_8, zt_9, zt_10, zt_11, zt_12, zt_13, zt_14, zt_15, zt_16, zt_17, zt_18, zt_19, zt_20, zt_21, zt_22, zt_23, zt_24, zt_25, zt_31, zt_40, zt_48, zt_50, zt_57, zt_59, zt_60, zt_97, zt_98, zt_99, zt_100, zt_112, zt_115, zt_119, zt_120, zt_255, zt_999, zt_m1, zt_m2, zt_m3, zt_m4, zt_m9, zt_m10, zt_m100] at *; omega
    simp only [q53_0, q53_1, q53_2, q53_5, q53_6, q53_8, q53_11, q53_13, q53_14, q53_15, q53_18, q53_21, q53_24, q53_26, q53_27, q53_28, q53_29, q53_32, q53_35, q53_38, q53_40, q53_41, q53_42, q53_45, q53_46, q53_49, q53_52, q53_53, q53_54, q53_57, q53_58, q53_61, q53_64, q53_65, q53_66, q53_69, q53_70, q53_73, q53_74, q53_75, q53_78, q53_81, zNC, zcs_0, zcs_i, zcs_r, zcs_l, zpush_0, zpush_i, zpush_l, and_true, true_and, Nat.reduceLT, Nat.reduceLeDiff, Nat.reduceAdd, Nat.reduceMul, reduceIte, ite_true, ite_false, if_true, if_false, not_true_eq_false, not_false_eq_true, false_implies, true_implies, forall_const, implies_true, imp_self, and_self, false_and, and_false, ne_eq, zk_0, zfv_0_0, zfv_0_1, zfv_0_2, zfv_0_3, zfv_0_4, zfv_0_5, zfv_0_6, zf_0_6, zfv_0_7, zf_0_7, zk_25, zfv_25_0, zfv_25_1, zfv_25_2, zf_25_2, zk_26, zn_26, zk_27, zfv_27_0, zk_28, zn_28, zk_29, zfv_29_0, zfv_29_1, zfv_29_2, zfv_29_3, zf_29_3, zk_30, zn_30, zk_31, zn_31, zk_32, zn_32, zk_33, zn_33, zk_34, zfv_34_0, zfv_34_1, zf_34_1, zfv_34_2, zf_34_2, zfv_34_3, zf_34_3, zk_35, zn_35, zk_36, zfv_36_0, zfv_36_1, zf_36_1, zfv_36_2, zf_36_2, zfv_36_3, zf_36_3, zk_37, zn_37, zk_38, zfv_38_0, zfv_38_1, zf_38_1, zfv_38_2, zf_38_2, zfv_38_3, zf_38_3, zk_39, zn_39, zk_40, zfv_40_0, zfv_40_1, zf_40_1, zfv_40_2, zf_40_2, zfv_40_3, zf_40_3, zk_41, zn_41, zk_1, zfv_1_0, zfv_1_1, zfv_1_2, zfv_1_3, zfv_1_4, zfv_1_5, zfv_1_6, zfv_1_7, zf_1_7, zfv_1_8, zf_1_8, zk_9, zfv_9_0, zfv_9_1, zfv_9_2, zfv_9_3, zfv_9_4, zfv_9_5, zfv_9_6, zfv_9_7, zf_9_7, zfv_9_8, zf_9_8, zk_17, zfv_17_0, zfv_17_1, zfv_17_2, zfv_17_3, zfv_17_4, zfv_17_5, zfv_17_6, zfv_17_7, zf_17_7, zfv_17_8, zf_17_8, zk_2, zn_2, zk_3, zn_3, zk_4, zn_4, zk_5, zn_5, zk_6, zn_6, zk_7, zn_7, zk_8, zn_8, zk_10, zn_10, zk_11, zn_11, zk_12, zn_12, zk_13, zn_13, zk_14, zn_14, zk_15, zn_15, zk_16, zn_16, zk_18, zn_18, zk_19, zn_19, zk_20, zn_20, zk_21, zn_21, zk_22, zn_22, zk_23, zn_23, zk_24, zn_24, c1]
    simp only [q130_0, q130_1, q130_2, q130_5, q130_8, q130_11, q130_14, q130_16, q130_17, q130_18, q130_21, q130_24, q130_26, q130_27, q130_28, q130_31i, q130_31r, q130_31n, q130_32, q130_33, q130_36, q130_37, q130_40, q130_41, q130_42, q130_45, q130_48, q130_50, q130_53, q130_54, q130_57, q130_58, q130_59, zNC, zcs_0, zcs_i, zcs_r, zcs_l, zpush_0, zpush_i, zpush_l, and_true, true_and, Nat.reduceLT, Nat.reduceLeDiff, Nat.reduceAdd, Nat.reduceMul, reduceIte, ite_true, ite_false, if_true, if_false, not_true_eq_false, not_false_eq_true, false_implies, true_implies, forall_const, implies_true, imp_self, and_self, false_and, and_false, ne_eq, zk_42, zfv_42_0, zf_42_0, zfv_42_1, zf_42_1, zfv_42_2, zf_42_2, zfv_42_3, zfv_42_4, zfv_42_5, zfv_42_6, zfv_42_7, zfv_42_8, zfv_42_9, zf_42_9, zfv_42_10, zf_42_10, zfv_42_11, zf_42_11, zfv_42_12, zfv_42_13, zfv_42_14, zfv_42_15, zfv_42_16, zfv_42_17, zfv_42_18, zf_42_18, zfv_42_19, zf_42_19, zfv_42_20, zfv_42_21, zfv_42_22, zfv_42_23, zf_42_23, zfv_42_24, zfv_42_25, zfv_42_26, zfv_42_27, zfv_42_28, zfv_42_29, zfv_42_30, zfv_42_31, zf_42_31, zk_43, zn_43, zk_44, zn_44, zk_45, zn_45, zk_46, zn_46, zk_47, zn_47, zk_48, zn_48, zk_49, zn_49, zk_50, zn_50, zk_51, zn_51, zk_52, zn_52, zk_53, zn_53, zk_54, zn_54, zk_55, zn_55, zk_56, zn_56, zk_57, zn_57, zk_58, zn_58, zk_59, zn_59, zk_60, zn_60, zk_61, zn_61, zk_62, zn_62, zk_63, zn_63, zk_64, zn_64, s_in, lm1, (i64_c _).2.2.2.1, zb1_0, c1']
    simp [J]
  · by_cases c2 : x < 6
    · have c1' : -1 ≤ x ∧ x ≤ 5 := by simp only [fa_lt, fa_le, fa_eq, zt_0, zt_1, zt_2, zt_3, zt_4, zt_5, zt_6, zt_7, zt_8, zt_9, zt_10, zt_11, zt_12, zt_13, zt_14, zt_15, zt_16, zt_17, zt_18, zt_19, zt_20, zt_21, zt_22, zt_23, zt_24, zt_25, zt_31, zt_40, zt_48, zt_50, zt_57, zt_59, zt_60, zt_97, zt_98, zt_99, zt_100, zt_112, zt_115, zt_119, zt_120, zt_255, zt_999, zt_m1, zt_m2, zt_m3, zt_m4, zt_m9, zt_m10, zt_m100] at *; omega
      by_cases h0 : h = 0
      · subst h0
        have e : nI 0 = 0 := rfl
        simp only [q53_0, q53_1, q53_2, q53_5, q53_6, q53_8, q53_11, q53_13, q53_14, q53_15, q53_18, q53_21, q53_24, q53_26, q53_27, q53_28, q53_29, q53_32, q53_35, q53_38, q53_40, q53_41, q53_42, q53_45, q53_46, q53_49, q53_52, q53_53, q53_54, q53_57, q53_58, q53_61, q53_64, q53_65, q53_66, q53_69, q53_70, q53_73, q53_74, q53_75, q53_78, q53_81, zNC, zcs_0, zcs_i, zcs_r, zcs_l, zpush_0, zpush_i, zpush_l, and_true, true_and, Nat.reduceLT, Nat.reduceLeDiff, Nat.reduceAdd, Nat.reduceMul, reduceIte, ite_true, ite_false, if_true, if_false, not_true_eq_false, not_false_eq_true, false_implies, true_implies, forall_const, implies_true, imp_self, and_self, false_and, and_false, ne_eq, zk_0, zfv_0_0, zfv_0_1, zfv_0_2, zfv_0_3, zfv_0_4, zfv_0_5, zfv_0_6, zf_0_6, zfv_0_7, zf_0_7, zk_25, zfv_25_0, zfv_25_1, zfv_25_2, zf_25_2, zk_26, zn_26, zk_27, zfv_27_0, zk_28, zn_28, zk_29, zfv_29_0, zfv_29_1, zfv_29_2, zfv_29_3, zf_29_3, zk_30, zn_30, zk_31, zn_31, zk_32, zn_32, zk_33, zn_33, zk_34, zfv_34_0, zfv_34_1, zf_34_1, zfv_34_2, zf_34_2, zfv_34_3, zf_34_3, zk_35, zn_35, zk_36, zfv_36_0, zfv_36_1, zf_36_1, zfv_36_2, zf_36_2, zfv_36_3, zf_36_3, zk_37, zn_37, zk_38, zfv_38_0, zfv_38_1, zf_38_1, zfv_38_2, zf_38_2, zfv_38_3, zf_38_3, zk_39, zn_39, zk_40, zfv_40_0, zfv_40_1, zf_40_1, zfv_40_2, zf_40_2, zfv_40_3, zf_40_3, zk_41, zn_41, zk_1, zfv_1_0, zfv_1_1, zfv_1_2, zfv_1_3, zfv_1_4, zfv_1_5, zfv_1_6, zfv_1_7, zf_1_7, zfv_1_8, zf_1_8, zk_9, zfv_9_0, zfv_9_1, zfv_9_2, zfv_9_3, zfv_9_4, zfv_9_5, zfv_9_6, zfv_9_7, zf_9_7, zfv_9_8, zf_9_8, zk_17, zfv_17_0, zfv_17_1, zfv_17_2, zfv_17_3, zfv_17_4, zfv_17_5, zfv_17_6, zfv_17_7, zf_17_7, zfv_17_8, zf_17_8, zk_2, zn_2, zk_3, zn_3, zk_4, zn_4, zk_5, zn_5, zk_6, zn_6, zk_7, zn_7, zk_8, zn_8, zk_10, zn_10, zk_11, zn_11, zk_12, zn_12, zk_13, zn_13, zk_14, zn_14, zk_15, zn_15, zk_16, zn_16, zk_18, zn_18, zk_19, zn_19, zk_20, zn_20, zk_21, zn_21, zk_22, zn_22, zk_23, zn_23, zk_24, zn_24, c1, c2, hh, e]
        simp only [q130_0, q130_1, q130_2, q130_5, q130_8, q130_11, q130_14, q130_16, q130_17, q130_18, q130_21, q130_24, q130_26, q130_27, q130_28, q130_31i, q130_31r, q130_31n, q130_32, q130_33, q130_36, q130_37, q130_40, q130_41, q130_42, q130_45, q130_48, q130_50, q130_53, q130_54, q130_57, q130_58, q130_59, zNC, zcs_0, zcs_i, zcs_r, zcs_l, zpush_0, zpush_i, zpush_l, and_true, true_and, Nat.reduceLT, Nat.reduceLeDiff, Nat.reduceAdd, Nat.reduceMul, reduceIte, ite_true, ite_false, if_true, if_false, not_true_eq_false, not_false_eq_true, false_implies, true_implies, forall_const, implies_true, imp_self, and_self, false_and, and_false, ne_eq, zk_42, zfv_42_0, zf_42_0, zfv_42_1, zf_42_1, zfv_42_2, zf_42_2, zfv_42_3, zfv_42_4, zfv_42_5, zfv_42_6, zfv_42_7, zfv_42_8, zfv_42_9, zf_42_9, zfv_42_10, zf_42_10, zfv_42_11, zf_42_11, zfv_42_12, zfv_42_13, zfv_42_14, zfv_42_15, zfv_42_16, zfv_42_17, zfv_42_18, zf_42_18, zfv_42_19, zf_42_19, zfv_42_20, zfv_42_21, zfv_42_22, zfv_42_23, zf_42_23, zfv_42_24, zfv_42_25, zfv_42_26, zfv_42_27, zfv_42_28, zfv_42_29, zfv_42_30, zfv_42_31, zf_42_31, zk_43, zn_43, zk_44, zn_44, zk_45, zn_45, zk_46, zn_46, zk_47, zn_47, zk_48, zn_48, zk_49, zn_49, zk_50, zn_50, zk_51, zn_51, zk_52, zn_52, zk_53, zn_53, zk_54, zn_54, zk_55, zn_55, zk_56, zn_56, zk_57, zn_57, zk_58, zn_58, zk_59, zn_59, zk_60, zn_60, zk_61, zn_61, zk_62, zn_62, zk_63, zn_63, zk_64, zn_64, s_in, lm1, (i64_c _).2.2.2.1, zb1_0, c1', hm, e]
        simp [J]
      · have h2 : 2 ≤ h := T.2.2.2.2.2.1.elim (fun e => absurd e h0) id
        have e : ¬ nI h = 0 := nI_ne0 (by omega) (by omega)
        obtain ⟨p, hp⟩ := (rows_best (L := LW M h) h2 h6).2
        have hN : ∀ e, e ≠ 28 → WN M h (2 ^ h - 1) (2 ^ h - 1) e = M e := fun e he => WN_ne M h _ he _
        have hTb := fun w hw => weigh_tbl T (by omega) (2 ^ h - 1) (Nat.le_refl _) w (by omega) hw
        have ew : ∀ Q' : zR → zM → Prop, _ := fun Q' => s_weigh (M := M) (Q := Q') hh h6
        by_cases cm : x = -1
        · subst cm
          have hlt : (-1 : Int32) < nI h := by
            have t1 : (nI h).toInt = h := nI_toInt (by omega)
            rw [fa_lt, zt_m1, t1]
            omega
          have e0 : WN M h (2 ^ h - 1) (2 ^ h - 1) 28 0 = nI p.1 := by
            rw [hTb 0 (Nat.two_pow_pos h)]
            have : h - fpop 6 0 = h := rfl
            rw [this, hp]
            rfl
          have z0 : zin 0 64 = true := by decide
          have c0 : (0 : Int32).toNatClampNeg = 0 := by decide
          simp only [q53_0, q53_1, q53_2, q53_5, q53_6, q53_8, q53_11, q53_13, q53_14, q53_15, q53_18, q53_21, q53_24, q53_26, q53_27, q53_28, q53_29, q53_32, q53_35, q53_38, q53_40, q53_41, q53_42, q53_45, q53_46, q53_49, q53_52, q53_53, q53_54, q53_57, q53_58, q53_61, q53_64, q53_65, q53_66, q53_69, q53_70, q53_73, q53_74, q53_75, q53_78, q53_81, zNC, zcs_0, zcs_i, zcs_r, zcs_l, zpush_0, zpush_i, zpush_l, and_true, true_and, Nat.reduceLT, Nat.reduceLeDiff, Nat.reduceAdd, Nat.reduceMul, reduceIte, ite_true, ite_false, if_true, if_false, not_true_eq_false, not_false_eq_true, false_implies, true_implies, forall_const, implies_true, imp_self, and_self, false_and, and_false, ne_eq, zk_0, zfv_0_0, zfv_0_1, zfv_0_2, zfv_0_3, zfv_0_4, zfv_0_5, zfv_0_6, zf_0_6, zfv_0_7, zf_0_7, zk_25, zfv_25_0, zfv_25_1, zfv_25_2, zf_25_2, zk_26, zn_26, zk_27, zfv_27_0, zk_28, zn_28, zk_29, zfv_29_0, zfv_29_1, zfv_29_2, zfv_29_3, zf_29_3, zk_30, zn_30, zk_31, zn_31, zk_32, zn_32, zk_33, zn_33, zk_34, zfv_34_0, zfv_34_1, zf_34_1, zfv_34_2, zf_34_2, zfv_34_3, zf_34_3, zk_35, zn_35, zk_36, zfv_36_0, zfv_36_1, zf_36_1, zfv_36_2, zf_36_2, zfv_36_3, zf_36_3, zk_37, zn_37, zk_38, zfv_38_0, zfv_38_1, zf_38_1, zfv_38_2, zf_38_2, zfv_38_3, zf_38_3, zk_39, zn_39, zk_40, zfv_40_0, zfv_40_1, zf_40_1, zfv_40_2, zf_40_2, zfv_40_3, zf_40_3, zk_41, zn_41, zk_1, zfv_1_0, zfv_1_1, zfv_1_2, zfv_1_3, zfv_1_4, zfv_1_5, zfv_1_6, zfv_1_7, zf_1_7, zfv_1_8, zf_1_8, zk_9, zfv_9_0, zfv_9_1, zfv_9_2, zfv_9_3, zfv_9_4, zfv_9_5, zfv_9_6, zfv_9_7, zf_9_7, zfv_9_8, zf_9_8, zk_17, zfv_17_0, zfv_17_1, zfv_17_2, zfv_17_3, zfv_17_4, zfv_17_5, zfv_17_6, zfv_17_7, zf_17_7, zfv_17_8, zf_17_8, zk_2, zn_2, zk_3, zn_3, zk_4, zn_4, zk_5, zn_5, zk_6, zn_6, zk_7, zn_7, zk_8, zn_8, zk_10, zn_10, zk_11, zn_11, zk_12, zn_12, zk_13, zn_13, zk_14, zn_14, zk_15, zn_15, zk_16, zn_16, zk_18, zn_18, zk_19, zn_19, zk_20, zn_20, zk_21, zn_21, zk_22, zn_22, zk_23, zn_23, zk_24, zn_24, c1, c2, hh, e, hlt, ew, z0, c0, e0]
          exact keep_ref J T h2 hN hp (Or.inl ⟨rfl, rfl⟩)
        · obtain ⟨k, hk, rfl⟩ := i_below (x := x) (n := 6) (by omega) (by simp only [fa_lt, fa_le, fa_eq, zt_0, zt_1, zt_2, zt_3, zt_4, zt_5, zt_6, zt_7, zt_8, zt_9, zt_10, zt_11, zt_12, zt_13, zt_14, zt_15, zt_16, zt_17, zt_18, zt_19, zt_20, zt_21, zt_22, zt_23, zt_24, zt_25, zt_31, zt_40, zt_48, zt_50, zt_57, zt_59, zt_60, zt_97, zt_98, zt_99, zt_100, zt_112, zt_115, zt_119, zt_120, zt_255, zt_999, zt_m1, zt_m2, zt_m3, zt_m4, zt_m9, zt_m10, zt_m100] at *; omega) c2
          by_cases hkh : k < h
          · have hlt : nI k < nI h := nI_lt hkh (by omega)
            have ek : ∀ Q' : zR → zM → Prop, _ := fun Q' => s_keeperFor (N := WN M h (2 ^ h - 1) (2 ^ h - 1)) (Q := Q') T hN hTb hkh hp
            simp only [q53_0, q53_1, q53_2, q53_5, q53_6, q53_8, q53_11, q53_13, q53_14, q53_15, q53_18, q53_21, q53_24, q53_26, q53_27, q53_28, q53_29, q53_32, q53_35, q53_38, q53_40, q53_41, q53_42, q53_45, q53_46, q53_49, q53_52, q53_53, q53_54, q53_57, q53_58, q53_61, q53_64, q53_65, q53_66, q53_69, q53_70, q53_73, q53_74, q53_75, q53_78, q53_81, zNC, zcs_0, zcs_i, zcs_r, zcs_l, zpush_0, zpush_i, zpush_l, and_true, true_and, Nat.reduceLT, Nat.reduceLeDiff, Nat.reduceAdd, Nat.reduceMul, reduceIte, ite_true, ite_false, if_true, if_false, not_true_eq_false, not_false_eq_true, false_implies, true_implies, forall_const, implies_true, imp_self, and_self, false_and, and_false, ne_eq, zk_0, zfv_0_0, zfv_0_1, zfv_0_2, zfv_0_3, zfv_0_4, zfv_0_5, zfv_0_6, zf_0_6, zfv_0_7, zf_0_7, zk_25, zfv_25_0, zfv_25_1, zfv_25_2, zf_25_2, zk_26, zn_26, zk_27, zfv_27_0, zk_28, zn_28, zk_29, zfv_29_0, zfv_29_1, zfv_29_2, zfv_29_3, zf_29_3, zk_30, zn_30, zk_31, zn_31, zk_32, zn_32, zk_33, zn_33, zk_34, zfv_34_0, zfv_34_1, zf_34_1, zfv_34_2, zf_34_2, zfv_34_3, zf_34_3, zk_35, zn_35, zk_36, zfv_36_0, zfv_36_1, zf_36_1, zfv_36_2, zf_36_2, zfv_36_3, zf_36_3, zk_37, zn_37, zk_38, zfv_38_0, zfv_38_1, zf_38_1, zfv_38_2, zf_38_2, zfv_38_3, zf_38_3, zk_39, zn_39, zk_40, zfv_40_0, zfv_40_1, zf_40_1, zfv_40_2, zf_40_2, zfv_40_3, zf_40_3, zk_41, zn_41, zk_1, zfv_1_0, zfv_1_1, zfv_1_2, zfv_1_3, zfv_1_4, zfv_1_5, zfv_1_6, zfv_1_7, zf_1_7, zfv_1_8, zf_1_8, zk_9, zfv_9_0, zfv_9_1, zfv_9_2, zfv_9_3, zfv_9_4, zfv_9_5, zfv_9_6, zfv_9_7, zf_9_7, zfv_9_8, zf_9_8, zk_17, zfv_17_0, zfv_17_1, zfv_17_2, zfv_17_3, zfv_17_4, zfv_17_5, zfv_17_6, zfv_17_7, zf_17_7, zfv_17_8, zf_17_8, zk_2, zn_2, zk_3, zn_3, zk_4, zn_4, zk_5, zn_5, zk_6, zn_6, zk_7, zn_7, zk_8, zn_8, zk_10, zn_10, zk_11, zn_11, zk_12, zn_12, zk_13, zn_13, zk_14, zn_14, zk_15, zn_15, zk_16, zn_16, zk_18, zn_18, zk_19, zn_19, zk_20, zn_20, zk_21, zn_21, zk_22, zn_22, zk_23, zn_23, zk_24, zn_24, c1, c2, hh, e, hlt, ew, cm, ek]
            exact keep_ref J T h2 hN hp (Or.inr ⟨k, hk, rfl, by rw [if_pos hkh]⟩)
          · have hlt : ¬ nI k < nI h := fun e => hkh ((nI_ltI (by omega) (by omega)).mp e)
            simp only [q53_0, q53_1, q53_2, q53_5, q53_6, q53_8, q53_11, q53_13, q53_14, q53_15, q53_18, q53_21, q53_24, q53_26, q53_27, q53_28, q53_29, q53_32, q53_35, q53_38, q53_40, q53_41, q53_42, q53_45, q53_46, q53_49, q53_52, q53_53, q53_54, q53_57, q53_58, q53_61, q53_64, q53_65, q53_66, q53_69, q53_70, q53_73, q53_74, q53_75, q53_78, q53_81, zNC, zcs_0, zcs_i, zcs_r, zcs_l, zpush_0, zpush_i, zpush_l, and_true, true_and, Nat.reduceLT, Nat.reduceLeDiff, Nat.reduceAdd, Nat.reduceMul, reduceIte, ite_true, ite_false, if_true, if_false, not_true_eq_false, not_false_eq_true, false_implies, true_implies, forall_const, implies_true, imp_self, and_self, false_and, and_false, ne_eq, zk_0, zfv_0_0, zfv_0_1, zfv_0_2, zfv_0_3, zfv_0_4, zfv_0_5, zfv_0_6, zf_0_6, zfv_0_7, zf_0_7, zk_25, zfv_25_0, zfv_25_1, zfv_25_2, zf_25_2, zk_26, zn_26, zk_27, zfv_27_0, zk_28, zn_28, zk_29, zfv_29_0, zfv_29_1, zfv_29_2, zfv_29_3, zf_29_3, zk_30, zn_30, zk_31, zn_31, zk_32, zn_32, zk_33, zn_33, zk_34, zfv_34_0, zfv_34_1, zf_34_1, zfv_34_2, zf_34_2, zfv_34_3, zf_34_3, zk_35, zn_35, zk_36, zfv_36_0, zfv_36_1, zf_36_1, zfv_36_2, zf_36_2, zfv_36_3, zf_36_3, zk_37, zn_37, zk_38, zfv_38_0, zfv_38_1, zf_38_1, zfv_38_2, zf_38_2, zfv_38_3, zf_38_3, zk_39, zn_39, zk_40, zfv_40_0, zfv_40_1, zf_40_1, zfv_40_2, zf_40_2, zfv_40_3, zf_40_3, zk_41, zn_41, zk_1, zfv_1_0, zfv_1_1, zfv_1_2, zfv_1_3, zfv_1_4, zfv_1_5, zfv_1_6, zfv_1_7, zf_1_7, zfv_1_8, zf_1_8, zk_9, zfv_9_0, zfv_9_1, zfv_9_2, zfv_9_3, zfv_9_4, zfv_9_5, zfv_9_6, zfv_9_7, zf_9_7, zfv_9_8, zf_9_8, zk_17, zfv_17_0, zfv_17_1, zfv_17_2, zfv_17_3, zfv_17_4, zfv_17_5, zfv_17_6, zfv_17_7, zf_17_7, zfv_17_8, zf_17_8, zk_2, zn_2, zk_3, zn_3, zk_4, zn_4, zk_5, zn_5, zk_6, zn_6, zk_7, zn_7, zk_8, zn_8, zk_10, zn_10, zk_11, zn_11, zk_12, zn_12, zk_13, zn_13, zk_14, zn_14, zk_15, zn_15, zk_16, zn_16, zk_18, zn_18, zk_19, zn_19, zk_20, zn_20, zk_21, zn_21, zk_22, zn_22, zk_23, zn_23, zk_24, zn_24, c1, c2, hh, e, hlt]
            exact keep_ref J T h2 (fun e _ => rfl) hp (Or.inr ⟨k, hk, rfl, by rw [if_neg hkh]⟩)
    · have c1' : ¬ (-1 ≤ x ∧ x ≤ 5) := by simp only [fa_lt, fa_le, fa_eq, zt_0, zt_1, zt_2, zt_3, zt_4, zt_5, zt_6, zt_7, zt_8, zt_9, zt_10, zt_11, zt_12, zt_13, zt_14, zt_15, zt_16, zt_17, zt_18, zt_19, zt_20, zt_21, zt_22, zt_23, zt_24, zt_25, zt_31, zt_40, zt_48, zt_50, zt_57, zt_59, zt_60, zt_97, zt_98, zt_99, zt_100, zt_112, zt_115, zt_119, zt_120, zt_255, zt_999, zt_m1, zt_m2, zt_m3, zt_m4, zt_m9, zt_m10, zt_m100] at *; omega
      simp only [q53_0, q53_1, q53_2, q53_5, q53_6, q53_8, q53_11, q53_13, q53_14, q53_15, q53_18, q53_21, q53_24, q53_26, q53_27, q53_28, q53_29, q53_32, q53_35, q53_38, q53_40, q53_41, q53_42, q53_45, q53_46, q53_49, q53_52, q53_53, q53_54, q53_57, q53_58, q53_61, q53_64, q53_65, q53_66, q53_69, q53_70, q53_73, q53_74, q53_75, q53_78, q53_81, zNC, zcs_0, zcs_i, zcs_r, zcs_l, zpush_0, zpush_i, zpush_l, and_true, true_and, Nat.reduceLT, Nat.reduceLeDiff, Nat.reduceAdd, Nat.reduceMul, reduceIte, ite_true, ite_false, if_true, if_false, not_true_eq_false, not_false_eq_true, false_implies, true_implies, forall_const, implies_true, imp_self, and_self, false_and, and_false, ne_eq, zk_0, zfv_0_0, zfv_0_1, zfv_0_2, zfv_0_3, zfv_0_4, zfv_0_5, zfv_0_6, zf_0_6, zfv_0_7, zf_0_7, zk_25, zfv_25_0, zfv_25_1, zfv_25_2, zf_25_2, zk_26, zn_26, zk_27, zfv_27_0, zk_28, zn_28, zk_29, zfv_29_0, zfv_29_1, zfv_29_2, zfv_29_3, zf_29_3, zk_30, zn_30, zk_31, zn_31, zk_32, zn_32, zk_33, zn_33, zk_34, zfv_34_0, zfv_34_1, zf_34_1, zfv_34_2, zf_34_2, zfv_34_3, zf_34_3, zk_35, zn_35, zk_36, zfv_36_0, zfv_36_1, zf_36_1, zfv_36_2, zf_36_2, zfv_36_3, zf_36_3, zk_37, zn_37, zk_38, zfv_38_0, zfv_38_1, zf_38_1, zfv_38_2, zf_38_2, zfv_38_3, zf_38_3, zk_39, zn_39, zk_40, zfv_40_0, zfv_40_1, zf_40_1, zfv_40_2, zf_40_2, zfv_40_3, zf_40_3, zk_41, zn_41, zk_1, zfv_1_0, zfv_1_1, zfv_1_2, zfv_1_3, zfv_1_4, zfv_1_5, zfv_1_6, zfv_1_7, zf_1_7, zfv_1_8, zf_1_8, zk_9, zfv_9_0, zfv_9_1, zfv_9_2, zfv_9_3, zfv_9_4, zfv_9_5, zfv_9_6, zfv_9_7, zf_9_7, zfv_9_8, zf_9_8, zk_17, zfv_17_0, zfv_17_1, zfv_17_2, zfv_17_3, zfv_17_4, zfv_17_5, zfv_17_6, zfv_17_7, zf_17_7, zfv_17_8, zf_17_8, zk_2, zn_2, zk_3, zn_3, zk_4, zn_4, zk_5, zn_5, zk_6, zn_6, zk_7, zn_7, zk_8, zn_8, zk_10, zn_10, zk_11, zn_11, zk_12, zn_12, zk_13, zn_13, zk_14, zn_14, zk_15, zn_15, zk_16, zn_16, zk_18, zn_18, zk_19, zn_19, zk_20, zn_20, zk_21, zn_21, zk_22, zn_22, zk_23, zn_23, zk_24, zn_24, c1, c2]
      simp only [q130_0, q130_1, q130_2, q130_5, q130_8, q130_11, q130_14, q130_16, q130_17, q130_18, q130_21, q130_24, q130_26, q130_27, q130_28, q130_31i, q130_31r, q130_31n, q130_32, q130_33, q130_36, q130_37, q130_40, q130_41, q130_42, q130_45, q130_48, q130_50, q130_53, q130_54, q130_57, q130_58, q130_59, zNC, zcs_0, zcs_i, zcs_r, zcs_l, zpush_0, zpush_i, zpush_l, and_true, true_and, Nat.reduceLT, Nat.reduceLeDiff, Nat.reduceAdd, Nat.reduceMul, reduceIte, ite_true, ite_false, if_true, if_false, not_true_eq_false, not_false_eq_true, false_implies, true_implies, forall_const, implies_true, imp_self, and_self, false_and, and_false, ne_eq, zk_42, zfv_42_0, zf_42_0, zfv_42_1, zf_42_1, zfv_42_2, zf_42_2, zfv_42_3, zfv_42_4, zfv_42_5, zfv_42_6, zfv_42_7, zfv_42_8, zfv_42_9, zf_42_9, zfv_42_10, zf_42_10, zfv_42_11, zf_42_11, zfv_42_12, zfv_42_13, zfv_42_14, zfv_42_15, zfv_42_16, zfv_42_17, zfv_42_18, zf_42_18, zfv_42_19, zf_42_19, zfv_42_20, zfv_42_21, zfv_42_22, zfv_42_23, zf_42_23, zfv_42_24, zfv_42_25, zfv_42_26, zfv_42_27, zfv_42_28, zfv_42_29, zfv_42_30, zfv_42_31, zf_42_31, zk_43, zn_43, zk_44, zn_44, zk_45, zn_45, zk_46, zn_46, zk_47, zn_47, zk_48, zn_48, zk_49, zn_49, zk_50, zn_50, zk_51, zn_51, zk_52, zn_52, zk_53, zn_53, zk_54, zn_54, zk_55, zn_55, zk_56, zn_56, zk_57, zn_57, zk_58, zn_58, zk_59, zn_59, zk_60, zn_60, zk_61, zn_61, zk_62, zn_62, zk_63, zn_63, zk_64, zn_64, s_in, lm1, (i64_c _).2.2.2.1, zb1_0, c1']
      simp [J]
end OP
