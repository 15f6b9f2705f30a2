section IV
variable {M M' : zM} {h y lw c k t : Nat}
theorem fsb_nn {l s v r : Int32} (hs : 0 ≤ s) : 0 ≤ fsb l s v r := by
  unfold fsb
  split
  · split
    · rename_i e; simp only [fa_lt, fa_le, fa_eq, zt_0, zt_1, zt_2, zt_3, zt_4, zt_5, zt_6, zt_7, zt_8, zt_9, zt_10, zt_11, zt_12, zt_13, zt_14, zt_15, zt_16, zt_17, zt_18, zt_19, zt_20, zt_21, zt_22, zt_23, zt_24, zt_25, zt_31, zt_40, zt_48, zt_50, zt_57, zt_59, zt_60, zt_97, zt_98, zt_99, zt_100, zt_112, zt_115, zt_119, zt_120, zt_255, zt_999, zt_m1, zt_m2, zt_m3, zt_m4, zt_m9, zt_m10, zt_m100] at *; omega
    · exact i_le_refl _
  · exact hs
theorem ysn_nn {l r s : Int32} (hs : 0 ≤ s) : ∀ n, 0 ≤ ysn l r n s := by
  intro n
  induction n with
  | zero => exact hs
  | succ n ih => exact fsb_nn ih
theorem fsb_val : ∀ s, s < 100 → ∀ r, r < 14 → fsb 0 (nI s) 1 (nI r) = nI (s - r) := by decide +kernel
theorem ysn_val {l : Int32} {r s : Nat} (hs : s < 100) (hr : r < 14) : ∀ n, ∃ v, v ≤ s ∧ ysn l (nI r) n (nI s) = nI v := by
  intro n
  induction n with
  | zero => exact ⟨s, Nat.le_refl _, rfl⟩
  | succ n ih =>
    obtain ⟨v, hv, e⟩ := ih
    simp only [ysn, e]
    by_cases hl : l = 0
    · subst hl
      exact ⟨v - r, by omega, fsb_val v (by omega) r hr⟩
    · exact ⟨v, hv, by unfold fsb; rw [if_neg hl]⟩
def fgm (M : zM) (h p : Nat) : Nat → Int32 := fun i => if i < h then ysn (fml M i) (fmr M i) p (M 44 i) else M 44 i
def MGm (h p : Nat) (M : zM) : zM := zup (zrow M 44 (fgm M h p)) 42 2 (M 42 2 + nI p)
theorem MGm_0 : MGm h 0 M = M := by
  unfold MGm
  have e1 : zrow M 44 (fgm M h 0) = M := by
    funext a
    unfold zrow fgm
    split
    · rename_i e; rw [e]; funext i; simp [ysn]
    · rfl
  rw [e1, show M 42 2 + nI 0 = M 42 2 by rw [nI_0]; simp]
  exact zup_id M 42 2
theorem MGm_ml (p i : Nat) : fml (MGm h p M) i = fml M i := rfl
theorem MGm_mr (p i : Nat) : fmr (MGm h p M) i = fmr M i := rfl
theorem MGm_44 (p : Nat) : MGm h p M 44 = fgm M h p := rfl
theorem MGm_s (p : Nat) : MYm h (MGm h p M) = MGm h (p + 1) M := by
  have a2 : MGm h p M 42 2 = M 42 2 + nI p := by unfold MGm; simp [zup_app]
  unfold MYm
  have a3 : mys (MGm h p M) h = fgm M h (p + 1) := by
    funext i
    unfold mys fmsb
    rw [MGm_44, MGm_ml, MGm_mr]
    unfold fgm
    split <;> rfl
  rw [a2, a3, show M 42 2 + nI p + 1 = M 42 2 + nI (p + 1) by rw [nI_succ]; exact Int32.add_assoc _ _ _]
  unfold MGm
  funext a
  unfold zup zrow
  by_cases h1 : a = 42
  · subst h1
    simp
    funext j
    unfold upd
    split <;> simp_all
  · by_cases h2 : a = 44 <;> simp [h1, h2]
theorem l_mgo (hh : M 42 1 = nI h) (h6 : h ≤ 6) (H : zKm M h) (S : ∀ k, k < h → 0 ≤ M 44 k) {Q : zR → zM → Prop} {n v : Nat} (hn : n < 100) : ∀ d p, p + d = n → (zQ 115 50 [.ref 42, .int (nI n), .int (nI v), .int (nI p)] [] (MGm h p M) Q ↔ zQ 115 65 [.ref 42, .int (nI n), .int (nI v), .int (nI n)] [] (MGm h n M) Q) := by
  intro d
  induction d with
  | zero =>
    intro p hp
    obtain rfl : p = n := by omega
    rw [q115_50]
    simp only [q115_0, q115_1, q115_4, q115_7, q115_9, q115_10, q115_11, q115_12, q115_13, q115_16, q115_19, q115_22, q115_24, q115_25, q115_26, q115_29, q115_30, q115_31, q115_34, q115_37, q115_39, q115_40, q115_41, q115_44, q115_47i, q115_47r, q115_47n, q115_48, q115_49i, q115_49r, q115_49n, q115_51, q115_52, q115_55, q115_56, q115_59i, q115_59r, q115_59n, q115_62, q115_66, q115_67, q115_70, q115_73, q115_74, zNC, zcs_0, zcs_i, zcs_r, zcs_l, zpush_0, zpush_i, zpush_l, and_true, true_and, Nat.reduceLT, Nat.reduceLeDiff, Nat.reduceAdd, Nat.reduceMul, reduceIte, ite_true, ite_false, if_true, if_false, not_true_eq_false, not_false_eq_true, false_implies, true_implies, forall_const, implies_true, imp_self, and_self, false_and, and_false, ne_eq, zk_42, zfv_42_0, zf_42_0, zfv_42_1, zf_42_1, zfv_42_2, zf_42_2, zfv_42_3, zfv_42_4, zfv_42_5, zfv_42_6, zfv_42_7, zfv_42_8, zfv_42_9, zf_42_9, zfv_42_10, zf_42_10, zfv_42_11, zf_42_11, zfv_42_12, zfv_42_13, zfv_42_14, zfv_42_15, zfv_42_16, zfv_42_17, zfv_42_18, zf_42_18, zfv_42_19, zf_42_19, zfv_42_20, zfv_42_21, zfv_42_22, zfv_42_23, zf_42_23, zfv_42_24, zfv_42_25, zfv_42_26, zfv_42_27, zfv_42_28, zfv_42_29, zfv_42_30, zfv_42_31, zf_42_31, zk_43, zn_43, zk_44, zn_44, zk_45, zn_45, zk_46, zn_46, zk_47, zn_47, zk_48, zn_48, zk_49, zn_49, zk_50, zn_50, zk_51, zn_51, zk_52, zn_52, zk_53, zn_53, zk_54, zn_54, zk_55, zn_55, zk_56, zn_56, zk_57, zn_57, zk_58, zn_58, zk_59, zn_59, zk_60, zn_60, zk_61, zn_61, zk_62, zn_62, zk_63, zn_63, zk_64, zn_64, i_le_refl]
  | succ d ih =>
    intro p hp
    have h1 : ¬ nI n ≤ nI p := nI_ge (by omega) (by omega)
    have ih' := ih (p + 1) (by omega)
    have hS : ∀ k, k < h → 0 ≤ MGm h p M 44 k := fun k hk => by rw [MGm_44]; unfold fgm; rw [if_pos hk]; exact ysn_nn (S k hk) p
    have hH : zKm (MGm h p M) h := H
    have hh2 : MGm h p M 42 1 = nI h := hh
    rw [q115_50, ← ih', ← MGm_s]
    simp only [q115_0, q115_1, q115_4, q115_7, q115_9, q115_10, q115_11, q115_12, q115_13, q115_16, q115_19, q115_22, q115_24, q115_25, q115_26, q115_29, q115_30, q115_31, q115_34, q115_37, q115_39, q115_40, q115_41, q115_44, q115_47i, q115_47r, q115_47n, q115_48, q115_49i, q115_49r, q115_49n, q115_51, q115_52, q115_55, q115_56, q115_59i, q115_59r, q115_59n, q115_62, q115_66, q115_67, q115_70, q115_73, q115_74, zNC, zcs_0, zcs_i, zcs_r, zcs_l, zpush_0, zpush_i, zpush_l, and_true, true_and, Nat.reduceLT, Nat.reduceLeDiff, Nat.reduceAdd, Nat.reduceMul, reduceIte, ite_true, ite_false, if_true, if_false, not_true_eq_false, not_false_eq_true, false_implies, true_implies, forall_const, implies_true, imp_self, and_self, false_and, and_false, ne_eq, zk_42, zfv_42_0, zf_42_0, zfv_42_1, zf_42_1, zfv_42_2, zf_42_2, zfv_42_3, zfv_42_4, zfv_42_5, zfv_42_6, zfv_42_7, zfv_42_8, zfv_42_9, zf_42_9, zfv_42_10, zf_42_10, zfv_42_11, zf_42_11, zfv_42_12, zfv_42_13, zfv_42_14, zfv_42_15, zfv_42_16, zfv_42_17, zfv_42_18, zf_42_18, zfv_42_19, zf_42_19, zfv_42_20, zfv_42_21, zfv_42_22, zfv_42_23, zf_42_23, zfv_42_24, zfv_42_25, zfv_42_26, zfv_42_27, zfv_42_28, zfv_42_29, zfv_42_30, zfv_42_31, zf_42_31, zk_43, zn_43, zk_44, zn_44, zk_45, zn_45, zk_46, zn_46, zk_47, zn_47, zk_48, zn_48, zk_49, zn_49, zk_50, zn_50, zk_51, zn_51, zk_52, zn_52, zk_53, zn_53, zk_54, zn_54, zk_55, zn_55, zk_56, zn_56, zk_57, zn_57, zk_58, zn_58, zk_59, zn_59, zk_60, zn_60, zk_61, zn_61, zk_62, zn_62, zk_63, zn_63, zk_64, zn_64, h1, s_oneYear (M := MGm h p M) hh2 h6 hH hS, nI_1]
theorem JT_go (T : JT M h y lw) {n : Nat} (hn : y + n ≤ 999) : JT (MGm h n (MG 1 h n M)) h (y + n) lw := by
  have hml := fun k hk => JT_ml (k := k) T hk
  have hmr := fun k hk => JT_mr (k := k) T hk
  have hrk := fun k hk => JT_rk (k := k) T hk
  obtain ⟨t1, t2, t3, t4, t5, t6, t7, t8, t9, G⟩ := T
  have e1 : MGm h n (MG 1 h n M) 1 8 = M 1 8 + nI n := by
    show MG 1 h n M 1 8 = _
    unfold MG; simp [zup_app]
  have e2 : MGm h n (MG 1 h n M) 42 2 = M 42 2 + nI n := by unfold MGm; simp [zup_app]; rfl
  refine ⟨(MG_7 (M := M) (t := 1) (h := h) n).trans t1, t2, by rw [e1, t3, nI_add], by rw [e2, t4, nI_add], t5, t6, t7, hn, t9, fun k hk => ?_⟩
  obtain ⟨⟨g1, g2, g3, g4, g5, g6, g7⟩, b1, b2, b3, b4, b5⟩ := G k hk
  have s3 : MGm h n (MG 1 h n M) 3 k = ysn (M 8 k) (frk M 1 k) n (M 3 k) := by
    show fgo M 1 h n k = _
    unfold fgo; rw [if_pos hk]
  have s44 : MGm h n (MG 1 h n M) 44 k = ysn (fml M k) (fmr M k) n (M 44 k) := by
    rw [MGm_44]; unfold fgm; rw [if_pos hk]; rfl
  refine ⟨⟨g1, ?_, g3, g4, g5, g6, g7⟩, b1, ?_, b3, b4, b5⟩
  · rw [s3, s44, hml k hk, hmr k hk, g2]
  · obtain ⟨s, f, hs, hf, es, ef⟩ := b2
    obtain ⟨r, hr, er⟩ := hrk k hk
    rw [hmr k hk] at er
    obtain ⟨v, hv, ev⟩ := ysn_val (l := M 8 k) (r := r) (s := s) (by omega) (by omega) n
    exact ⟨v, f, by omega, hf, by rw [s3, er, es, ev], ef⟩
end IV
section OP
variable {M : zM} {x x2 x3 x4 x5 : Int32}
theorem op_go (J : zV M) : zQ 48 0 [.ref 0, .int x, .null, .null] [] M (fun r M1 => zQ 115 0 [.ref 42, .int x, .null, .null] [] M1 (fun r2 M2 => r2 = r ∧ zV M2)) := by
  obtain ⟨h, y, lw, c, T, R, S, Z⟩ := id J
  have hh := T.1
  have hm := T.2.1
  have h6 := T.2.2.2.2.2.2.1
  have hy := T.2.2.1
  have hy2 := T.2.2.2.1
  have hy9 := T.2.2.2.2.2.2.2.1
  have l1 : (1 ≤ x.toInt64 ↔ 1 ≤ x) := fa_wide_le 1 x
  by_cases h0 : h = 0
  · subst h0
    have e : nI 0 = 0 := rfl
    simp only [q48_0, q48_1, q48_4, q48_7, q48_10, q48_12, q48_13, q48_14, q48_15, q48_18, q48_19, q48_21, q48_24, q48_26, q48_27, q48_28, q48_31, q48_34, q48_35, q48_36, q48_39, q48_42, q48_44, q48_45, q48_46, q48_49, q48_52, q48_55i, q48_55r, q48_55n, q48_56, q48_57i, q48_57r, q48_57n, q48_59, q48_60, q48_63, q48_64, q48_67, q48_70i, q48_70r, q48_70n, q48_73, q48_76, q48_77, q48_78, q48_81, q48_84, q48_87, q48_88, zNC, zcs_0, zcs_i, zcs_r, zcs_l, zpush_0, zpush_i, zpush_l, and_true, true_and, Nat.reduceLT, Nat.reduceLeDiff, Nat.reduceAdd, Nat.reduceMul, reduceIte, ite_true, ite_false, if_true, if_false, not_true_eq_false, not_false_eq_true, false_implies, true_implies, forall_const, implies_true, imp_self, and_self, false_and, and_false, ne_eq, zk_0, zfv_0_0, zfv_0_1, zfv_0_2, zfv_0_3, zfv_0_4, zfv_0_5, zfv_0_6, zf_0_6, zfv_0_7, zf_0_7, zk_25, zfv_25_0, zfv_25_1, zfv_25_2, zf_25_2, zk_26, zn_26, zk_27, zfv_27_0, zk_28, zn_28, zk_29, zfv_29_0, zfv_29_1, zfv_29_2, zfv_29_3, zf_29_3, zk_30, zn_30, zk_31, zn_31, zk_32, zn_32, zk_33, zn_33, zk_34, zfv_34_0, zfv_34_1, zf_34_1, zfv_34_2, zf_34_2, zfv_34_3, zf_34_3, zk_35, zn_35, zk_36, zfv_36_0, zfv_36_1, zf_36_1, zfv_36_2, zf_36_2, zfv_36_3, zf_36_3, zk_37, zn_37, zk_38, zfv_38_0, zfv_38_1, zf_38_1, zfv_38_2, zf_38_2, zfv_38_3, zf_38_3, zk_39, zn_39, zk_40, zfv_40_0, zfv_40_1, zf_40_1, zfv_40_2, zf_40_2, zfv_40_3, zf_40_3, zk_41, zn_41, zk_1, zfv_1_0, zfv_1_1, zfv_1_2, zfv_1_3, zfv_1_4, zfv_1_5, zfv_1_6, zfv_1_7, zf_1_7, zfv_1_8, zf_1_8, zk_9, zfv_9_0, zfv_9_1, zfv_9_2, zfv_9_3, zfv_9_4, zfv_9_5, zfv_9_6, zfv_9_7, zf_9_7, zfv_9_8, zf_9_8, zk_17, zfv_17_0, zfv_17_1, zfv_17_2, zfv_17_3, zfv_17_4, zfv_17_5, zfv_17_6, zfv_17_7, zf_17_7, zfv_17_8, zf_17_8, zk_2, zn_2, zk_3, zn_3, zk_4, zn_4, zk_5, zn_5, zk_6, zn_6, zk_7, zn_7, zk_8, zn_8, zk_10, zn_10, zk_11, zn_11, zk_12, zn_12, zk_13, zn_13, zk_14, zn_14, zk_15, zn_15, zk_16, zn_16, zk_18, zn_18, zk_19, zn_19, zk_20, zn_20, zk_21, zn_21, zk_22, zn_22, zk_23, zn_23, zk_24, zn_24, hh, e]
    simp only [q115_0, q115_1, q115_4, q115_7, q115_9, q115_10, q115_11, q115_12, q115_13, q115_16, q115_19, q115_22, q115_24, q115_25, q115_26, q115_29, q115_30, q115_31, q115_34, q115_37, q115_39, q115_40, q115_41, q115_44, q115_47i, q115_47r, q115_47n, q115_48, q115_49i, q115_49r, q115_49n, q115_51, q115_52, q115_55, q115_56, q115_59i, q115_59r, q115_59n, q115_62, q115_65, q115_66, q115_67, q115_70, q115_73, q115_74, zNC, zcs_0, zcs_i, zcs_r, zcs_l, zpush_0, zpush_i, zpush_l, and_true, true_and, Nat.reduceLT, Nat.reduceLeDiff, Nat.reduceAdd, Nat.reduceMul, reduceIte, ite_true, ite_false, if_true, if_false, not_true_eq_false, not_false_eq_true, false_implies, true_implies, forall_const, implies_true, imp_self, and_self, false_and, and_false, ne_eq, zk_42, zfv_42_0, zf_42_0, zfv_42_1, zf_42_1, zfv_42_2, zf_42_2, zfv_42_3, zfv_42_4, zfv_42_5, zfv_42_6, zfv_42_7, zfv_42_8, zfv_42_9, zf_42_9, zfv_42_10, zf_42_10, zfv_42_11, zf_42_11, zfv_42_12, zfv_42_13, zfv_42_14, zfv_42_15, zfv_42_16, zfv_42_17, zfv_42_18, zf_42_18, zfv_42_19, zf_42_19, zfv_42_20, zfv_42_21, zfv_42_22, zfv_42_23, zf_42_23, zfv_42_24, zfv_42_25, zfv_42_26, zfv_42_27, zfv_42_28, zfv_42_29, zfv_42_30, zfv_42_31, zf_42_31, zk_43, zn_43, zk_44, zn_44, zk_45, zn_45, zk_46, zn_46, zk_47, zn_47, zk_48, zn_48, zk_49, zn_49, zk_50, zn_50, zk_51, zn_51, zk_52, zn_52, zk_53, zn_53, zk_54, zn_54, zk_55, zn_55, zk_56, zn_56, zk_57, zn_57, zk_58, zn_58, zk_59, zn_59, zk_60, zn_60, zk_61, zn_61, zk_62, zn_62, zk_63, zn_63, zk_64, zn_64, hm, e]
    simp [J]
  · have e : ¬ nI h = 0 := nI_ne0 (by omega) (by omega)
    by_cases c1 : x < 1
    · have c1' : ¬ (1 ≤ x ∧ x ≤ 99) := by simp only [fa_lt, fa_le, fa_eq, zt_0, zt_1, zt_2, zt_3, zt_4, zt_5, zt_6, zt_7, zt_8, zt_9, zt_10, zt_11, zt_12, zt_13, zt_14, zt_15, zt_16, zt_17, zt_18, zt_19, zt_20, zt_21, zt_22, zt_23, zt_24, zt_25, zt_31, zt_40, zt_48, zt_50, zt_57, zt_59, zt_60, zt_97, zt_98, zt_99, zt_100, zt_112, zt_115, zt_119, zt_120, zt_255, zt_999, zt_m1, zt_m2, zt_m3, zt_m4, zt_m9, zt_m10, zt_m100] at *; omega
      simp only [q48_0, q48_1, q48_4, q48_7, q48_10, q48_12, q48_13, q48_14, q48_15, q48_18, q48_19, q48_21, q48_24, q48_26, q48_27, q48_28, q48_31, q48_34, q48_35, q48_36, q48_39, q48_42, q48_44, q48_45, q48_46, q48_49, q48_52, q48_55i, q48_55r, q48_55n, q48_56, q48_57i, q48_57r, q48_57n, q48_59, q48_60, q48_63, q48_64, q48_67, q48_70i, q48_70r, q48_70n, q48_73, q48_76, q48_77, q48_78, q48_81, q48_84, q48_87, q48_88, zNC, zcs_0, zcs_i, zcs_r, zcs_l, zpush_0, zpush_i, zpush_l, and_true, true_and, Nat.reduceLT, Nat.reduceLeDiff, Nat.reduceAdd, Nat.reduceMul, reduceIte, ite_true, ite_false, if_true, if_false, not_true_eq_false, not_false_eq_true, false_implies, true_implies, forall_const, implies_true, imp_self, and_self, false_and, and_false, ne_eq, zk_0, zfv_0_0, zfv_0_1, zfv_0_2, zfv_0_3, zfv_0_4, zfv_0_5, zfv_0_6, zf_0_6, zfv_0_7, zf_0_7, zk_25, zfv_25_0, zfv_25_1, zfv_25_2, zf_25_2, zk_26, zn_26, zk_27, zfv_27_0, zk_28, zn_28, zk_29, zfv_29_0, zfv_29_1, zfv_29_2, zfv_29_3, zf_29_3, zk_30, zn_30, zk_31, zn_31, zk_32, zn_32, zk_33, zn_33, zk_34, zfv_34_0, zfv_34_1, zf_34_1, zfv_34_2, zf_34_2, zfv_34_3, zf_34_3, zk_35, zn_35, zk_36, zfv_36_0, zfv_36_1, zf_36_1, zfv_36_2, zf_36_2, zfv_36_3, zf_36_3, zk_37, zn_37, zk_38, zfv_38_0, zfv_38_1, zf_38_1, zfv_38_2, zf_38_2, zfv_38_3, zf_38_3, zk_39, zn_39, zk_40, zfv_40_0, zfv_40_1, zf_40_1, zfv_40_2, zf_40_2, zfv_40_3, zf_40_3, zk_41, zn_41, zk_1, zfv_1_0, zfv_1_1, zfv_1_2, zfv_1_3, zfv_1_4, zfv_1_5, zfv_1_6, zfv_1_7, zf_1_7, zfv_1_8, zf_1_8, zk_9, zfv_9_0, zfv_9_1, zfv_9_2, zfv_9_3, zfv_9_4, zfv_9_5, zfv_9_6, zfv_9_7, zf_9_7, zfv_9_8, zf_9_8, zk_17, zfv_17_0, zfv_17_1, zfv_17_2, zfv_17_3, zfv_17_4, zfv_17_5, zfv_17_6, zfv_17_7, zf_17_7, zfv_17_8, zf_17_8, zk_2, zn_2, zk_3, zn_3, zk_4, zn_4, zk_5, zn_5, zk_6, zn_6, zk_7, zn_7, zk_8, zn_8, zk_10, zn_10, zk_11, zn_11, zk_12, zn_12, zk_13, zn_13, zk_14, zn_14, zk_15, zn_15, zk_16, zn_16, zk_18, zn_18, zk_19, zn_19, zk_20, zn_20, zk_21, zn_21, zk_22, zn_22, zk_23, zn_23, zk_24, zn_24, hh, e, c1]
      simp only [q115_0, q115_1, q115_4, q115_7, q115_9, q115_10, q115_11, q115_12, q115_13, q115_16, q115_19, q115_22, q115_24, q115_25, q115_26, q115_29, q115_30, q115_31, q115_34, q115_37, q115_39, q115_40, q115_41, q115_44, q115_47i, q115_47r, q115_47n, q115_48, q115_49i, q115_49r, q115_49n, q115_51, q115_52, q115_55, q115_56, q115_59i, q115_59r, q115_59n, q115_62, q115_65, q115_66, q115_67, q115_70, q115_73, q115_74, zNC, zcs_0, zcs_i, zcs_r, zcs_l, zpush_0, zpush_i, zpush_l, and_true, true_and, Nat.reduceLT, Nat.reduceLeDiff, Nat.reduceAdd, Nat.reduceMul, reduceIte, ite_true, ite_false, if_true, if_false, not_true_eq_false, not_false_eq_true, false_implies, true_implies, forall_const, implies_true, imp_self, and_self, false_and, and_false, ne_eq, zk_42, zfv_42_0, zf_42_0, zfv_42_1, zf_42_1, zfv_42_2, zf_42_2, zfv_42_3, zfv_42_4, zfv_42_5, zfv_42_6, zfv_42_7, zfv_42_8, zfv_42_9, zf_42_9, zfv_42_10, zf_42_10, zfv_42_11, zf_42_11, zfv_42_12, zfv_42_13, zfv_42_14, zfv_42_15, zfv_42_16, zfv_42_17, zfv_42_18, zf_42_18, zfv_42_19, zf_42_19, zfv_42_20, zfv_42_21, zfv_42_22, zfv_42_23, zf_42_23, zfv_42_24, zfv_42_25, zfv_42_26, zfv_42_27, zfv_42_28, zfv_42_29, zfv_42_30, zfv_42_31, zf_42_31, zk_43, zn_43, zk_44, zn_44, zk_45, zn_45, zk_46, zn_46, zk_47, zn_47, zk_48, zn_48, zk_49, zn_49, zk_50, zn_50, zk_51, zn_51, zk_52, zn_52, zk_53, zn_53, zk_54, zn_54, zk_55, zn_55, zk_56, zn_56, zk_57, zn_57, zk_58, zn_58, zk_59, zn_59, zk_60, zn_60, zk_61, zn_61, zk_62, zn_62, zk_63, zn_63, zk_64, zn_64, hm, e, s_in, l1, (i64_c _).2.2.2.2.2.2.2, zb1_0, c1']
      simp [J]
    · by_cases c2 : x ≤ 99
      · have c1' : 1 ≤ x := by simp only [fa_lt, fa_le, fa_eq, zt_0, zt_1, zt_2, zt_3, zt_4, zt_5, zt_6, zt_7, zt_8, zt_9, zt_10, zt_11, zt_12, zt_13, zt_14, zt_15, zt_16, zt_17, zt_18, zt_19, zt_20, zt_21, zt_22, zt_23, zt_24, zt_25, zt_31, zt_40, zt_48, zt_50, zt_57, zt_59, zt_60, zt_97, zt_98, zt_99, zt_100, zt_112, zt_115, zt_119, zt_120, zt_255, zt_999, zt_m1, zt_m2, zt_m3, zt_m4, zt_m9, zt_m10, zt_m100] at *; omega
        obtain ⟨n, hn, rfl⟩ := i_below (x := x) (n := 100) (by omega) (by simp only [fa_lt, fa_le, fa_eq, zt_0, zt_1, zt_2, zt_3, zt_4, zt_5, zt_6, zt_7, zt_8, zt_9, zt_10, zt_11, zt_12, zt_13, zt_14, zt_15, zt_16, zt_17, zt_18, zt_19, zt_20, zt_21, zt_22, zt_23, zt_24, zt_25, zt_31, zt_40, zt_48, zt_50, zt_57, zt_59, zt_60, zt_97, zt_98, zt_99, zt_100, zt_112, zt_115, zt_119, zt_120, zt_255, zt_999, zt_m1, zt_m2, zt_m3, zt_m4, zt_m9, zt_m10, zt_m100] at *; omega) (by show x < 100; simp only [fa_lt, fa_le, fa_eq, zt_0, zt_1, zt_2, zt_3, zt_4, zt_5, zt_6, zt_7, zt_8, zt_9, zt_10, zt_11, zt_12, zt_13, zt_14, zt_15, zt_16, zt_17, zt_18, zt_19, zt_20, zt_21, zt_22, zt_23, zt_24, zt_25, zt_31, zt_40, zt_48, zt_50, zt_57, zt_59, zt_60, zt_97, zt_98, zt_99, zt_100, zt_112, zt_115, zt_119, zt_120, zt_255, zt_999, zt_m1, zt_m2, zt_m3, zt_m4, zt_m9, zt_m10, zt_m100] at *; omega)
        have e3 : nI y + nI n = nI (y + n) := nI_add y n
        by_cases c3 : y + n ≤ 999
        · have c3' : nI (y + n) ≤ 999 := nI_le (a := y + n) (b := 999) c3 (by omega)
          have T2 := JT_go T c3
          obtain ⟨b1, b2⟩ := bset_bsn (P := fun k => decide (0 < M (1 + 2) k)) h h6
          obtain ⟨d1, d2⟩ := bset_bsn (P := fun k => decide (0 < MG 1 h n M (1 + 2) k)) h h6
          have a1 : bset (fun k => decide (0 < MG 1 h n M 44 k)) h = nI (bsn (fun k => decide (0 < M (1 + 2) k)) h) := (JT_al T).trans b1
          have a2 : bset (fun k => decide (0 < MGm h n (MG 1 h n M) 44 k)) h = nI (bsn (fun k => decide (0 < MG 1 h n M (1 + 2) k)) h) := (JT_al T2).trans d1
          have e1 : ∀ Q' : zR → zM → Prop, _ := fun Q' => s_setOfLiving (M := M) (Q := Q') ht1 hh h6
          have e2 : ∀ Q' : zR → zM → Prop, _ := fun Q' => s_setOfLiving (M := MG 1 h n M) (Q := Q') ht1 ((MG_7 n).trans hh) h6
          have hm1 : MG 1 h n M 42 1 = nI h := hm
          have hm2 : MGm h n (MG 1 h n M) 42 1 = nI h := hm
          have f1 : ∀ Q' : zR → zM → Prop, _ := fun Q' => s_aliveNow (M := MG 1 h n M) (Q := Q') hm1 h6
          have f2 : ∀ Q' : zR → zM → Prop, _ := fun Q' => s_aliveNow (M := MGm h n (MG 1 h n M)) (Q := Q') hm2 h6
          rw [b1] at e1
          rw [d1] at e2
          rw [a1] at f1
          rw [a2] at f2
          have g1 : ∀ (Q' : zR → zM → Prop) (v : Nat), _ := fun Q' v => l_go (M := M) (Q := Q') (v := v) hh h6 (JT_kp T) hn n 0 (by omega)
          have k1 : zKm (MG 1 h n M) h := JT_km (M := M) T
          have k2 : ∀ k, k < h → 0 ≤ MG 1 h n M 44 k := fun k hk => JT_s0 (M := M) T hk
          have g2 : ∀ (Q' : zR → zM → Prop) (v : Nat), _ := fun Q' v => l_mgo (M := MG 1 h n M) (Q := Q') (v := v) hm1 h6 k1 k2 hn n 0 (by omega)
          have i0 : nI 0 = 0 := rfl
          simp only [MG_0, MGm_0, i0] at g1 g2
          have hyy : MG 1 h n M 42 2 = M 42 2 := rfl
          simp only [q48_0, q48_1, q48_4, q48_7, q48_10, q48_12, q48_13, q48_14, q48_15, q48_18, q48_19, q48_21, q48_24, q48_26, q48_27, q48_28, q48_31, q48_34, q48_35, q48_36, q48_39, q48_42, q48_44, q48_45, q48_46, q48_49, q48_52, q48_55i, q48_55r, q48_55n, q48_56, q48_57i, q48_57r, q48_57n, q48_59, q48_60, q48_63, q48_64, q48_67, q48_70i, q48_70r, q48_70n, q48_73, q48_76, q48_77, q48_78, q48_81, q48_84, q48_87, q48_88, zNC, zcs_0, zcs_i, zcs_r, zcs_l, zpush_0, zpush_i, zpush_l, and_true, true_and, Nat.reduceLT, Nat.reduceLeDiff, Nat.reduceAdd, Nat.reduceMul, reduceIte, ite_true, ite_false, if_true, if_false, not_true_eq_false, not_false_eq_true, false_implies, true_implies, forall_const, implies_true, imp_self, and_self, false_and, and_false, ne_eq, zk_0, zfv_0_0, zfv_0_1, zfv_0_2, zfv_0_3, zfv_0_4, zfv_0_5, zfv_0_6, zf_0_6, zfv_0_7, zf_0_7, zk_25, zfv_25_0, zfv_25_1, zfv_25_2, zf_25_2, zk_26, zn_26, zk_27, zfv_27_0, zk_28, zn_28, zk_29, zfv_29_0, zfv_29_1, zfv_29_2, zfv_29_3, zf_29_3, zk_30, zn_30, zk_31, zn_31, zk_32, zn_32, zk_33, zn_33, zk_34, zfv_34_0, zfv_34_1, zf_34_1, zfv_34_2, zf_34_2, zfv_34_3, zf_34_3, zk_35, zn_35, zk_36, zfv_36_0, zfv_36_1, zf_36_1, zfv_36_2, zf_36_2, zfv_36_3, zf_36_3, zk_37, zn_37, zk_38, zfv_38_0, zfv_38_1, zf_38_1, zfv_38_2, zf_38_2, zfv_38_3, zf_38_3, zk_39, zn_39, zk_40, zfv_40_0, zfv_40_1, zf_40_1, zfv_40_2, zf_40_2, zfv_40_3, zf_40_3, zk_41, zn_41, zk_1, zfv_1_0, zfv_1_1, zfv_1_2, zfv_1_3, zfv_1_4, zfv_1_5, zfv_1_6, zfv_1_7, zf_1_7, zfv_1_8, zf_1_8, zk_9, zfv_9_0, zfv_9_1, zfv_9_2, zfv_9_3, zfv_9_4, zfv_9_5, zfv_9_6, zfv_9_7, zf_9_7, zfv_9_8, zf_9_8, zk_17, zfv_17_0, zfv_17_1, zfv_17_2, zfv_17_3, zfv_17_4, zfv_17_5, zfv_17_6, zfv_17_7, zf_17_7, zfv_17_8, zf_17_8, zk_2, zn_2, zk_3, zn_3, zk_4, zn_4, zk_5, zn_5, zk_6, zn_6, zk_7, zn_7, zk_8, zn_8, zk_10, zn_10, zk_11, zn_11, zk_12, zn_12, zk_13, zn_13, zk_14, zn_14, zk_15, zn_15, zk_16, zn_16, zk_18, zn_18, zk_19, zn_19, zk_20, zn_20, zk_21, zn_21, zk_22, zn_22, zk_23, zn_23, zk_24, zn_24, hh, e, c1, c2, hy, e3, c3', e1, s_bitCount, fbc_pop _ b2, g1, e2, fbc_pop _ d2]
          simp only [q115_0, q115_1, q115_4, q115_7, q115_9, q115_10, q115_11, q115_12, q115_13, q115_16, q115_19, q115_22, q115_24, q115_25, q115_26, q115_29, q115_30, q115_31, q115_34, q115_37, q115_39, q115_40, q115_41, q115_44, q115_47i, q115_47r, q115_47n, q115_48, q115_49i, q115_49r, q115_49n, q115_51, q115_52, q115_55, q115_56, q115_59i, q115_59r, q115_59n, q115_62, q115_65, q115_66, q115_67, q115_70, q115_73, q115_74, zNC, zcs_0, zcs_i, zcs_r, zcs_l, zpush_0, zpush_i, zpush_l, and_true, true_and, Nat.reduceLT, Nat.reduceLeDiff, Nat.reduceAdd, Nat.reduceMul, reduceIte, ite_true, ite_false, if_true, if_false, not_true_eq_false, not_false_eq_true, false_implies, true_implies, forall_const, implies_true, imp_self, and_self, false_and, and_false, ne_eq, zk_42, zfv_42_0, zf_42_0, zfv_42_1, zf_42_1, zfv_42_2, zf_42_2, zfv_42_3, zfv_42_4, zfv_42_5, zfv_42_6, zfv_42_7, zfv_42_8, zfv_42_9, zf_42_9, zfv_42_10, zf_42_10, zfv_42_11, zf_42_11, zfv_42_12, zfv_42_13, zfv_42_14, zfv_42_15, zfv_42_16, zfv_42_17, zfv_42_18, zf_42_18, zfv_42_19, zf_42_19, zfv_42_20, zfv_42_21, zfv_42_22, zfv_42_23, zf_42_23, zfv_42_24, zfv_42_25, zfv_42_26, zfv_42_27, zfv_42_28, zfv_42_29, zfv_42_30, zfv_42_31, zf_42_31, zk_43, zn_43, zk_44, zn_44, zk_45, zn_45, zk_46, zn_46, zk_47, zn_47, zk_48, zn_48, zk_49, zn_49, zk_50, zn_50, zk_51, zn_51, zk_52, zn_52, zk_53, zn_53, zk_54, zn_54, zk_55, zn_55, zk_56, zn_56, zk_57, zn_57, zk_58, zn_58, zk_59, zn_59, zk_60, zn_60, zk_61, zn_61, zk_62, zn_62, zk_63, zn_63, zk_64, zn_64, hm1, e, s_in, l1, (i64_c _).2.2.2.2.2.2.2, zb1_0, c1', c2, hyy, hy2, e3, c3', f1, s_bits b2, g2, f2, s_bits d2]
          refine ⟨h, y + n, lw, c, T2, ?_, ?_, ?_⟩
          · exact R
          · exact JS_congr S (fun a ha => ((zup_ne _ _ _ (show a ≠ 42 by omega)).trans (zrow_ne _ _ (show a ≠ 44 by omega))).trans (MG_at n (by omega) (by omega)))
          · exact Z
        · have c3' : ¬ nI (y + n) ≤ 999 := nI_ge (a := 999) (b := y + n) (by omega) (by omega)
          simp only [q48_0, q48_1, q48_4, q48_7, q48_10, q48_12, q48_13, q48_14, q48_15, q48_18, q48_19, q48_21, q48_24, q48_26, q48_27, q48_28, q48_31, q48_34, q48_35, q48_36, q48_39, q48_42, q48_44, q48_45, q48_46, q48_49, q48_52, q48_55i, q48_55r, q48_55n, q48_56, q48_57i, q48_57r, q48_57n, q48_59, q48_60, q48_63, q48_64, q48_67, q48_70i, q48_70r, q48_70n, q48_73, q48_76, q48_77, q48_78, q48_81, q48_84, q48_87, q48_88, zNC, zcs_0, zcs_i, zcs_r, zcs_l, zpush_0, zpush_i, zpush_l, and_true, true_and, Nat.reduceLT, Nat.reduceLeDiff, Nat.reduceAdd, Nat.reduceMul, reduceIte, ite_true, ite_false, if_true, if_false, not_true_eq_false, not_false_eq_true, false_implies, true_implies, forall_const, implies_true, imp_self, and_self, false_and, and_false, ne_eq, zk_0, zfv_0_0, zfv_0_1, zfv_0_2, zfv_0_3, zfv_0_4, zfv_0_5, zfv_0_6, zf_0_6, zfv_0_7, zf_0_7, zk_25, zfv_25_0, zfv_25_1, zfv_25_2, zf_25_2, zk_26, zn_26, zk_27, zfv_27_0, zk_28, zn_28, zk_29, zfv_29_0, zfv_29_1, zfv_29_2, zfv_29_3, zf_29_3, zk_30, zn_30, zk_31, zn_31, zk_32, zn_32, zk_33, zn_33, zk_34, zfv_34_0, zfv_34_1, zf_34_1, zfv_34_2, zf_34_2, zfv_34_3, zf_34_3, zk_35, zn_35, zk_36, zfv_36_0, zfv_36_1, zf_36_1, zfv_36_2, zf_36_2, zfv_36_3, zf_36_3, zk_37, zn_37, zk_38, zfv_38_0, zfv_38_1, zf_38_1, zfv_38_2, zf_38_2, zfv_38_3, zf_38_3, zk_39, zn_39, zk_40, zfv_40_0, zfv_40_1, zf_40_1, zfv_40_2, zf_40_2, zfv_40_3, zf_40_3, zk_41, zn_41, zk_1, zfv_1_0, zfv_1_1, zfv_1_2, zfv_1_3, zfv_1_4, zfv_1_5, zfv_1_6, zfv_1_7, zf_1_7, zfv_1_8, zf_1_8, zk_9, zfv_9_0, zfv_9_1, zfv_9_2, zfv_9_3, zfv_9_4, zfv_9_5, zfv_9_6, zfv_9_7, zf_9_7, zfv_9_8, zf_9_8, zk_17, zfv_17_0, zfv_17_1, zfv_17_2, zfv_17_3, zfv_17_4, zfv_17_5, zfv_17_6, zfv_17_7, zf_17_7, zfv_17_8, zf_17_8, zk_2, zn_2, zk_3, zn_3, zk_4, zn_4, zk_5, zn_5, zk_6, zn_6, zk_7, zn_7, zk_8, zn_8, zk_10, zn_10, zk_11, zn_11, zk_12, zn_12, zk_13, zn_13, zk_14, zn_14, zk_15, zn_15, zk_16, zn_16, zk_18, zn_18, zk_19, zn_19, zk_20, zn_20, zk_21, zn_21, zk_22, zn_22, zk_23, zn_23, zk_24, zn_24, hh, e, c1, c2, hy, e3, c3']
          simp only [q115_0, q115_1, q115_4, q115_7, q115_9, q115_10, q115_11, q115_12, q115_13, q115_16, q115_19, q115_22, q115_24, q115_25, q115_26, q115_29, q115_30, q115_31, q115_34, q115_37, q115_39, q115_40, q115_41, q115_44, q115_47i, q115_47r, q115_47n, q115_48, q115_49i, q115_49r, q115_49n, q115_51, q115_52, q115_55, q115_56, q115_59i, q115_59r, q115_59n, q115_62, q115_65, q115_66, q115_67, q115_70, q115_73, q115_74, zNC, zcs_0, zcs_i, zcs_r, zcs_l, zpush_0, zpush_i, zpush_l, and_true, true_and, Nat.reduceLT, Nat.reduceLeDiff, Nat.reduceAdd, Nat.reduceMul, reduceIte, ite_true, ite_false, if_true, if_false, not_true_eq_false, not_false_eq_true, false_implies, true_implies, forall_const, implies_true, imp_self, and_self, false_and, and_false, ne_eq, zk_42, zfv_42_0, zf_42_0, zfv_42_1, zf_42_1, zfv_42_2, zf_42_2, zfv_42_3, zfv_42_4, zfv_42_5, zfv_42_6, zfv_42_7, zfv_42_8, zfv_42_9, zf_42_9, zfv_42_10, zf_42_10, zfv_42_11, zf_42_11, zfv_42_12, zfv_42_13, zfv_42_14, zfv_42_15, zfv_42_16, zfv_42_17, zfv_42_18, zf_42_18, zfv_42_19, zf_42_19, zfv_42_20, zfv_42_21, zfv_42_22, zfv_42_23, zf_42_23, zfv_42_24, zfv_42_25, zfv_42_26, zfv_42_27, zfv_42_28, zfv_42_29, zfv_42_30, zfv_42_31, zf_42_31, zk_43, zn_43, zk_44, zn_44, zk_45, zn_45, zk_46, zn_46, zk_47, zn_47, zk_48, zn_48, zk_49, zn_49, zk_50, zn_50, zk_51, zn_51, zk_52, zn_52, zk_53, zn_53, zk_54, zn_54, zk_55, zn_55, zk_56, zn_56, zk_57, zn_57, zk_58, zn_58, zk_59, zn_59, zk_60, zn_60, zk_61, zn_61, zk_62, zn_62, zk_63, zn_63, zk_64, zn_64, hm, e, s_in, l1, (i64_c _).2.2.2.2.2.2.2, zb1_0, c1', c2, hy2, e3, c3']
          simp [J]
      · have c1' : ¬ (1 ≤ x ∧ x ≤ 99) := fun h => c2 h.2
        simp only [q48_0, q48_1, q48_4, q48_7, q48_10, q48_12, q48_13, q48_14, q48_15, q48_18, q48_19, q48_21, q48_24, q48_26, q48_27, q48_28, q48_31, q48_34, q48_35, q48_36, q48_39, q48_42, q48_44, q48_45, q48_46, q48_49, q48_52, q48_55i, q48_55r, q48_55n, q48_56, q48_57i, q48_57r, q48_57n, q48_59, q48_60, q48_63, q48_64, q48_67, q48_70i, q48_70r, q48_70n, q48_73, q48_76, q48_77, q48_78, q48_81, q48_84, q48_87, q48_88, zNC, zcs_0, zcs_i, zcs_r, zcs_l, zpush_0, zpush_i, zpush_l, and_true, true_and, Nat.reduceLT, Nat.reduceLeDiff, Nat.reduceAdd, Nat.reduceMul, reduceIte, ite_true, ite_false, if_true, if_false, not_true_eq_false, not_false_eq_true, false_implies, true_implies, forall_const, implies_true, imp_self, and_self, false_and, and_false, ne_eq, zk_0, zfv_0_0, zfv_0_1, zfv_0_2, zfv_0_3, zfv_0_4, zfv_0_5, zfv_0_6, zf_0_6, zfv_0_7, zf_0_7, zk_25, zfv_25_0, zfv_25_1, zfv_25_2, zf_25_2, zk_26, zn_26, zk_27, zfv_27_0, zk_28, zn_28, zk_29, zfv_29_0, zfv_29_1, zfv_29_2, zfv_29_3, zf_29_3, zk_30, zn_30, zk_31, zn_31, zk_32, zn_32, zk_33, zn_33, zk_34, zfv_34_0, zfv_34_1, zf_34_1, zfv_34_2, zf_34_2, zfv_34_3, zf_34_3, zk_35, zn_35, zk_36, zfv_36_0, zfv_36_1, zf_36_1, zfv_36_2, zf_36_2, zfv_36_3, zf_36_3, zk_37, zn_37, zk_38, zfv_38_0, zfv_38_1, zf_38_1, zfv_38_2, zf_38_2, zfv_38_3, zf_38_3, zk_39, zn_39, zk_40, zfv_40_0, zfv_40_1, zf_40_1, zfv_40_2, zf_40_2, zfv_40_3, zf_40_3, zk_41, zn_41, zk_1, zfv_1_0, zfv_1_1, zfv_1_2, zfv_1_3, zfv_1_4, zfv_1_5, zfv_1_6, zfv_1_7, zf_1_7, zfv_1_8, zf_1_8, zk_9, zfv_9_0, zfv_9_1, zfv_9_2, zfv_9_3, zfv_9_4, zfv_9_5, zfv_9_6, zfv_9_7, zf_9_7, zfv_9_8, zf_9_8, zk_17, zfv_17_0, zfv_17_1, zfv_17_2, zfv_17_3, zfv_17_4, zfv_17_5, zfv_17_6, zfv_17_7, zf_17_7, zfv_17_8, zf_17_8, zk_2, zn_2, zk_3, zn_3, zk_4, zn_4, zk_5, zn_5, zk_6, zn_6, zk_7, zn_7, zk_8, zn_8, zk_10, zn_10, zk_11, zn_11, zk_12, zn_12, zk_13, zn_13, zk_14, zn_14, zk_15, zn_15, zk_16, zn_16, zk_18, zn_18, zk_19, zn_19, zk_20, zn_20, zk_21, zn_21, zk_22, zn_22, zk_23, zn_23, zk_24, zn_24, hh, e, c1, c2]
        simp only [q115_0, q115_1, q115_4, q115_7, q115_9, q115_10, q115_11, q115_12, q115_13, q115_16, q115_19, q115_22, q115_24, q115_25, q115_26, q115_29, q115_30, q115_31, q115_34, q115_37, q115_39, q115_40, q115_41, q115_44, q115_47i, q115_47r, q115_47n, q115_48, q115_49i, q115_49r, q115_49n, q115_51, q115_52, q115_55, q115_56, q115_59i, q115_59r, q115_59n, q115_62, q115_65, q115_66, q115_67, q115_70, q115_73, q115_74, zNC, zcs_0, zcs_i, zcs_r, zcs_l, zpush_0, zpush_i, zpush_l, and_true, true_and, Nat.reduceLT, Nat.reduceLeDiff, Nat.reduceAdd, Nat.reduceMul, reduceIte, ite_true, ite_false, if_true, if_false, not_true_eq_false, not_false_eq_true, false_implies, true_implies, forall_const, implies_true, imp_self, and_self, false_and, and_false, ne_eq, zk_42, zfv_42_0, zf_42_0, zfv_42_1, zf_42_1, zfv_42_2, zf_42_2, zfv_42_3, zfv_42_4, zfv_42_5, zfv_42_6, zfv_42_7, zfv_42_8, zfv_42_9, zf_42_9, zfv_42_10, zf_42_10, zfv_42_11, zf_42_11, zfv_42_12, zfv_42_13, zfv_42_14, zfv_42_15, zfv_42_16, zfv_42_17, zfv_42_18, zf_42_18, zfv_42_19, zf_42_19, zfv_42_20, zfv_42_21, zfv_42_22, zfv_42_23, zf_42_23, zfv_42_24, zfv_42_25, zfv_42_26, zfv_42_27, zfv_42_28, zfv_42_29, zfv_42_30, zfv_42_31, zf_42_31, zk_43, zn_43, zk_44, zn_44, zk_45, zn_45, zk_46, zn_46, zk_47, zn_47, zk_48, zn_48, zk_49, zn_49, zk_50, zn_50, zk_51, zn_51, zk_52, zn_52, zk_53, zn_53, zk_54, zn_54, zk_55, zn_55, zk_56, zn_56, zk_57, zn_57, zk_58, zn_58, zk_59, zn_59, zk_60, zn_60, zk_61, zn_61, zk_62, zn_62, zk_63, zn_63, zk_64, zn_64, hm, e, s_in, l1, (i64_c _).2.2.2.2.2.2.2, zb1_0, c1']
        simp [J]
end OP
