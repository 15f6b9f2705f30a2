section TW
variable {M : zM} {Q : zR → zM → Prop} {t k h g o : Nat}
theorem l_setOfStiff (ht : zTn t) (hh : M t 7 = nI h) (h6 : h ≤ 6) : ∀ d k, k + d = h → (zQ 28 4 [.ref t, .int (bset (fun k => decide (0 < M (t + 2) k ∧ ¬ M (t + 7) k = 0)) k), .int (nI k)] [] M Q ↔ Q (zI (bset (fun k => decide (0 < M (t + 2) k ∧ ¬ M (t + 7) k = 0)) h)) M) := by
  intro d
  induction d with
  | zero =>
    intro k hk
    obtain rfl : k = h := by omega
    rw [q28_4]
    rcases ht with rfl | rfl | rfl <;> simp only [q28_0, q28_1i, q28_1r, q28_1n, q28_2, q28_3i, q28_3r, q28_3n, q28_5, q28_6, q28_9, q28_12, q28_13, q28_14, q28_17, q28_20, q28_21, q28_24, q28_25, q28_26, q28_29, q28_30, q28_31, q28_32, q28_33, q28_34i, q28_34r, q28_34n, q28_35i, q28_35r, q28_35n, q28_38, q28_41, q28_42, zNC, zcs_0, zcs_i, zcs_r, zcs_l, zpush_0, zpush_i, zpush_l, and_true, true_and, Nat.reduceLT, Nat.reduceLeDiff, Nat.reduceAdd, Nat.reduceMul, reduceIte, ite_true, ite_false, if_true, if_false, not_true_eq_false, not_false_eq_true, false_implies, true_implies, forall_const, implies_true, imp_self, and_self, false_and, and_false, ne_eq, zk_1, zfv_1_0, zfv_1_1, zfv_1_2, zfv_1_3, zfv_1_4, zfv_1_5, zfv_1_6, zfv_1_7, zf_1_7, zfv_1_8, zf_1_8, zk_9, zfv_9_0, zfv_9_1, zfv_9_2, zfv_9_3, zfv_9_4, zfv_9_5, zfv_9_6, zfv_9_7, zf_9_7, zfv_9_8, zf_9_8, zk_17, zfv_17_0, zfv_17_1, zfv_17_2, zfv_17_3, zfv_17_4, zfv_17_5, zfv_17_6, zfv_17_7, zf_17_7, zfv_17_8, zf_17_8, zk_2, zn_2, zk_3, zn_3, zk_4, zn_4, zk_5, zn_5, zk_6, zn_6, zk_7, zn_7, zk_8, zn_8, zk_10, zn_10, zk_11, zn_11, zk_12, zn_12, zk_13, zn_13, zk_14, zn_14, zk_15, zn_15, zk_16, zn_16, zk_18, zn_18, zk_19, zn_19, zk_20, zn_20, zk_21, zn_21, zk_22, zn_22, zk_23, zn_23, zk_24, zn_24, hh, i_le_refl]
  | succ d ih =>
    intro k hk
    have h1 : ¬ nI h ≤ nI k := nI_ge (by omega) (by omega)
    have ih' := ih (k + 1) (by omega)
    rw [q28_4]
    have hc : (nI k).toNatClampNeg = k := nI_clamp (by omega)
    have hz := zin_nI (k := k) (n := 6) (by omega) (by decide)
    by_cases hp : 0 < M (t + 2) k <;> by_cases hq : M (t + 7) k = 0 <;> simp only [bset, hp, hq, decide_true, decide_false, if_true, if_false, not_true_eq_false, not_false_eq_true, and_false, and_true, Bool.false_eq_true] at ih' <;> rw [← ih'] <;> (have ht2 := ht) <;> rcases ht2 with rfl | rfl | rfl <;> simp only [Nat.reduceAdd] at hp hq <;> simp only [q28_0, q28_1i, q28_1r, q28_1n, q28_2, q28_3i, q28_3r, q28_3n, q28_5, q28_6, q28_9, q28_12, q28_13, q28_14, q28_17, q28_20, q28_21, q28_24, q28_25, q28_26, q28_29, q28_30, q28_31, q28_32, q28_33, q28_34i, q28_34r, q28_34n, q28_35i, q28_35r, q28_35n, q28_38, q28_41, q28_42, zNC, zcs_0, zcs_i, zcs_r, zcs_l, zpush_0, zpush_i, zpush_l, and_true, true_and, Nat.reduceLT, Nat.reduceLeDiff, Nat.reduceAdd, Nat.reduceMul, reduceIte, ite_true, ite_false, if_true, if_false, not_true_eq_false, not_false_eq_true, false_implies, true_implies, forall_const, implies_true, imp_self, and_self, false_and, and_false, ne_eq, zk_1, zfv_1_0, zfv_1_1, zfv_1_2, zfv_1_3, zfv_1_4, zfv_1_5, zfv_1_6, zfv_1_7, zf_1_7, zfv_1_8, zf_1_8, zk_9, zfv_9_0, zfv_9_1, zfv_9_2, zfv_9_3, zfv_9_4, zfv_9_5, zfv_9_6, zfv_9_7, zf_9_7, zfv_9_8, zf_9_8, zk_17, zfv_17_0, zfv_17_1, zfv_17_2, zfv_17_3, zfv_17_4, zfv_17_5, zfv_17_6, zfv_17_7, zf_17_7, zfv_17_8, zf_17_8, zk_2, zn_2, zk_3, zn_3, zk_4, zn_4, zk_5, zn_5, zk_6, zn_6, zk_7, zn_7, zk_8, zn_8, zk_10, zn_10, zk_11, zn_11, zk_12, zn_12, zk_13, zn_13, zk_14, zn_14, zk_15, zn_15, zk_16, zn_16, zk_18, zn_18, zk_19, zn_19, zk_20, zn_20, zk_21, zn_21, zk_22, zn_22, zk_23, zn_23, zk_24, zn_24, hh, h1, s_isAlive ht (show k < 6 by omega), zb1_0, hp, hq, hc, hz, nI_1]
theorem s_setOfStiff (ht : zTn t) (hh : M t 7 = nI h) (h6 : h ≤ 6) : zQ 28 0 [.ref t, .null, .null] [] M Q ↔ Q (zI (bset (fun k => decide (0 < M (t + 2) k ∧ ¬ M (t + 7) k = 0)) h)) M := by
  refine Iff.trans ?_ (l_setOfStiff ht hh h6 h 0 (by omega))
  simp only [q28_0, q28_1i, q28_1r, q28_1n, q28_2, q28_3i, q28_3r, q28_3n, q28_5, q28_6, q28_9, q28_12, q28_13, q28_14, q28_17, q28_20, q28_21, q28_24, q28_25, q28_26, q28_29, q28_30, q28_31, q28_32, q28_33, q28_34i, q28_34r, q28_34n, q28_35i, q28_35r, q28_35n, q28_38, q28_41, q28_42]
  exact Iff.rfl
theorem l_setKeptBy (ht : zTn t) (hh : M t 7 = nI h) (h6 : h ≤ 6) {x : Int32} : ∀ d k, k + d = h → (zQ 29 4 [.ref t, .int x, .int (bset (fun k => decide (M (t + 6) k = x)) k), .int (nI k)] [] M Q ↔ Q (zI (bset (fun k => decide (M (t + 6) k = x)) h)) M) := by
  intro d
  induction d with
  | zero =>
    intro k hk
    obtain rfl : k = h := by omega
    rw [q29_4]
    rcases ht with rfl | rfl | rfl <;> simp only [q29_0, q29_1i, q29_1r, q29_1n, q29_2, q29_3i, q29_3r, q29_3n, q29_5, q29_6, q29_9, q29_12, q29_13, q29_16, q29_17, q29_18, q29_19, q29_22, q29_23, q29_24, q29_25, q29_26, q29_27i, q29_27r, q29_27n, q29_28i, q29_28r, q29_28n, q29_31, q29_34, q29_35, zNC, zcs_0, zcs_i, zcs_r, zcs_l, zpush_0, zpush_i, zpush_l, and_true, true_and, Nat.reduceLT, Nat.reduceLeDiff, Nat.reduceAdd, Nat.reduceMul, reduceIte, ite_true, ite_false, if_true, if_false, not_true_eq_false, not_false_eq_true, false_implies, true_implies, forall_const, implies_true, imp_self, and_self, false_and, and_false, ne_eq, zk_1, zfv_1_0, zfv_1_1, zfv_1_2, zfv_1_3, zfv_1_4, zfv_1_5, zfv_1_6, zfv_1_7, zf_1_7, zfv_1_8, zf_1_8, zk_9, zfv_9_0, zfv_9_1, zfv_9_2, zfv_9_3, zfv_9_4, zfv_9_5, zfv_9_6, zfv_9_7, zf_9_7, zfv_9_8, zf_9_8, zk_17, zfv_17_0, zfv_17_1, zfv_17_2, zfv_17_3, zfv_17_4, zfv_17_5, zfv_17_6, zfv_17_7, zf_17_7, zfv_17_8, zf_17_8, zk_2, zn_2, zk_3, zn_3, zk_4, zn_4, zk_5, zn_5, zk_6, zn_6, zk_7, zn_7, zk_8, zn_8, zk_10, zn_10, zk_11, zn_11, zk_12, zn_12, zk_13, zn_13, zk_14, zn_14, zk_15, zn_15, zk_16, zn_16, zk_18, zn_18, zk_19, zn_19, zk_20, zn_20, zk_21, zn_21, zk_22, zn_22, zk_23, zn_23, zk_24, zn_24, hh, i_le_refl]
  | succ d ih =>
    intro k hk
    have h1 : ¬ nI h ≤ nI k := nI_ge (by omega) (by omega)
    have ih' := ih (k + 1) (by omega)
    rw [q29_4]
    have hc : (nI k).toNatClampNeg = k := nI_clamp (by omega)
    have hz := zin_nI (k := k) (n := 6) (by omega) (by decide)
    by_cases hp : M (t + 6) k = x <;> simp only [bset, hp, decide_true, decide_false, if_true, if_false, Bool.false_eq_true] at ih' <;> rw [← ih'] <;> (have ht2 := ht) <;> rcases ht2 with rfl | rfl | rfl <;> simp only [Nat.reduceAdd] at hp <;> simp only [q29_0, q29_1i, q29_1r, q29_1n, q29_2, q29_3i, q29_3r, q29_3n, q29_5, q29_6, q29_9, q29_12, q29_13, q29_16, q29_17, q29_18, q29_19, q29_22, q29_23, q29_24, q29_25, q29_26, q29_27i, q29_27r, q29_27n, q29_28i, q29_28r, q29_28n, q29_31, q29_34, q29_35, zNC, zcs_0, zcs_i, zcs_r, zcs_l, zpush_0, zpush_i, zpush_l, and_true, true_and, Nat.reduceLT, Nat.reduceLeDiff, Nat.reduceAdd, Nat.reduceMul, reduceIte, ite_true, ite_false, if_true, if_false, not_true_eq_false, not_false_eq_true, false_implies, true_implies, forall_const, implies_true, imp_self, and_self, false_and, and_false, ne_eq, zk_1, zfv_1_0, zfv_1_1, zfv_1_2, zfv_1_3, zfv_1_4, zfv_1_5, zfv_1_6, zfv_1_7, zf_1_7, zfv_1_8, zf_1_8, zk_9, zfv_9_0, zfv_9_1, zfv_9_2, zfv_9_3, zfv_9_4, zfv_9_5, zfv_9_6, zfv_9_7, zf_9_7, zfv_9_8, zf_9_8, zk_17, zfv_17_0, zfv_17_1, zfv_17_2, zfv_17_3, zfv_17_4, zfv_17_5, zfv_17_6, zfv_17_7, zf_17_7, zfv_17_8, zf_17_8, zk_2, zn_2, zk_3, zn_3, zk_4, zn_4, zk_5, zn_5, zk_6, zn_6, zk_7, zn_7, zk_8, zn_8, zk_10, zn_10, zk_11, zn_11, zk_12, zn_12, zk_13, zn_13, zk_14, zn_14, zk_15, zn_15, zk_16, zn_16, zk_18, zn_18, zk_19, zn_19, zk_20, zn_20, zk_21, zn_21, zk_22, zn_22, zk_23, zn_23, zk_24, zn_24, hh, h1, hp, hc, hz, nI_1]
theorem s_setKeptBy (ht : zTn t) (hh : M t 7 = nI h) (h6 : h ≤ 6) {x : Int32} : zQ 29 0 [.ref t, .int x, .null, .null] [] M Q ↔ Q (zI (bset (fun k => decide (M (t + 6) k = x)) h)) M := by
  refine Iff.trans ?_ (l_setKeptBy ht hh h6 h 0 (by omega))
  simp only [q29_0, q29_1i, q29_1r, q29_1n, q29_2, q29_3i, q29_3r, q29_3n, q29_5, q29_6, q29_9, q29_12, q29_13, q29_16, q29_17, q29_18, q29_19, q29_22, q29_23, q29_24, q29_25, q29_26, q29_27i, q29_27r, q29_27n, q29_28i, q29_28r, q29_28n, q29_31, q29_34, q29_35]
  exact Iff.rfl
theorem zero_eq_one32 : ((0 : Int32) = 1) = False := by decide
def fkp (M : zM) (t k : Nat) : Nat := (M (t + 6) k).toNatClampNeg
def frk (M : zM) (t k : Nat) : Int32 := frate (M (t + 1) k) (M (t + 4) k) (M (t + 5) (fkp M t k))
def zKp (M : zM) (t h : Nat) : Prop := ∀ k, k < h → ∃ g, g < h ∧ M (t + 6) k = nI g
theorem zKp_at (H : zKp M t h) (h6 : h ≤ 6) (hk : k < h) : fkp M t k < h ∧ M (t + 6) k = nI (fkp M t k) := by
  obtain ⟨g, h1, h2⟩ := H k hk
  have : fkp M t k = g := by unfold fkp; rw [h2]; exact nI_clamp (by omega)
  rw [this]; exact ⟨h1, h2⟩
def fys (M : zM) (t n : Nat) : Nat → Int32 := fun i => if i < n then fsb (M (t + 7) i) (M (t + 2) i) 1 (frk M t i) else M (t + 2) i
def MY (t h : Nat) (M : zM) : zM := zup (zrow M (t + 2) (fys M t h)) t 8 (M t 8 + 1)
theorem fys_0 : zrow M (t + 2) (fys M t 0) = M := by
  funext a
  unfold zrow fys
  split
  · rename_i e; rw [e]; funext i; simp
  · rfl
theorem fys_s (n : Nat) : zup (zrow M (t + 2) (fys M t n)) (t + 2) n (fsb (M (t + 7) n) (M (t + 2) n) 1 (frk M t n)) = zrow M (t + 2) (fys M t (n + 1)) := by
  funext a
  unfold zup zrow
  split
  · rw [if_pos rfl]
    funext i
    unfold upd fys
    by_cases e : i = n
    · subst e; rw [if_pos rfl, if_pos (by omega)]
    · rw [if_neg e]
      by_cases e2 : i < n
      · rw [if_pos e2, if_pos (by omega)]
      · rw [if_neg e2, if_neg (by omega)]
  · rfl
theorem l_passYear (ht : zTn t) (hh : M t 7 = nI h) (h6 : h ≤ 6) (H : zKp M t h) : ∀ d k, k + d = h → (zQ 31 2 [.ref t, .int (nI k)] [] (zrow M (t + 2) (fys M t k)) Q ↔ Q none (MY t h M)) := by
  intro d
  induction d with
  | zero =>
    intro k hk
    obtain rfl : k = h := by omega
    rw [q31_2]
    have e1 : zrow M (t + 2) (fys M t k) t 7 = M t 7 := by rw [zrow_ne _ _ (by omega)]
    have e2 : zrow M (t + 2) (fys M t k) t 8 = M t 8 := by rw [zrow_ne _ _ (by omega)]
    unfold MY
    rcases ht with rfl | rfl | rfl <;> simp only [Nat.reduceAdd] at e1 e2 ⊢ <;> simp only [q31_0, q31_1i, q31_1r, q31_1n, q31_3, q31_4, q31_7, q31_10, q31_11, q31_14, q31_15, q31_16, q31_17, q31_18, q31_21, q31_22i, q31_22r, q31_22n, q31_25, q31_28, q31_29, q31_30, q31_33, q31_34, q31_35, q31_38, zNC, zcs_0, zcs_i, zcs_r, zcs_l, zpush_0, zpush_i, zpush_l, and_true, true_and, Nat.reduceLT, Nat.reduceLeDiff, Nat.reduceAdd, Nat.reduceMul, reduceIte, ite_true, ite_false, if_true, if_false, not_true_eq_false, not_false_eq_true, false_implies, true_implies, forall_const, implies_true, imp_self, and_self, false_and, and_false, ne_eq, zk_1, zfv_1_0, zfv_1_1, zfv_1_2, zfv_1_3, zfv_1_4, zfv_1_5, zfv_1_6, zfv_1_7, zf_1_7, zfv_1_8, zf_1_8, zk_9, zfv_9_0, zfv_9_1, zfv_9_2, zfv_9_3, zfv_9_4, zfv_9_5, zfv_9_6, zfv_9_7, zf_9_7, zfv_9_8, zf_9_8, zk_17, zfv_17_0, zfv_17_1, zfv_17_2, zfv_17_3, zfv_17_4, zfv_17_5, zfv_17_6, zfv_17_7, zf_17_7, zfv_17_8, zf_17_8, zk_2, zn_2, zk_3, zn_3, zk_4, zn_4, zk_5, zn_5, zk_6, zn_6, zk_7, zn_7, zk_8, zn_8, zk_10, zn_10, zk_11, zn_11, zk_12, zn_12, zk_13, zn_13, zk_14, zn_14, zk_15, zn_15, zk_16, zn_16, zk_18, zn_18, zk_19, zn_19, zk_20, zn_20, zk_21, zn_21, zk_22, zn_22, zk_23, zn_23, zk_24, zn_24, hh, i_le_refl, e1, e2]
  | succ d ih =>
    intro k hk
    have h1 : ¬ nI h ≤ nI k := nI_ge (by omega) (by omega)
    have ih' := ih (k + 1) (by omega)
    rw [q31_2]
    have hc : (nI k).toNatClampNeg = k := nI_clamp (by omega)
    have hz := zin_nI (k := k) (n := 6) (by omega) (by decide)
    obtain ⟨g1, g2⟩ := zKp_at H h6 (show k < h by omega)
    have e1 : zrow M (t + 2) (fys M t k) t 7 = M t 7 := by rw [zrow_ne _ _ (by omega)]
    have e3 : zrow M (t + 2) (fys M t k) (t + 6) k = nI (fkp M t k) := by rw [zrow_ne _ _ (by omega)]; exact g2
    have e4 : ∀ Q' : zR → zM → Prop, zQ 30 0 [.ref t, .int (nI k), .int 1] [] (zrow M (t + 2) (fys M t k)) Q' ↔ Q' (zI (fsb (M (t + 7) k) (M (t + 2) k) 1 (frk M t k))) (zrow M (t + 2) (fys M t k)) := by
      intro Q'
      rw [s_sandBehind (M := zrow M (t + 2) (fys M t k)) ht (show k < 6 by omega) (show fkp M t k < 6 by omega) e3 (y := 1)]
      rw [zrow_self, zrow_ne _ _ (show t + 7 ≠ t + 2 by omega), zrow_ne _ _ (show t + 1 ≠ t + 2 by omega), zrow_ne _ _ (show t + 4 ≠ t + 2 by omega), zrow_ne _ _ (show t + 5 ≠ t + 2 by omega), show fys M t k k = M (t + 2) k by unfold fys; rw [if_neg (by omega)]]
      exact Iff.rfl
    rw [← fys_s] at ih'
    rw [← ih']
    rcases ht with rfl | rfl | rfl <;> simp only [Nat.reduceAdd] at e1 e4 ⊢ <;> simp only [q31_0, q31_1i, q31_1r, q31_1n, q31_3, q31_4, q31_7, q31_10, q31_11, q31_14, q31_15, q31_16, q31_17, q31_18, q31_21, q31_22i, q31_22r, q31_22n, q31_25, q31_28, q31_29, q31_30, q31_33, q31_34, q31_35, q31_38, zNC, zcs_0, zcs_i, zcs_r, zcs_l, zpush_0, zpush_i, zpush_l, and_true, true_and, Nat.reduceLT, Nat.reduceLeDiff, Nat.reduceAdd, Nat.reduceMul, reduceIte, ite_true, ite_false, if_true, if_false, not_true_eq_false, not_false_eq_true, false_implies, true_implies, forall_const, implies_true, imp_self, and_self, false_and, and_false, ne_eq, zk_1, zfv_1_0, zfv_1_1, zfv_1_2, zfv_1_3, zfv_1_4, zfv_1_5, zfv_1_6, zfv_1_7, zf_1_7, zfv_1_8, zf_1_8, zk_9, zfv_9_0, zfv_9_1, zfv_9_2, zfv_9_3, zfv_9_4, zfv_9_5, zfv_9_6, zfv_9_7, zf_9_7, zfv_9_8, zf_9_8, zk_17, zfv_17_0, zfv_17_1, zfv_17_2, zfv_17_3, zfv_17_4, zfv_17_5, zfv_17_6, zfv_17_7, zf_17_7, zfv_17_8, zf_17_8, zk_2, zn_2, zk_3, zn_3, zk_4, zn_4, zk_5, zn_5, zk_6, zn_6, zk_7, zn_7, zk_8, zn_8, zk_10, zn_10, zk_11, zn_11, zk_12, zn_12, zk_13, zn_13, zk_14, zn_14, zk_15, zn_15, zk_16, zn_16, zk_18, zn_18, zk_19, zn_19, zk_20, zn_20, zk_21, zn_21, zk_22, zn_22, zk_23, zn_23, zk_24, zn_24, hh, h1, e1, hc, hz, e4, nI_1]
theorem s_passYear (ht : zTn t) (hh : M t 7 = nI h) (h6 : h ≤ 6) (H : zKp M t h) : zQ 31 0 [.ref t, .null] [] M Q ↔ Q none (MY t h M) := by
  refine Iff.trans ?_ (l_passYear ht hh h6 H h 0 (by omega))
  rw [fys_0]
  simp only [q31_0, q31_1i, q31_1r, q31_1n, q31_3, q31_4, q31_7, q31_10, q31_11, q31_14, q31_15, q31_16, q31_17, q31_18, q31_21, q31_22i, q31_22r, q31_22n, q31_25, q31_28, q31_29, q31_30, q31_33, q31_34, q31_35, q31_38]
  exact Iff.rfl
/-- doAct: what can be done, and what it does -/
def fok (M : zM) (t k : Nat) (a : Int32) : Prop := 0 < M (t + 2) k ∧ (0 < M (t + 2) (fkp M t k) ∧ M (t + 7) (fkp M t k) = 0) ∧ M (t + 7) k = zb1 (a = 1)
def MA (M : zM) (t k : Nat) (a : Int32) : zM := if a = 2 then zup M (t + 2) k (M (t + 3) k - M (t + 2) k) else zup M (t + 7) k (zb1 (a = 0))
theorem zn_bool_1 : vp_nar .boolean 1 = 1 := by decide
theorem zn_bool_0 : vp_nar .boolean 0 = 0 := by decide
theorem s_doAct_t (ht : zTn t) (hk : k < 6) (hg : fkp M t k < 6) (hgk : M (t + 6) k = nI (fkp M t k)) {a : Int32} (hok : fok M t k a) : zQ 32 0 [.ref t, .int (nI k), .int a] [] M Q ↔ Q (zI 1) (MA M t k a) := by
  have hc : (nI k).toNatClampNeg = k := nI_clamp (by omega)
  have hz := zin_nI (n := 6) hk (by decide)
  obtain ⟨p1, p2, p3⟩ := hok
  generalize fkp M t k = g at *
  unfold MA
  have ht2 := ht
  by_cases c1 : a = 1 <;> by_cases c2 : a = 2 <;> by_cases c0 : a = 0 <;> (try (exfalso; simp only [fa_lt, fa_le, fa_eq, zt_0, zt_1, zt_2, zt_3, zt_4, zt_5, zt_6, zt_7, zt_8, zt_9, zt_10, zt_11, zt_12, zt_13, zt_14, zt_15, zt_16, zt_17, zt_18, zt_19, zt_20, zt_21, zt_22, zt_23, zt_24, zt_25, zt_31, zt_40, zt_48, zt_50, zt_57, zt_59, zt_60, zt_97, zt_98, zt_99, zt_100, zt_112, zt_115, zt_119, zt_120, zt_255, zt_999, zt_m1, zt_m2, zt_m3, zt_m4, zt_m9, zt_m10, zt_m100] at c0 c1 c2; omega)) <;> simp only [zb1, c1, c2, c0, if_true, if_false, zero_eq_one32] at p3 ⊢ <;> rcases ht2 with rfl | rfl | rfl <;> simp only [Nat.reduceAdd] at p1 p2 p3 hgk ⊢ <;> simp only [q32_0, q32_1, q32_2, q32_5, q32_8, q32_9, q32_10, q32_13, q32_14, q32_15, q32_18, q32_21, q32_22, q32_25, q32_26, q32_27, q32_28, q32_29, q32_32, q32_33, q32_36, q32_37, q32_40, q32_41, q32_42, q32_43, q32_44, q32_47, q32_48, q32_51, q32_52, q32_53, q32_56, q32_57, q32_58, q32_59, q32_62, q32_63, q32_64, q32_65, q32_66, q32_69, q32_70, q32_73, q32_74, q32_75, q32_78, q32_79, q32_82, q32_83, q32_84, q32_85, zNC, zcs_0, zcs_i, zcs_r, zcs_l, zpush_0, zpush_i, zpush_l, and_true, true_and, Nat.reduceLT, Nat.reduceLeDiff, Nat.reduceAdd, Nat.reduceMul, reduceIte, ite_true, ite_false, if_true, if_false, not_true_eq_false, not_false_eq_true, false_implies, true_implies, forall_const, implies_true, imp_self, and_self, false_and, and_false, ne_eq, zk_1, zfv_1_0, zfv_1_1, zfv_1_2, zfv_1_3, zfv_1_4, zfv_1_5, zfv_1_6, zfv_1_7, zf_1_7, zfv_1_8, zf_1_8, zk_9, zfv_9_0, zfv_9_1, zfv_9_2, zfv_9_3, zfv_9_4, zfv_9_5, zfv_9_6, zfv_9_7, zf_9_7, zfv_9_8, zf_9_8, zk_17, zfv_17_0, zfv_17_1, zfv_17_2, zfv_17_3, zfv_17_4, zfv_17_5, zfv_17_6, zfv_17_7, zf_17_7, zfv_17_8, zf_17_8, zk_2, zn_2, zk_3, zn_3, zk_4, zn_4, zk_5, zn_5, zk_6, zn_6, zk_7, zn_7, zk_8, zn_8, zk_10, zn_10, zk_11, zn_11, zk_12, zn_12, zk_13, zn_13, zk_14, zn_14, zk_15, zn_15, zk_16, zn_16, zk_18, zn_18, zk_19, zn_19, zk_20, zn_20, zk_21, zn_21, zk_22, zn_22, zk_23, zn_23, zk_24, zn_24, hc, hz, hgk, s_isAlive ht hk, s_isHand ht hg, zb1_0, p1, p2, p3, c1, c2, c0, zn_bool_0, zn_bool_1]
  all_goals simp
theorem s_doAct_f (ht : zTn t) (hk : k < 6) (hg : fkp M t k < 6) (hgk : M (t + 6) k = nI (fkp M t k)) {a : Int32} (hok : ¬ fok M t k a) : zQ 32 0 [.ref t, .int (nI k), .int a] [] M Q ↔ Q (zI 0) M := by
  have hc : (nI k).toNatClampNeg = k := nI_clamp (by omega)
  have hz := zin_nI (n := 6) hk (by decide)
  unfold fok at hok
  generalize fkp M t k = g at *
  have ht2 := ht
  by_cases p1 : 0 < M (t + 2) k
  · by_cases p2 : 0 < M (t + 2) g ∧ M (t + 7) g = 0
    · have p3 : ¬ M (t + 7) k = zb1 (a = 1) := fun h => hok ⟨p1, p2, h⟩
      by_cases c1 : a = 1 <;> simp only [zb1, c1, if_true, if_false] at p3 <;> rcases ht2 with rfl | rfl | rfl <;> simp only [Nat.reduceAdd] at p1 p2 p3 hgk <;> simp only [q32_0, q32_1, q32_2, q32_5, q32_8, q32_9, q32_10, q32_13, q32_14, q32_15, q32_18, q32_21, q32_22, q32_25, q32_26, q32_27, q32_28, q32_29, q32_32, q32_33, q32_36, q32_37, q32_40, q32_41, q32_42, q32_43, q32_44, q32_47, q32_48, q32_51, q32_52, q32_53, q32_56, q32_57, q32_58, q32_59, q32_62, q32_63, q32_64, q32_65, q32_66, q32_69, q32_70, q32_73, q32_74, q32_75, q32_78, q32_79, q32_82, q32_83, q32_84, q32_85, zNC, zcs_0, zcs_i, zcs_r, zcs_l, zpush_0, zpush_i, zpush_l, and_true, true_and, Nat.reduceLT, Nat.reduceLeDiff, Nat.reduceAdd, Nat.reduceMul, reduceIte, ite_true, ite_false, if_true, if_false, not_true_eq_false, not_false_eq_true, false_implies, true_implies, forall_const, implies_true, imp_self, and_self, false_and, and_false, ne_eq, zk_1, zfv_1_0, zfv_1_1, zfv_1_2, zfv_1_3, zfv_1_4, zfv_1_5, zfv_1_6, zfv_1_7, zf_1_7, zfv_1_8, zf_1_8, zk_9, zfv_9_0, zfv_9_1, zfv_9_2, zfv_9_3, zfv_9_4, zfv_9_5, zfv_9_6, zfv_9_7, zf_9_7, zfv_9_8, zf_9_8, zk_17, zfv_17_0, zfv_17_1, zfv_17_2, zfv_17_3, zfv_17_4, zfv_17_5, zfv_17_6, zfv_17_7, zf_17_7, zfv_17_8, zf_17_8, zk_2, zn_2, zk_3, zn_3, zk_4, zn_4, zk_5, zn_5, zk_6, zn_6, zk_7, zn_7, zk_8, zn_8, zk_10, zn_10, zk_11, zn_11, zk_12, zn_12, zk_13, zn_13, zk_14, zn_14, zk_15, zn_15, zk_16, zn_16, zk_18, zn_18, zk_19, zn_19, zk_20, zn_20, zk_21, zn_21, zk_22, zn_22, zk_23, zn_23, zk_24, zn_24, hc, hz, hgk, s_isAlive ht hk, s_isHand ht hg, zb1_0, p1, p2, p3, c1]
      all_goals simp
    · rcases ht2 with rfl | rfl | rfl <;> simp only [Nat.reduceAdd] at p1 p2 hgk <;> simp only [q32_0, q32_1, q32_2, q32_5, q32_8, q32_9, q32_10, q32_13, q32_14, q32_15, q32_18, q32_21, q32_22, q32_25, q32_26, q32_27, q32_28, q32_29, q32_32, q32_33, q32_36, q32_37, q32_40, q32_41, q32_42, q32_43, q32_44, q32_47, q32_48, q32_51, q32_52, q32_53, q32_56, q32_57, q32_58, q32_59, q32_62, q32_63, q32_64, q32_65, q32_66, q32_69, q32_70, q32_73, q32_74, q32_75, q32_78, q32_79, q32_82, q32_83, q32_84, q32_85, zNC, zcs_0, zcs_i, zcs_r, zcs_l, zpush_0, zpush_i, zpush_l, and_true, true_and, Nat.reduceLT, Nat.reduceLeDiff, Nat.reduceAdd, Nat.reduceMul, reduceIte, ite_true, ite_false, if_true, if_false, not_true_eq_false, not_false_eq_true, false_implies, true_implies, forall_const, implies_true, imp_self, and_self, false_and, and_false, ne_eq, zk_1, zfv_1_0, zfv_1_1, zfv_1_2, zfv_1_3, zfv_1_4, zfv_1_5, zfv_1_6, zfv_1_7, zf_1_7, zfv_1_8, zf_1_8, zk_9, zfv_9_0, zfv_9_1, zfv_9_2, zfv_9_3, zfv_9_4, zfv_9_5, zfv_9_6, zfv_9_7, zf_9_7, zfv_9_8, zf_9_8, zk_17, zfv_17_0, zfv_17_1, zfv_17_2, zfv_17_3, zfv_17_4, zfv_17_5, zfv_17_6, zfv_17_7, zf_17_7, zfv_17_8, zf_17_8, zk_2, zn_2, zk_3, zn_3, zk_4, zn_4, zk_5, zn_5, zk_6, zn_6, zk_7, zn_7, zk_8, zn_8, zk_10, zn_10, zk_11, zn_11, zk_12, zn_12, zk_13, zn_13, zk_14, zn_14, zk_15, zn_15, zk_16, zn_16, zk_18, zn_18, zk_19, zn_19, zk_20, zn_20, zk_21, zn_21, zk_22, zn_22, zk_23, zn_23, zk_24, zn_24, hc, hz, hgk, s_isAlive ht hk, s_isHand ht hg, zb1_0, p1, p2]
      all_goals simp
  · rcases ht2 with rfl | rfl | rfl <;> simp only [Nat.reduceAdd] at p1 hgk <;> simp only [q32_0, q32_1, q32_2, q32_5, q32_8, q32_9, q32_10, q32_13, q32_14, q32_15, q32_18, q32_21, q32_22, q32_25, q32_26, q32_27, q32_28, q32_29, q32_32, q32_33, q32_36, q32_37, q32_40, q32_41, q32_42, q32_43, q32_44, q32_47, q32_48, q32_51, q32_52, q32_53, q32_56, q32_57, q32_58, q32_59, q32_62, q32_63, q32_64, q32_65, q32_66, q32_69, q32_70, q32_73, q32_74, q32_75, q32_78, q32_79, q32_82, q32_83, q32_84, q32_85, zNC, zcs_0, zcs_i, zcs_r, zcs_l, zpush_0, zpush_i, zpush_l, and_true, true_and, Nat.reduceLT, Nat.reduceLeDiff, Nat.reduceAdd, Nat.reduceMul, reduceIte, ite_true, ite_false, if_true, if_false, not_true_eq_false, not_false_eq_true, false_implies, true_implies, forall_const, implies_true, imp_self, and_self, false_and, and_false, ne_eq, zk_1, zfv_1_0, zfv_1_1, zfv_1_2, zfv_1_3, zfv_1_4, zfv_1_5, zfv_1_6, zfv_1_7, zf_1_7, zfv_1_8, zf_1_8, zk_9, zfv_9_0, zfv_9_1, zfv_9_2, zfv_9_3, zfv_9_4, zfv_9_5, zfv_9_6, zfv_9_7, zf_9_7, zfv_9_8, zf_9_8, zk_17, zfv_17_0, zfv_17_1, zfv_17_2, zfv_17_3, zfv_17_4, zfv_17_5, zfv_17_6, zfv_17_7, zf_17_7, zfv_17_8, zf_17_8, zk_2, zn_2, zk_3, zn_3, zk_4, zn_4, zk_5, zn_5, zk_6, zn_6, zk_7, zn_7, zk_8, zn_8, zk_10, zn_10, zk_11, zn_11, zk_12, zn_12, zk_13, zn_13, zk_14, zn_14, zk_15, zn_15, zk_16, zn_16, zk_18, zn_18, zk_19, zn_19, zk_20, zn_20, zk_21, zn_21, zk_22, zn_22, zk_23, zn_23, zk_24, zn_24, hc, hz, hgk, s_isAlive ht hk, zb1_0, p1]
    all_goals simp
/-- the LIFE of glass k, if house g keeps it -/
def fl (M : zM) (t k g : Nat) : Int32 := flife (M (t + 2) k) (M (t + 7) k) (frate (M (t + 1) k) (M (t + 4) k) (M (t + 5) g))
def fgain (M : zM) (t a b : Nat) : Int32 := fl M t a (fkp M t b) + fl M t b (fkp M t a) - fl M t a (fkp M t a) - fl M t b (fkp M t b)
theorem s_gain (ht : zTn t) (hk : k < 6) (ho : o < 6) (hg : fkp M t k < 6) (hgk : M (t + 6) k = nI (fkp M t k)) (hg2 : fkp M t o < 6) (hgo : M (t + 6) o = nI (fkp M t o)) : zQ 35 0 [.ref t, .int (nI k), .int (nI o), .null] [] M Q ↔ Q (zI (fgain M t k o)) M := by
  have hc : (nI k).toNatClampNeg = k := nI_clamp (by omega)
  have hz := zin_nI (n := 6) hk (by decide)
  have hc2 : (nI o).toNatClampNeg = o := nI_clamp (by omega)
  have hz2 := zin_nI (n := 6) ho (by decide)
  unfold fgain fl
  have e1 : ∀ Q' : zR → zM → Prop, _ := fun Q' => s_lifeOf (M := M) (Q := Q') ht hk hg hgk
  have e2 : ∀ Q' : zR → zM → Prop, _ := fun Q' => s_lifeOf (M := M) (Q := Q') ht ho hg2 hgo
  generalize fkp M t k = g at *
  generalize fkp M t o = g2 at *
  have ht2 := ht
  rcases ht2 with rfl | rfl | rfl <;> simp only [Nat.reduceAdd] at hgk hgo e1 e2 ⊢ <;> simp only [q35_0, q35_1, q35_2, q35_3, q35_6, q35_7, q35_8, q35_11, q35_12, q35_13, q35_14, q35_17, q35_18, q35_19, q35_22, q35_23i, q35_23r, q35_23n, q35_24, q35_25, q35_26, q35_27, q35_30, q35_31, q35_32, q35_33, q35_36, q35_37, zNC, zcs_0, zcs_i, zcs_r, zcs_l, zpush_0, zpush_i, zpush_l, and_true, true_and, Nat.reduceLT, Nat.reduceLeDiff, Nat.reduceAdd, Nat.reduceMul, reduceIte, ite_true, ite_false, if_true, if_false, not_true_eq_false, not_false_eq_true, false_implies, true_implies, forall_const, implies_true, imp_self, and_self, false_and, and_false, ne_eq, zk_1, zfv_1_0, zfv_1_1, zfv_1_2, zfv_1_3, zfv_1_4, zfv_1_5, zfv_1_6, zfv_1_7, zf_1_7, zfv_1_8, zf_1_8, zk_9, zfv_9_0, zfv_9_1, zfv_9_2, zfv_9_3, zfv_9_4, zfv_9_5, zfv_9_6, zfv_9_7, zf_9_7, zfv_9_8, zf_9_8, zk_17, zfv_17_0, zfv_17_1, zfv_17_2, zfv_17_3, zfv_17_4, zfv_17_5, zfv_17_6, zfv_17_7, zf_17_7, zfv_17_8, zf_17_8, zk_2, zn_2, zk_3, zn_3, zk_4, zn_4, zk_5, zn_5, zk_6, zn_6, zk_7, zn_7, zk_8, zn_8, zk_10, zn_10, zk_11, zn_11, zk_12, zn_12, zk_13, zn_13, zk_14, zn_14, zk_15, zn_15, zk_16, zn_16, zk_18, zn_18, zk_19, zn_19, zk_20, zn_20, zk_21, zn_21, zk_22, zn_22, zk_23, zn_23, zk_24, zn_24, hc, hz, hc2, hz2, hgk, hgo, s_lifeKeptBy ht hk hg2, s_lifeKeptBy ht ho hg, e1, e2]
/-- by how many keepers -/
def fre (kp : Nat → Int32) (fr : Int32) : Nat → Nat → Int32 → Int32
  | 0, _, _ => -9
  | n + 1, i, c => if kp c.toNatClampNeg = fr then nI i else fre kp fr n (i + 1) (kp c.toNatClampNeg)
theorem l_keepersUpTo (ht : zTn t) (hh : M t 7 = nI h) (h6 : h ≤ 6) (H : zKp M t h) {fr y2 : Int32} : ∀ n i c, i + n = h + 1 → 1 ≤ i → c < h → (zQ 36 5 [.ref t, .int fr, .int y2, .int (nI c), .int (nI i)] [] M Q ↔ Q (zI (fre (M (t + 6)) fr n i (nI c))) M) := by
  intro n
  induction n with
  | zero =>
    intro i c hi h1 hc
    have h2 : nI h < nI i := nI_lt (by omega) (by omega)
    rw [q36_5]
    rcases ht with rfl | rfl | rfl <;> simp only [q36_0, q36_1i, q36_1r, q36_1n, q36_2, q36_3i, q36_3r, q36_3n, q36_7, q36_8, q36_11, q36_14, q36_15, q36_18, q36_19, q36_20i, q36_20r, q36_20n, q36_21, q36_22, q36_23, q36_26, q36_28, q36_29i, q36_29r, q36_29n, q36_32, q36_35, q36_37, zNC, zcs_0, zcs_i, zcs_r, zcs_l, zpush_0, zpush_i, zpush_l, and_true, true_and, Nat.reduceLT, Nat.reduceLeDiff, Nat.reduceAdd, Nat.reduceMul, reduceIte, ite_true, ite_false, if_true, if_false, not_true_eq_false, not_false_eq_true, false_implies, true_implies, forall_const, implies_true, imp_self, and_self, false_and, and_false, ne_eq, zk_1, zfv_1_0, zfv_1_1, zfv_1_2, zfv_1_3, zfv_1_4, zfv_1_5, zfv_1_6, zfv_1_7, zf_1_7, zfv_1_8, zf_1_8, zk_9, zfv_9_0, zfv_9_1, zfv_9_2, zfv_9_3, zfv_9_4, zfv_9_5, zfv_9_6, zfv_9_7, zf_9_7, zfv_9_8, zf_9_8, zk_17, zfv_17_0, zfv_17_1, zfv_17_2, zfv_17_3, zfv_17_4, zfv_17_5, zfv_17_6, zfv_17_7, zf_17_7, zfv_17_8, zf_17_8, zk_2, zn_2, zk_3, zn_3, zk_4, zn_4, zk_5, zn_5, zk_6, zn_6, zk_7, zn_7, zk_8, zn_8, zk_10, zn_10, zk_11, zn_11, zk_12, zn_12, zk_13, zn_13, zk_14, zn_14, zk_15, zn_15, zk_16, zn_16, zk_18, zn_18, zk_19, zn_19, zk_20, zn_20, zk_21, zn_21, zk_22, zn_22, zk_23, zn_23, zk_24, zn_24, hh, h2, fre]
  | succ n ih =>
    intro i c hi h1 hcc
    have h2 : ¬ nI h < nI i := nI_nlt (by omega) (by omega)
    have hc : (nI c).toNatClampNeg = c := nI_clamp (by omega)
    have hz := zin_nI (k := c) (n := 6) (by omega) (by decide)
    obtain ⟨g1, g2⟩ := zKp_at H h6 hcc
    have ih' := ih (i + 1) (fkp M t c) (by omega) (by omega) g1
    rw [← g2] at ih'
    rw [q36_5]
    have ht2 := ht
    by_cases p : M (t + 6) c = fr
    · rcases ht2 with rfl | rfl | rfl <;> simp only [Nat.reduceAdd] at p ⊢ <;> simp only [q36_0, q36_1i, q36_1r, q36_1n, q36_2, q36_3i, q36_3r, q36_3n, q36_7, q36_8, q36_11, q36_14, q36_15, q36_18, q36_19, q36_20i, q36_20r, q36_20n, q36_21, q36_22, q36_23, q36_26, q36_28, q36_29i, q36_29r, q36_29n, q36_32, q36_35, q36_37, zNC, zcs_0, zcs_i, zcs_r, zcs_l, zpush_0, zpush_i, zpush_l, and_true, true_and, Nat.reduceLT, Nat.reduceLeDiff, Nat.reduceAdd, Nat.reduceMul, reduceIte, ite_true, ite_false, if_true, if_false, not_true_eq_false, not_false_eq_true, false_implies, true_implies, forall_const, implies_true, imp_self, and_self, false_and, and_false, ne_eq, zk_1, zfv_1_0, zfv_1_1, zfv_1_2, zfv_1_3, zfv_1_4, zfv_1_5, zfv_1_6, zfv_1_7, zf_1_7, zfv_1_8, zf_1_8, zk_9, zfv_9_0, zfv_9_1, zfv_9_2, zfv_9_3, zfv_9_4, zfv_9_5, zfv_9_6, zfv_9_7, zf_9_7, zfv_9_8, zf_9_8, zk_17, zfv_17_0, zfv_17_1, zfv_17_2, zfv_17_3, zfv_17_4, zfv_17_5, zfv_17_6, zfv_17_7, zf_17_7, zfv_17_8, zf_17_8, zk_2, zn_2, zk_3, zn_3, zk_4, zn_4, zk_5, zn_5, zk_6, zn_6, zk_7, zn_7, zk_8, zn_8, zk_10, zn_10, zk_11, zn_11, zk_12, zn_12, zk_13, zn_13, zk_14, zn_14, zk_15, zn_15, zk_16, zn_16, zk_18, zn_18, zk_19, zn_19, zk_20, zn_20, zk_21, zn_21, zk_22, zn_22, zk_23, zn_23, zk_24, zn_24, hh, h2, fre, hc, hz, p]
    · rcases ht2 with rfl | rfl | rfl <;> simp only [Nat.reduceAdd] at p ih' ⊢ <;> simp only [q36_0, q36_1i, q36_1r, q36_1n, q36_2, q36_3i, q36_3r, q36_3n, q36_7, q36_8, q36_11, q36_14, q36_15, q36_18, q36_19, q36_20i, q36_20r, q36_20n, q36_21, q36_22, q36_23, q36_26, q36_28, q36_29i, q36_29r, q36_29n, q36_32, q36_35, q36_37, zNC, zcs_0, zcs_i, zcs_r, zcs_l, zpush_0, zpush_i, zpush_l, and_true, true_and, Nat.reduceLT, Nat.reduceLeDiff, Nat.reduceAdd, Nat.reduceMul, reduceIte, ite_true, ite_false, if_true, if_false, not_true_eq_false, not_false_eq_true, false_implies, true_implies, forall_const, implies_true, imp_self, and_self, false_and, and_false, ne_eq, zk_1, zfv_1_0, zfv_1_1, zfv_1_2, zfv_1_3, zfv_1_4, zfv_1_5, zfv_1_6, zfv_1_7, zf_1_7, zfv_1_8, zf_1_8, zk_9, zfv_9_0, zfv_9_1, zfv_9_2, zfv_9_3, zfv_9_4, zfv_9_5, zfv_9_6, zfv_9_7, zf_9_7, zfv_9_8, zf_9_8, zk_17, zfv_17_0, zfv_17_1, zfv_17_2, zfv_17_3, zfv_17_4, zfv_17_5, zfv_17_6, zfv_17_7, zf_17_7, zfv_17_8, zf_17_8, zk_2, zn_2, zk_3, zn_3, zk_4, zn_4, zk_5, zn_5, zk_6, zn_6, zk_7, zn_7, zk_8, zn_8, zk_10, zn_10, zk_11, zn_11, zk_12, zn_12, zk_13, zn_13, zk_14, zn_14, zk_15, zn_15, zk_16, zn_16, zk_18, zn_18, zk_19, zn_19, zk_20, zn_20, zk_21, zn_21, zk_22, zn_22, zk_23, zn_23, zk_24, zn_24, hh, h2, fre, hc, hz, p, nI_1, ih']
theorem s_keepersUpTo (ht : zTn t) (hh : M t 7 = nI h) (h6 : h ≤ 6) (H : zKp M t h) {fr : Int32} (hk : k < h) : zQ 36 0 [.ref t, .int fr, .int (nI k), .null, .null] [] M Q ↔ Q (zI (fre (M (t + 6)) fr h 1 (nI k))) M := by
  refine Iff.trans ?_ (l_keepersUpTo ht hh h6 H (y2 := nI k) h 1 k (by omega) (by omega) hk)
  simp only [q36_0, q36_1i, q36_1r, q36_1n, q36_2, q36_3i, q36_3r, q36_3n, q36_7, q36_8, q36_11, q36_14, q36_15, q36_18, q36_19, q36_20i, q36_20r, q36_20n, q36_21, q36_22, q36_23, q36_26, q36_28, q36_29i, q36_29r, q36_29n, q36_32, q36_35, q36_37]
  exact Iff.rfl
end TW
