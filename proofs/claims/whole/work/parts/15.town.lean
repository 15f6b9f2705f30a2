-- the class's Town: leaves
def bset (P : Nat → Bool) : Nat → Int32
  | 0 => 0
  | n + 1 => if P n = true then bset P n ||| (1 <<< (nI n &&& 31)) else bset P n
theorem bset_t {P : Nat → Bool} {n : Nat} (h : P n = true) : bset P (n + 1) = bset P n ||| (1 <<< (nI n &&& 31)) := if_pos h
theorem bset_f {P : Nat → Bool} {n : Nat} (h : ¬ P n = true) : bset P (n + 1) = bset P n := if_neg h
theorem bset_congr {P P' : Nat → Bool} : ∀ {n : Nat}, (∀ k, k < n → P k = P' k) → bset P n = bset P' n := by
  intro n
  induction n with
  | zero => intro _; rfl
  | succ n ih =>
    intro h
    simp only [bset]
    rw [ih (fun k hk => h k (by omega)), h n (by omega)]
theorem i_le_refl (x : Int32) : x ≤ x := by rw [fa_le]; omega
def fsb (l s y r : Int32) : Int32 := if l = 0 then (if 0 < s - y * r then s - y * r else 0) else s
def flife (s l r : Int32) : Int32 := if 0 < s then (if l = 0 ∧ 0 < r then (s + r - 1) / r else 99) else 0
section TW
variable {M : zM} {Q : zR → zM → Prop} {t k h g o : Nat}
theorem s_rateKeptBy (ht : zTn t) (hk : k < 6) (hg : g < 6) : zQ 24 0 [.ref t, .int (nI k), .int (nI g), .null] [] M Q ↔ Q (zI (frate (M (t + 1) k) (M (t + 4) k) (M (t + 5) g))) M := by
  have hc : (nI k).toNatClampNeg = k := nI_clamp (by omega)
  have hz := zin_nI (n := 6) hk (by decide)
  have hc2 : (nI g).toNatClampNeg = g := nI_clamp (by omega)
  have hz2 := zin_nI (n := 6) hg (by decide)
  have ht2 := ht
  rcases ht2 with rfl | rfl | rfl <;> simp only [q24_0, q24_1, q24_4, q24_5, q24_6, q24_7, q24_10, q24_11, q24_12, q24_13i, q24_13r, q24_13n, q24_14, q24_15, q24_18, q24_19, q24_48, q24_49, q24_50, q24_51, q24_52, q24_53, q24_54, q24_55, q24_56, q24_57, q24_58, q24_59, w24_20, zNC, zcs_0, zcs_i, zcs_r, zcs_l, zpush_0, zpush_i, zpush_l, and_true, true_and, Nat.reduceLT, Nat.reduceLeDiff, Nat.reduceAdd, Nat.reduceMul, reduceIte, ite_true, ite_false, if_true, if_false, not_true_eq_false, not_false_eq_true, false_implies, true_implies, forall_const, implies_true, imp_self, and_self, false_and, and_false, ne_eq, zk_1, zfv_1_0, zfv_1_1, zfv_1_2, zfv_1_3, zfv_1_4, zfv_1_5, zfv_1_6, zfv_1_7, zf_1_7, zfv_1_8, zf_1_8, zk_9, zfv_9_0, zfv_9_1, zfv_9_2, zfv_9_3, zfv_9_4, zfv_9_5, zfv_9_6, zfv_9_7, zf_9_7, zfv_9_8, zf_9_8, zk_17, zfv_17_0, zfv_17_1, zfv_17_2, zfv_17_3, zfv_17_4, zfv_17_5, zfv_17_6, zfv_17_7, zf_17_7, zfv_17_8, zf_17_8, zk_2, zn_2, zk_3, zn_3, zk_4, zn_4, zk_5, zn_5, zk_6, zn_6, zk_7, zn_7, zk_8, zn_8, zk_10, zn_10, zk_11, zn_11, zk_12, zn_12, zk_13, zn_13, zk_14, zn_14, zk_15, zn_15, zk_16, zn_16, zk_18, zn_18, zk_19, zn_19, zk_20, zn_20, zk_21, zn_21, zk_22, zn_22, zk_23, zn_23, zk_24, zn_24, hc, hz, hc2, hz2]
  all_goals
    unfold frate
    split
    · rename_i e; simp [e]
    · split
      · rename_i e1 e; simp [e]
      · rename_i e1 e; simp [e, e1]
theorem s_isHand (ht : zTn t) (hk : k < 6) : zQ 26 0 [.ref t, .int (nI k)] [] M Q ↔ Q (zI (zb1 (0 < M (t + 2) k ∧ M (t + 7) k = 0))) M := by
  have hc : (nI k).toNatClampNeg = k := nI_clamp (by omega)
  have hz := zin_nI (n := 6) hk (by decide)
  have ht2 := ht
  by_cases p1 : 0 < M (t + 2) k <;> by_cases p2 : M (t + 7) k = 0 <;> rcases ht2 with rfl | rfl | rfl <;> simp only [Nat.reduceAdd] at p1 p2 <;> simp only [q26_0, q26_1, q26_2, q26_5, q26_8, q26_9, q26_12, q26_13, q26_14, q26_17, q26_18, q26_21, q26_22, zNC, zcs_0, zcs_i, zcs_r, zcs_l, zpush_0, zpush_i, zpush_l, and_true, true_and, Nat.reduceLT, Nat.reduceLeDiff, Nat.reduceAdd, Nat.reduceMul, reduceIte, ite_true, ite_false, if_true, if_false, not_true_eq_false, not_false_eq_true, false_implies, true_implies, forall_const, implies_true, imp_self, and_self, false_and, and_false, ne_eq, zk_1, zfv_1_0, zfv_1_1, zfv_1_2, zfv_1_3, zfv_1_4, zfv_1_5, zfv_1_6, zfv_1_7, zf_1_7, zfv_1_8, zf_1_8, zk_9, zfv_9_0, zfv_9_1, zfv_9_2, zfv_9_3, zfv_9_4, zfv_9_5, zfv_9_6, zfv_9_7, zf_9_7, zfv_9_8, zf_9_8, zk_17, zfv_17_0, zfv_17_1, zfv_17_2, zfv_17_3, zfv_17_4, zfv_17_5, zfv_17_6, zfv_17_7, zf_17_7, zfv_17_8, zf_17_8, zk_2, zn_2, zk_3, zn_3, zk_4, zn_4, zk_5, zn_5, zk_6, zn_6, zk_7, zn_7, zk_8, zn_8, zk_10, zn_10, zk_11, zn_11, zk_12, zn_12, zk_13, zn_13, zk_14, zn_14, zk_15, zn_15, zk_16, zn_16, zk_18, zn_18, zk_19, zn_19, zk_20, zn_20, zk_21, zn_21, zk_22, zn_22, zk_23, zn_23, zk_24, zn_24, hc, hz, s_isAlive ht hk, zb1_0, p1, p2] <;> simp [zb1]
theorem s_sandBehind (ht : zTn t) (hk : k < 6) (hg : g < 6) (hgk : M (t + 6) k = nI g) {y : Int32} : zQ 30 0 [.ref t, .int (nI k), .int y] [] M Q ↔ Q (zI (fsb (M (t + 7) k) (M (t + 2) k) y (frate (M (t + 1) k) (M (t + 4) k) (M (t + 5) g)))) M := by
  have hc : (nI k).toNatClampNeg = k := nI_clamp (by omega)
  have hz := zin_nI (n := 6) hk (by decide)
  have ht2 := ht
  by_cases p2 : M (t + 7) k = 0 <;> rcases ht2 with rfl | rfl | rfl <;> simp only [Nat.reduceAdd] at hgk p2 <;> simp only [q30_0, q30_1, q30_4, q30_5, q30_6, q30_9, q30_10, q30_13, q30_14, q30_15, q30_18, q30_19, q30_20, q30_23, q30_24, q30_25, q30_26, q30_27, q30_28, q30_29, q30_32, q30_33, q30_34, q30_37, q30_38, q30_39, q30_42, zNC, zcs_0, zcs_i, zcs_r, zcs_l, zpush_0, zpush_i, zpush_l, and_true, true_and, Nat.reduceLT, Nat.reduceLeDiff, Nat.reduceAdd, Nat.reduceMul, reduceIte, ite_true, ite_false, if_true, if_false, not_true_eq_false, not_false_eq_true, false_implies, true_implies, forall_const, implies_true, imp_self, and_self, false_and, and_false, ne_eq, zk_1, zfv_1_0, zfv_1_1, zfv_1_2, zfv_1_3, zfv_1_4, zfv_1_5, zfv_1_6, zfv_1_7, zf_1_7, zfv_1_8, zf_1_8, zk_9, zfv_9_0, zfv_9_1, zfv_9_2, zfv_9_3, zfv_9_4, zfv_9_5, zfv_9_6, zfv_9_7, zf_9_7, zfv_9_8, zf_9_8, zk_17, zfv_17_0, zfv_17_1, zfv_17_2, zfv_17_3, zfv_17_4, zfv_17_5, zfv_17_6, zfv_17_7, zf_17_7, zfv_17_8, zf_17_8, zk_2, zn_2, zk_3, zn_3, zk_4, zn_4, zk_5, zn_5, zk_6, zn_6, zk_7, zn_7, zk_8, zn_8, zk_10, zn_10, zk_11, zn_11, zk_12, zn_12, zk_13, zn_13, zk_14, zn_14, zk_15, zn_15, zk_16, zn_16, zk_18, zn_18, zk_19, zn_19, zk_20, zn_20, zk_21, zn_21, zk_22, zn_22, zk_23, zn_23, zk_24, zn_24, hc, hz, hgk, s_rateKeptBy ht hk hg, zfr_30, zlo_30, p2, fsb]
theorem s_lifeKeptBy (ht : zTn t) (hk : k < 6) (hg : g < 6) : zQ 34 0 [.ref t, .int (nI k), .int (nI g), .null] [] M Q ↔ Q (zI (flife (M (t + 2) k) (M (t + 7) k) (frate (M (t + 1) k) (M (t + 4) k) (M (t + 5) g)))) M := by
  have hc : (nI k).toNatClampNeg = k := nI_clamp (by omega)
  have hz := zin_nI (n := 6) hk (by decide)
  have ht2 := ht
  have h0 : ∀ r : Int32, 0 < r → ¬ r = 0 := by intro r hr; simp only [fa_lt, fa_le, fa_eq, zt_0, zt_1, zt_2, zt_3, zt_4, zt_5, zt_6, zt_7, zt_8, zt_9, zt_10, zt_11, zt_12, zt_13, zt_14, zt_15, zt_16, zt_17, zt_18, zt_19, zt_20, zt_21, zt_22, zt_23, zt_24, zt_25, zt_31, zt_40, zt_48, zt_50, zt_57, zt_59, zt_60, zt_97, zt_98, zt_99, zt_100, zt_112, zt_115, zt_119, zt_120, zt_255, zt_999, zt_m1, zt_m2, zt_m3, zt_m4, zt_m9, zt_m10, zt_m100] at *; omega
  by_cases p1 : 0 < M (t + 2) k <;> by_cases p2 : M (t + 7) k = 0 <;> by_cases p3 : 0 < frate (M (t + 1) k) (M (t + 4) k) (M (t + 5) g) <;> rcases ht2 with rfl | rfl | rfl <;> simp only [Nat.reduceAdd] at p1 p2 p3 <;> simp only [q34_0, q34_1, q34_2, q34_5, q34_8, q34_9, q34_10, q34_11, q34_12, q34_13, q34_16i, q34_16r, q34_16n, q34_17, q34_18, q34_21, q34_22, q34_23, q34_26, q34_27, q34_30, q34_32, q34_33, q34_34, q34_37, q34_38, q34_39, q34_40, q34_41, q34_42, q34_43, q34_44, q34_45, zNC, zcs_0, zcs_i, zcs_r, zcs_l, zpush_0, zpush_i, zpush_l, and_true, true_and, Nat.reduceLT, Nat.reduceLeDiff, Nat.reduceAdd, Nat.reduceMul, reduceIte, ite_true, ite_false, if_true, if_false, not_true_eq_false, not_false_eq_true, false_implies, true_implies, forall_const, implies_true, imp_self, and_self, false_and, and_false, ne_eq, zk_1, zfv_1_0, zfv_1_1, zfv_1_2, zfv_1_3, zfv_1_4, zfv_1_5, zfv_1_6, zfv_1_7, zf_1_7, zfv_1_8, zf_1_8, zk_9, zfv_9_0, zfv_9_1, zfv_9_2, zfv_9_3, zfv_9_4, zfv_9_5, zfv_9_6, zfv_9_7, zf_9_7, zfv_9_8, zf_9_8, zk_17, zfv_17_0, zfv_17_1, zfv_17_2, zfv_17_3, zfv_17_4, zfv_17_5, zfv_17_6, zfv_17_7, zf_17_7, zfv_17_8, zf_17_8, zk_2, zn_2, zk_3, zn_3, zk_4, zn_4, zk_5, zn_5, zk_6, zn_6, zk_7, zn_7, zk_8, zn_8, zk_10, zn_10, zk_11, zn_11, zk_12, zn_12, zk_13, zn_13, zk_14, zn_14, zk_15, zn_15, zk_16, zn_16, zk_18, zn_18, zk_19, zn_19, zk_20, zn_20, zk_21, zn_21, zk_22, zn_22, zk_23, zn_23, zk_24, zn_24, hc, hz, s_isAlive ht hk, s_rateKeptBy ht hk hg, zb1_0, p1, p2, p3, flife]
  all_goals simp [h0 _ p3]
theorem s_lifeOf (ht : zTn t) (hk : k < 6) (hg : g < 6) (hgk : M (t + 6) k = nI g) : zQ 33 0 [.ref t, .int (nI k)] [] M Q ↔ Q (zI (flife (M (t + 2) k) (M (t + 7) k) (frate (M (t + 1) k) (M (t + 4) k) (M (t + 5) g)))) M := by
  have hc : (nI k).toNatClampNeg = k := nI_clamp (by omega)
  have hz := zin_nI (n := 6) hk (by decide)
  have ht2 := ht
  rcases ht2 with rfl | rfl | rfl <;> (simp only [Nat.reduceAdd] at hgk) <;> simp only [q33_0, q33_1, q33_2, q33_3, q33_6, q33_7, q33_8, q33_11, zNC, zcs_0, zcs_i, zcs_r, zcs_l, zpush_0, zpush_i, zpush_l, and_true, true_and, Nat.reduceLT, Nat.reduceLeDiff, Nat.reduceAdd, Nat.reduceMul, reduceIte, ite_true, ite_false, if_true, if_false, not_true_eq_false, not_false_eq_true, false_implies, true_implies, forall_const, implies_true, imp_self, and_self, false_and, and_false, ne_eq, zk_1, zfv_1_0, zfv_1_1, zfv_1_2, zfv_1_3, zfv_1_4, zfv_1_5, zfv_1_6, zfv_1_7, zf_1_7, zfv_1_8, zf_1_8, zk_9, zfv_9_0, zfv_9_1, zfv_9_2, zfv_9_3, zfv_9_4, zfv_9_5, zfv_9_6, zfv_9_7, zf_9_7, zfv_9_8, zf_9_8, zk_17, zfv_17_0, zfv_17_1, zfv_17_2, zfv_17_3, zfv_17_4, zfv_17_5, zfv_17_6, zfv_17_7, zf_17_7, zfv_17_8, zf_17_8, zk_2, zn_2, zk_3, zn_3, zk_4, zn_4, zk_5, zn_5, zk_6, zn_6, zk_7, zn_7, zk_8, zn_8, zk_10, zn_10, zk_11, zn_11, zk_12, zn_12, zk_13, zn_13, zk_14, zn_14, zk_15, zn_15, zk_16, zn_16, zk_18, zn_18, zk_19, zn_19, zk_20, zn_20, zk_21, zn_21, zk_22, zn_22, zk_23, zn_23, zk_24, zn_24, hc, hz, hgk, s_lifeKeptBy ht hk hg]
theorem l_setOfLiving (ht : zTn t) (hh : M t 7 = nI h) (h6 : h ≤ 6) : ∀ d k, k + d = h → (zQ 27 4 [.ref t, .int (bset (fun k => decide (0 < M (t + 2) k)) k), .int (nI k)] [] M Q ↔ Q (zI (bset (fun k => decide (0 < M (t + 2) k)) h)) M) := by
  intro d
  induction d with
  | zero =>
    intro k hk
    obtain rfl : k = h := by omega
    rw [q27_4]
    rcases ht with rfl | rfl | rfl <;> simp only [q27_0, q27_1i, q27_1r, q27_1n, q27_2, q27_3i, q27_3r, q27_3n, q27_5, q27_6, q27_9, q27_12, q27_13, q27_14, q27_17, q27_20, q27_21, q27_22, q27_23, q27_24, q27_25i, q27_25r, q27_25n, q27_26i, q27_26r, q27_26n, q27_29, q27_32, q27_33, zNC, zcs_0, zcs_i, zcs_r, zcs_l, zpush_0, zpush_i, zpush_l, and_true, true_and, Nat.reduceLT, Nat.reduceLeDiff, Nat.reduceAdd, Nat.reduceMul, reduceIte, ite_true, ite_false, if_true, if_false, not_true_eq_false, not_false_eq_true, false_implies, true_implies, forall_const, implies_true, imp_self, and_self, false_and, and_false, ne_eq, zk_1, zfv_1_0, zfv_1_1, zfv_1_2, zfv_1_3, zfv_1_4, zfv_1_5, zfv_1_6, zfv_1_7, zf_1_7, zfv_1_8, zf_1_8, zk_9, zfv_9_0, zfv_9_1, zfv_9_2, zfv_9_3, zfv_9_4, zfv_9_5, zfv_9_6, zfv_9_7, zf_9_7, zfv_9_8, zf_9_8, zk_17, zfv_17_0, zfv_17_1, zfv_17_2, zfv_17_3, zfv_17_4, zfv_17_5, zfv_17_6, zfv_17_7, zf_17_7, zfv_17_8, zf_17_8, zk_2, zn_2, zk_3, zn_3, zk_4, zn_4, zk_5, zn_5, zk_6, zn_6, zk_7, zn_7, zk_8, zn_8, zk_10, zn_10, zk_11, zn_11, zk_12, zn_12, zk_13, zn_13, zk_14, zn_14, zk_15, zn_15, zk_16, zn_16, zk_18, zn_18, zk_19, zn_19, zk_20, zn_20, zk_21, zn_21, zk_22, zn_22, zk_23, zn_23, zk_24, zn_24, hh, i_le_refl]
  | succ d ih =>
    intro k hk
    have h1 : ¬ nI h ≤ nI k := nI_ge (by omega) (by omega)
    have ih' := ih (k + 1) (by omega)
    rw [q27_4]
    have ht2 := ht
    by_cases hp : 0 < M (t + 2) k
    · rw [bset_t (decide_eq_true hp)] at ih'
      rw [← ih']
      rcases ht2 with rfl | rfl | rfl <;> simp only [q27_0, q27_1i, q27_1r, q27_1n, q27_2, q27_3i, q27_3r, q27_3n, q27_5, q27_6, q27_9, q27_12, q27_13, q27_14, q27_17, q27_20, q27_21, q27_22, q27_23, q27_24, q27_25i, q27_25r, q27_25n, q27_26i, q27_26r, q27_26n, q27_29, q27_32, q27_33, zNC, zcs_0, zcs_i, zcs_r, zcs_l, zpush_0, zpush_i, zpush_l, and_true, true_and, Nat.reduceLT, Nat.reduceLeDiff, Nat.reduceAdd, Nat.reduceMul, reduceIte, ite_true, ite_false, if_true, if_false, not_true_eq_false, not_false_eq_true, false_implies, true_implies, forall_const, implies_true, imp_self, and_self, false_and, and_false, ne_eq, zk_1, zfv_1_0, zfv_1_1, zfv_1_2, zfv_1_3, zfv_1_4, zfv_1_5, zfv_1_6, zfv_1_7, zf_1_7, zfv_1_8, zf_1_8, zk_9, zfv_9_0, zfv_9_1, zfv_9_2, zfv_9_3, zfv_9_4, zfv_9_5, zfv_9_6, zfv_9_7, zf_9_7, zfv_9_8, zf_9_8, zk_17, zfv_17_0, zfv_17_1, zfv_17_2, zfv_17_3, zfv_17_4, zfv_17_5, zfv_17_6, zfv_17_7, zf_17_7, zfv_17_8, zf_17_8, zk_2, zn_2, zk_3, zn_3, zk_4, zn_4, zk_5, zn_5, zk_6, zn_6, zk_7, zn_7, zk_8, zn_8, zk_10, zn_10, zk_11, zn_11, zk_12, zn_12, zk_13, zn_13, zk_14, zn_14, zk_15, zn_15, zk_16, zn_16, zk_18, zn_18, zk_19, zn_19, zk_20, zn_20, zk_21, zn_21, zk_22, zn_22, zk_23, zn_23, zk_24, zn_24, hh, h1, s_isAlive ht (show k < 6 by omega), zb1_0, hp, nI_1]
    · rw [bset_f (by simpa using hp)] at ih'
      rw [← ih']
      rcases ht2 with rfl | rfl | rfl <;> simp only [q27_0, q27_1i, q27_1r, q27_1n, q27_2, q27_3i, q27_3r, q27_3n, q27_5, q27_6, q27_9, q27_12, q27_13, q27_14, q27_17, q27_20, q27_21, q27_22, q27_23, q27_24, q27_25i, q27_25r, q27_25n, q27_26i, q27_26r, q27_26n, q27_29, q27_32, q27_33, zNC, zcs_0, zcs_i, zcs_r, zcs_l, zpush_0, zpush_i, zpush_l, and_true, true_and, Nat.reduceLT, Nat.reduceLeDiff, Nat.reduceAdd, Nat.reduceMul, reduceIte, ite_true, ite_false, if_true, if_false, not_true_eq_false, not_false_eq_true, false_implies, true_implies, forall_const, implies_true, imp_self, and_self, false_and, and_false, ne_eq, zk_1, zfv_1_0, zfv_1_1, zfv_1_2, zfv_1_3, zfv_1_4, zfv_1_5, zfv_1_6, zfv_1_7, zf_1_7, zfv_1_8, zf_1_8, zk_9, zfv_9_0, zfv_9_1, zfv_9_2, zfv_9_3, zfv_9_4, zfv_9_5, zfv_9_6, zfv_9_7, zf_9_7, zfv_9_8, zf_9_8, zk_17, zfv_17_0, zfv_17_1, zfv_17_2, zfv_17_3, zfv_17_4, zfv_17_5, zfv_17_6, zfv_17_7, zf_17_7, zfv_17_8, zf_17_8, zk_2, zn_2, zk_3, zn_3, zk_4, zn_4, zk_5, zn_5, zk_6, zn_6, zk_7, zn_7, zk_8, zn_8, zk_10, zn_10, zk_11, zn_11, zk_12, zn_12, zk_13, zn_13, zk_14, zn_14, zk_15, zn_15, zk_16, zn_16, zk_18, zn_18, zk_19, zn_19, zk_20, zn_20, zk_21, zn_21, zk_22, zn_22, zk_23, zn_23, zk_24, zn_24, hh, h1, s_isAlive ht (show k < 6 by omega), zb1_0, hp, nI_1]
theorem s_setOfLiving (ht : zTn t) (hh : M t 7 = nI h) (h6 : h ≤ 6) : zQ 27 0 [.ref t, .null, .null] [] M Q ↔ Q (zI (bset (fun k => decide (0 < M (t + 2) k)) h)) M := by
  refine Iff.trans ?_ (l_setOfLiving ht hh h6 h 0 (by omega))
  simp only [q27_0, q27_1i, q27_1r, q27_1n, q27_2, q27_3i, q27_3r, q27_3n, q27_5, q27_6, q27_9, q27_12, q27_13, q27_14, q27_17, q27_20, q27_21, q27_22, q27_23, q27_24, q27_25i, q27_25r, q27_25n, q27_26i, q27_26r, q27_26n, q27_29, q27_32, q27_33]
  exact Iff.rfl
end TW
