-- leaves of the class
theorem zin_nI {k n : Nat} (h : k < n) (hn : n < 2 ^ 31) : zin (nI k) n = true := by
  unfold zin
  have h1 : ¬ nI k < 0 := nI_pos (by omega)
  have h2 : ¬ n ≤ (nI k).toNatClampNeg := by rw [nI_clamp (by omega)]; omega
  simp [h1, h2]
def zb1 (p : Prop) [Decidable p] : Int32 := if p then 1 else 0
theorem zb1_t {p : Prop} [Decidable p] (h : p) : zb1 p = 1 := if_pos h
theorem zb1_f {p : Prop} [Decidable p] (h : ¬ p) : zb1 p = 0 := if_neg h
theorem zb1_0 {p : Prop} [Decidable p] : zb1 p = 0 ↔ ¬ p := by unfold zb1; split <;> simp_all
theorem zb1_1 {p : Prop} [Decidable p] : zb1 p = 1 ↔ p := by unfold zb1; split <;> simp_all
theorem zb1_01 {p : Prop} [Decidable p] : (zb1 p = 0 ∨ zb1 p = 1) ↔ True := by unfold zb1; split <;> simp
abbrev zTn (t : Nat) : Prop := t = 1 ∨ t = 9 ∨ t = 17
section LF
variable {M : zM} {Q : zR → zM → Prop} {t k : Nat}
theorem s_isWithin {x y : Int32} : zQ 74 0 [.int x, .int y] [] M Q ↔ Q (zI (zb1 (0 ≤ x ∧ x < y))) M := by
  simp only [q74_0, q74_1, q74_4, q74_5, q74_6, q74_9, q74_10, q74_13, q74_14, zNC, zcs_0, zcs_i, zcs_r, zcs_l, zpush_0, zpush_i, zpush_l, and_true, true_and, Nat.reduceLT, Nat.reduceLeDiff, Nat.reduceAdd, Nat.reduceMul, reduceIte, ite_true, ite_false, if_true, if_false, not_true_eq_false, not_false_eq_true, false_implies, true_implies, forall_const, implies_true, imp_self, and_self, false_and, and_false, ne_eq]
  by_cases h1 : 0 ≤ x
  · have h0 : ¬ x < 0 := by simp only [fa_lt, fa_le, fa_eq, zt_0, zt_1, zt_2, zt_3, zt_4, zt_5, zt_6, zt_7, zt_8, zt_9, zt_10, zt_11, zt_12, zt_13, zt_14, zt_15, zt_16, zt_17, zt_18, zt_19, zt_20, zt_21, zt_22, zt_23, zt_24, zt_25, zt_31, zt_40, zt_48, zt_50, zt_57, zt_59, zt_60, zt_97, zt_98, zt_99, zt_100, zt_112, zt_115, zt_119, zt_120, zt_255, zt_999, zt_m1, zt_m2, zt_m3, zt_m4, zt_m9, zt_m10, zt_m100] at *; omega
    by_cases h2 : x < y
    · have h3 : ¬ y ≤ x := by simp only [fa_lt, fa_le, fa_eq, zt_0, zt_1, zt_2, zt_3, zt_4, zt_5, zt_6, zt_7, zt_8, zt_9, zt_10, zt_11, zt_12, zt_13, zt_14, zt_15, zt_16, zt_17, zt_18, zt_19, zt_20, zt_21, zt_22, zt_23, zt_24, zt_25, zt_31, zt_40, zt_48, zt_50, zt_57, zt_59, zt_60, zt_97, zt_98, zt_99, zt_100, zt_112, zt_115, zt_119, zt_120, zt_255, zt_999, zt_m1, zt_m2, zt_m3, zt_m4, zt_m9, zt_m10, zt_m100] at *; omega
      simp [h0, h1, h2, h3, zb1]
    · have h3 : y ≤ x := fa_of_nlt h2
      simp [h0, h1, h2, h3, zb1]
  · have h0 : x < 0 := by simp only [fa_lt, fa_le, fa_eq, zt_0, zt_1, zt_2, zt_3, zt_4, zt_5, zt_6, zt_7, zt_8, zt_9, zt_10, zt_11, zt_12, zt_13, zt_14, zt_15, zt_16, zt_17, zt_18, zt_19, zt_20, zt_21, zt_22, zt_23, zt_24, zt_25, zt_31, zt_40, zt_48, zt_50, zt_57, zt_59, zt_60, zt_97, zt_98, zt_99, zt_100, zt_112, zt_115, zt_119, zt_120, zt_255, zt_999, zt_m1, zt_m2, zt_m3, zt_m4, zt_m9, zt_m10, zt_m100] at *; omega
    simp [h0, h1, zb1]
theorem s_has (ht : zTn t) {x : Int32} : zQ 17 0 [.ref t, .int x] [] M Q ↔ Q (zI (zb1 (0 ≤ x ∧ x < M t 7))) M := by
  rcases ht with rfl | rfl | rfl <;> simp only [q17_0, q17_1, q17_2, q17_5, q17_8, zNC, zcs_0, zcs_i, zcs_r, zcs_l, zpush_0, zpush_i, zpush_l, and_true, true_and, Nat.reduceLT, Nat.reduceLeDiff, Nat.reduceAdd, Nat.reduceMul, reduceIte, ite_true, ite_false, if_true, if_false, not_true_eq_false, not_false_eq_true, false_implies, true_implies, forall_const, implies_true, imp_self, and_self, false_and, and_false, ne_eq, zk_1, zfv_1_0, zfv_1_1, zfv_1_2, zfv_1_3, zfv_1_4, zfv_1_5, zfv_1_6, zfv_1_7, zf_1_7, zfv_1_8, zf_1_8, zk_9, zfv_9_0, zfv_9_1, zfv_9_2, zfv_9_3, zfv_9_4, zfv_9_5, zfv_9_6, zfv_9_7, zf_9_7, zfv_9_8, zf_9_8, zk_17, zfv_17_0, zfv_17_1, zfv_17_2, zfv_17_3, zfv_17_4, zfv_17_5, zfv_17_6, zfv_17_7, zf_17_7, zfv_17_8, zf_17_8, zk_2, zn_2, zk_3, zn_3, zk_4, zn_4, zk_5, zn_5, zk_6, zn_6, zk_7, zn_7, zk_8, zn_8, zk_10, zn_10, zk_11, zn_11, zk_12, zn_12, zk_13, zn_13, zk_14, zn_14, zk_15, zn_15, zk_16, zn_16, zk_18, zn_18, zk_19, zn_19, zk_20, zn_20, zk_21, zn_21, zk_22, zn_22, zk_23, zn_23, zk_24, zn_24, s_isWithin, zb1_01]
/-- the pure functions on one glass -/
def frate (c n e : Int32) : Int32 := if c = 0 then n + e else if c = 1 then n + e + 1 else (n + e + 1) / 2
theorem s_isAlive (ht : zTn t) (hk : k < 6) : zQ 25 0 [.ref t, .int (nI k)] [] M Q ↔ Q (zI (zb1 (0 < M (t + 2) k))) M := by
  have hc : (nI k).toNatClampNeg = k := nI_clamp (by omega)
  have hz := zin_nI (n := 6) hk (by decide)
  rcases ht with rfl | rfl | rfl <;> simp only [q25_0, q25_1, q25_4, q25_5, q25_6, q25_9, q25_10, q25_13, q25_14, zNC, zcs_0, zcs_i, zcs_r, zcs_l, zpush_0, zpush_i, zpush_l, and_true, true_and, Nat.reduceLT, Nat.reduceLeDiff, Nat.reduceAdd, Nat.reduceMul, reduceIte, ite_true, ite_false, if_true, if_false, not_true_eq_false, not_false_eq_true, false_implies, true_implies, forall_const, implies_true, imp_self, and_self, false_and, and_false, ne_eq, zk_1, zfv_1_0, zfv_1_1, zfv_1_2, zfv_1_3, zfv_1_4, zfv_1_5, zfv_1_6, zfv_1_7, zf_1_7, zfv_1_8, zf_1_8, zk_9, zfv_9_0, zfv_9_1, zfv_9_2, zfv_9_3, zfv_9_4, zfv_9_5, zfv_9_6, zfv_9_7, zf_9_7, zfv_9_8, zf_9_8, zk_17, zfv_17_0, zfv_17_1, zfv_17_2, zfv_17_3, zfv_17_4, zfv_17_5, zfv_17_6, zfv_17_7, zf_17_7, zfv_17_8, zf_17_8, zk_2, zn_2, zk_3, zn_3, zk_4, zn_4, zk_5, zn_5, zk_6, zn_6, zk_7, zn_7, zk_8, zn_8, zk_10, zn_10, zk_11, zn_11, zk_12, zn_12, zk_13, zn_13, zk_14, zn_14, zk_15, zn_15, zk_16, zn_16, zk_18, zn_18, zk_19, zn_19, zk_20, zn_20, zk_21, zn_21, zk_22, zn_22, zk_23, zn_23, zk_24, zn_24, hc, hz]
  all_goals
    first
    | (by_cases h : 0 < M 3 k
       · have h0 : ¬ M 3 k ≤ 0 := by simp only [fa_lt, fa_le, fa_eq, zt_0, zt_1, zt_2, zt_3, zt_4, zt_5, zt_6, zt_7, zt_8, zt_9, zt_10, zt_11, zt_12, zt_13, zt_14, zt_15, zt_16, zt_17, zt_18, zt_19, zt_20, zt_21, zt_22, zt_23, zt_24, zt_25, zt_31, zt_40, zt_48, zt_50, zt_57, zt_59, zt_60, zt_97, zt_98, zt_99, zt_100, zt_112, zt_115, zt_119, zt_120, zt_255, zt_999, zt_m1, zt_m2, zt_m3, zt_m4, zt_m9, zt_m10, zt_m100] at *; omega
         simp [h, h0, zb1]
       · have h0 : M 3 k ≤ 0 := by simp only [fa_lt, fa_le, fa_eq, zt_0, zt_1, zt_2, zt_3, zt_4, zt_5, zt_6, zt_7, zt_8, zt_9, zt_10, zt_11, zt_12, zt_13, zt_14, zt_15, zt_16, zt_17, zt_18, zt_19, zt_20, zt_21, zt_22, zt_23, zt_24, zt_25, zt_31, zt_40, zt_48, zt_50, zt_57, zt_59, zt_60, zt_97, zt_98, zt_99, zt_100, zt_112, zt_115, zt_119, zt_120, zt_255, zt_999, zt_m1, zt_m2, zt_m3, zt_m4, zt_m9, zt_m10, zt_m100] at *; omega
         simp [h, h0, zb1])
    | (by_cases h : 0 < M 11 k
       · have h0 : ¬ M 11 k ≤ 0 := by simp only [fa_lt, fa_le, fa_eq, zt_0, zt_1, zt_2, zt_3, zt_4, zt_5, zt_6, zt_7, zt_8, zt_9, zt_10, zt_11, zt_12, zt_13, zt_14, zt_15, zt_16, zt_17, zt_18, zt_19, zt_20, zt_21, zt_22, zt_23, zt_24, zt_25, zt_31, zt_40, zt_48, zt_50, zt_57, zt_59, zt_60, zt_97, zt_98, zt_99, zt_100, zt_112, zt_115, zt_119, zt_120, zt_255, zt_999, zt_m1, zt_m2, zt_m3, zt_m4, zt_m9, zt_m10, zt_m100] at *; omega
         simp [h, h0, zb1]
       · have h0 : M 11 k ≤ 0 := by simp only [fa_lt, fa_le, fa_eq, zt_0, zt_1, zt_2, zt_3, zt_4, zt_5, zt_6, zt_7, zt_8, zt_9, zt_10, zt_11, zt_12, zt_13, zt_14, zt_15, zt_16, zt_17, zt_18, zt_19, zt_20, zt_21, zt_22, zt_23, zt_24, zt_25, zt_31, zt_40, zt_48, zt_50, zt_57, zt_59, zt_60, zt_97, zt_98, zt_99, zt_100, zt_112, zt_115, zt_119, zt_120, zt_255, zt_999, zt_m1, zt_m2, zt_m3, zt_m4, zt_m9, zt_m10, zt_m100] at *; omega
         simp [h, h0, zb1])
    | (by_cases h : 0 < M 19 k
       · have h0 : ¬ M 19 k ≤ 0 := by simp only [fa_lt, fa_le, fa_eq, zt_0, zt_1, zt_2, zt_3, zt_4, zt_5, zt_6, zt_7, zt_8, zt_9, zt_10, zt_11, zt_12, zt_13, zt_14, zt_15, zt_16, zt_17, zt_18, zt_19, zt_20, zt_21, zt_22, zt_23, zt_24, zt_25, zt_31, zt_40, zt_48, zt_50, zt_57, zt_59, zt_60, zt_97, zt_98, zt_99, zt_100, zt_112, zt_115, zt_119, zt_120, zt_255, zt_999, zt_m1, zt_m2, zt_m3, zt_m4, zt_m9, zt_m10, zt_m100] at *; omega
         simp [h, h0, zb1]
       · have h0 : M 19 k ≤ 0 := by simp only [fa_lt, fa_le, fa_eq, zt_0, zt_1, zt_2, zt_3, zt_4, zt_5, zt_6, zt_7, zt_8, zt_9, zt_10, zt_11, zt_12, zt_13, zt_14, zt_15, zt_16, zt_17, zt_18, zt_19, zt_20, zt_21, zt_22, zt_23, zt_24, zt_25, zt_31, zt_40, zt_48, zt_50, zt_57, zt_59, zt_60, zt_97, zt_98, zt_99, zt_100, zt_112, zt_115, zt_119, zt_120, zt_255, zt_999, zt_m1, zt_m2, zt_m3, zt_m4, zt_m9, zt_m10, zt_m100] at *; omega
         simp [h, h0, zb1])
end LF
