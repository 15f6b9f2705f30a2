section IV
variable {M M' : zM} {h y lw c k t a b o n : Nat} {Q : zR → zM → Prop}
def exM (M : zM) (a b : Nat) : zM := zup (zup M 48 a (M 48 b)) 48 b (M 48 a)
theorem s_exchange (ha : a < 6) (hb : b < 6) (hab : a ≠ b) : zQ 127 0 [.ref 42, .int (nI a), .int (nI b), .null] [] M Q ↔ Q none (exM M a b) := by
  have hc : (nI a).toNatClampNeg = a := nI_clamp (by omega)
  have hz := zin_nI (k := a) (n := 6) ha (by decide)
  have hc2 : (nI b).toNatClampNeg = b := nI_clamp (by omega)
  have hz2 := zin_nI (k := b) (n := 6) hb (by decide)
  simp only [q127_0, q127_1, q127_4, q127_5, q127_6i, q127_6r, q127_6n, q127_7, q127_8, q127_11, q127_12, q127_13, q127_16, q127_17, q127_18, q127_19, q127_20, q127_23, q127_24, q127_25, q127_26, zNC, zcs_0, zcs_i, zcs_r, zcs_l, zpush_0, zpush_i, zpush_l, and_true, true_and, Nat.reduceLT, Nat.reduceLeDiff, Nat.reduceAdd, Nat.reduceMul, reduceIte, ite_true, ite_false, if_true, if_false, not_true_eq_false, not_false_eq_true, false_implies, true_implies, forall_const, implies_true, imp_self, and_self, false_and, and_false, ne_eq, zk_42, zfv_42_0, zf_42_0, zfv_42_1, zf_42_1, zfv_42_2, zf_42_2, zfv_42_3, zfv_42_4, zfv_42_5, zfv_42_6, zfv_42_7, zfv_42_8, zfv_42_9, zf_42_9, zfv_42_10, zf_42_10, zfv_42_11, zf_42_11, zfv_42_12, zfv_42_13, zfv_42_14, zfv_42_15, zfv_42_16, zfv_42_17, zfv_42_18, zf_42_18, zfv_42_19, zf_42_19, zfv_42_20, zfv_42_21, zfv_42_22, zfv_42_23, zf_42_23, zfv_42_24, zfv_42_25, zfv_42_26, zfv_42_27, zfv_42_28, zfv_42_29, zfv_42_30, zfv_42_31, zf_42_31, zk_43, zn_43, zk_44, zn_44, zk_45, zn_45, zk_46, zn_46, zk_47, zn_47, zk_48, zn_48, zk_49, zn_49, zk_50, zn_50, zk_51, zn_51, zk_52, zn_52, zk_53, zn_53, zk_54, zn_54, zk_55, zn_55, zk_56, zn_56, zk_57, zn_57, zk_58, zn_58, zk_59, zn_59, zk_60, zn_60, zk_61, zn_61, zk_62, zn_62, zk_63, zn_63, zk_64, zn_64, hc, hz, hc2, hz2]
  exact Iff.rfl
theorem exM_48 (hab : a ≠ b) (i : Nat) : exM M a b 48 i = if i = b then M 48 a else if i = a then M 48 b else M 48 i := by
  unfold exM
  simp only [zup_app, if_true]
theorem exM_ne (e : Nat) (he : e ≠ 48) : exM M a b e = M e := (zup_ne _ _ _ he).trans (zup_ne _ _ _ he)
theorem exM_exM (hab : a ≠ b) : exM (exM M a b) a b = M := by
  funext e
  by_cases he : e = 48
  · subst he
    funext i
    rw [exM_48 hab, exM_48 hab, exM_48 hab, exM_48 hab]
    by_cases h1 : i = b
    · subst h1; simp [hab]
    · by_cases h2 : i = a
      · subst h2; simp [hab]
      · simp [h1, h2]
  · rw [exM_ne e he, exM_ne e he]
theorem exM_km (H : zKm M h) (ha : a < h) (hb : b < h) (hab : a ≠ b) : zKm (exM M a b) h := by
  intro i hi
  rw [exM_48 hab]
  split
  · exact H a ha
  · split
    · exact H b hb
    · exact H i hi
theorem exM_mk (hab : a ≠ b) (i : Nat) : fmk (exM M a b) i = if i = b then fmk M a else if i = a then fmk M b else fmk M i := by
  unfold fmk
  rw [exM_48 hab]
  split
  · rfl
  · split <;> rfl
theorem mlf_ex (T : JT M h y lw) (ha : a < h) (hb : b < h) (hab : a ≠ b) (hk : k < h) : fmlf (exM M a b) k = fl M 1 k (fmk (exM M a b) k) ∧ 0 ≤ fmr (exM M a b) k := by
  have h6 := T.2.2.2.2.2.2.1
  have hg := (zKm_at (exM_km (JT_km T) ha hb hab) h6 hk).1
  have G := T.2.2.2.2.2.2.2.2.2 k hk
  have G2 := T.2.2.2.2.2.2.2.2.2 _ hg
  have e2 : fmr (exM M a b) k = frate (M 2 k) (M 5 k) (M 6 (fmk (exM M a b) k)) := by
    unfold fmr
    rw [exM_ne 43 (by decide), exM_ne 46 (by decide), exM_ne 47 (by decide), G.1.1, G.1.2.2.2.1, G2.1.2.2.2.2.1]
  refine ⟨?_, ?_⟩
  · unfold fmlf fl
    rw [e2, exM_ne 44 (by decide), G.1.2.1]
    show flife (M 3 k) (fml (exM M a b) k) _ = _
    have e3 : fml (exM M a b) k = fml M k := by unfold fml; rw [exM_ne 42 (by decide)]
    rw [e3, JT_ml T hk]
  · rw [e2]
    obtain ⟨r, hr, e⟩ := JT_rate T hk hg
    rw [e]
    exact nI_pos' (by omega)
def lsm (M : zM) : Nat → Int32
  | 0 => 0
  | n + 1 => lsm M n + fmlf M n
theorem l_lives (hm : M 42 1 = nI h) (h6 : h ≤ 6) (H : zKm M h) (P : ∀ k, k < h → 0 ≤ fmr M k) : ∀ d k, k + d = h → (zQ 125 4 [.ref 42, .int (lsm M k), .int (nI k)] [] M Q ↔ Q (zI (lsm M h)) M) := by
  intro d
  induction d with
  | zero =>
    intro k hk
    obtain rfl : k = h := by omega
    rw [q125_4]
    simp only [q125_0, q125_1i, q125_1r, q125_1n, q125_2, q125_3i, q125_3r, q125_3n, q125_5, q125_6, q125_9, q125_12, q125_13, q125_14, q125_15, q125_18, q125_19i, q125_19r, q125_19n, q125_20i, q125_20r, q125_20n, q125_23, q125_26, q125_27, zNC, zcs_0, zcs_i, zcs_r, zcs_l, zpush_0, zpush_i, zpush_l, and_true, true_and, Nat.reduceLT, Nat.reduceLeDiff, Nat.reduceAdd, Nat.reduceMul, reduceIte, ite_true, ite_false, if_true, if_false, not_true_eq_false, not_false_eq_true, false_implies, true_implies, forall_const, implies_true, imp_self, and_self, false_and, and_false, ne_eq, zk_42, zfv_42_0, zf_42_0, zfv_42_1, zf_42_1, zfv_42_2, zf_42_2, zfv_42_3, zfv_42_4, zfv_42_5, zfv_42_6, zfv_42_7, zfv_42_8, zfv_42_9, zf_42_9, zfv_42_10, zf_42_10, zfv_42_11, zf_42_11, zfv_42_12, zfv_42_13, zfv_42_14, zfv_42_15, zfv_42_16, zfv_42_17, zfv_42_18, zf_42_18, zfv_42_19, zf_42_19, zfv_42_20, zfv_42_21, zfv_42_22, zfv_42_23, zf_42_23, zfv_42_24, zfv_42_25, zfv_42_26, zfv_42_27, zfv_42_28, zfv_42_29, zfv_42_30, zfv_42_31, zf_42_31, zk_43, zn_43, zk_44, zn_44, zk_45, zn_45, zk_46, zn_46, zk_47, zn_47, zk_48, zn_48, zk_49, zn_49, zk_50, zn_50, zk_51, zn_51, zk_52, zn_52, zk_53, zn_53, zk_54, zn_54, zk_55, zn_55, zk_56, zn_56, zk_57, zn_57, zk_58, zn_58, zk_59, zn_59, zk_60, zn_60, zk_61, zn_61, zk_62, zn_62, zk_63, zn_63, zk_64, zn_64, hm, i_le_refl]
  | succ d ih =>
    intro k hk
    have h1 : ¬ nI h ≤ nI k := nI_ge (by omega) (by omega)
    obtain ⟨k1, k2⟩ := zKm_at H h6 (show k < h by omega)
    have e2 : ∀ Q' : zR → zM → Prop, _ := fun Q' => s_mLife (M := M) (Q := Q') (show k < 6 by omega) (show fmk M k < 6 by omega) k2 (P k (by omega))
    have ih' := ih (k + 1) (by omega)
    rw [q125_4, ← ih']
    simp only [q125_0, q125_1i, q125_1r, q125_1n, q125_2, q125_3i, q125_3r, q125_3n, q125_5, q125_6, q125_9, q125_12, q125_13, q125_14, q125_15, q125_18, q125_19i, q125_19r, q125_19n, q125_20i, q125_20r, q125_20n, q125_23, q125_26, q125_27, zNC, zcs_0, zcs_i, zcs_r, zcs_l, zpush_0, zpush_i, zpush_l, and_true, true_and, Nat.reduceLT, Nat.reduceLeDiff, Nat.reduceAdd, Nat.reduceMul, reduceIte, ite_true, ite_false, if_true, if_false, not_true_eq_false, not_false_eq_true, false_implies, true_implies, forall_const, implies_true, imp_self, and_self, false_and, and_false, ne_eq, zk_42, zfv_42_0, zf_42_0, zfv_42_1, zf_42_1, zfv_42_2, zf_42_2, zfv_42_3, zfv_42_4, zfv_42_5, zfv_42_6, zfv_42_7, zfv_42_8, zfv_42_9, zf_42_9, zfv_42_10, zf_42_10, zfv_42_11, zf_42_11, zfv_42_12, zfv_42_13, zfv_42_14, zfv_42_15, zfv_42_16, zfv_42_17, zfv_42_18, zf_42_18, zfv_42_19, zf_42_19, zfv_42_20, zfv_42_21, zfv_42_22, zfv_42_23, zf_42_23, zfv_42_24, zfv_42_25, zfv_42_26, zfv_42_27, zfv_42_28, zfv_42_29, zfv_42_30, zfv_42_31, zf_42_31, zk_43, zn_43, zk_44, zn_44, zk_45, zn_45, zk_46, zn_46, zk_47, zn_47, zk_48, zn_48, zk_49, zn_49, zk_50, zn_50, zk_51, zn_51, zk_52, zn_52, zk_53, zn_53, zk_54, zn_54, zk_55, zn_55, zk_56, zn_56, zk_57, zn_57, zk_58, zn_58, zk_59, zn_59, zk_60, zn_60, zk_61, zn_61, zk_62, zn_62, zk_63, zn_63, zk_64, zn_64, hm, h1, e2, lsm, nI_1]
theorem s_lives (hm : M 42 1 = nI h) (h6 : h ≤ 6) (H : zKm M h) (P : ∀ k, k < h → 0 ≤ fmr M k) : zQ 125 0 [.ref 42, .null, .null] [] M Q ↔ Q (zI (lsm M h)) M := by
  have e := l_lives (Q := Q) hm h6 H P h 0 (by omega)
  simp only [lsm, nI_0] at e
  rw [← e]
  simp only [q125_0, q125_1i, q125_1r, q125_1n, q125_2, q125_3i, q125_3r, q125_3n, q125_5, q125_6, q125_9, q125_12, q125_13, q125_14, q125_15, q125_18, q125_19i, q125_19r, q125_19n, q125_20i, q125_20r, q125_20n, q125_23, q125_26, q125_27]
theorem lsm_ex (T : JT M h y lw) (ha : a < h) (hb : b < h) (hab : a ≠ b) : ∀ n, n ≤ h → lsm (exM M a b) n - lsm M n = (if a < n then fl M 1 a (fkp M 1 b) - fl M 1 a (fkp M 1 a) else 0) + (if b < n then fl M 1 b (fkp M 1 a) - fl M 1 b (fkp M 1 b) else 0) := by
  intro n
  induction n with
  | zero => intro _; simp [lsm]
  | succ n ih =>
    intro hn
    have ih' := ih (by omega)
    simp only [lsm]
    rw [(mlf_ex T ha hb hab (show n < h by omega)).1, JT_mlf T (show n < h by omega), exM_mk hab]
    by_cases h1 : n = b
    · subst h1
      rw [if_pos rfl, JT_mk T ha]
      rw [if_neg (show ¬ n < n by omega)] at ih'
      rw [if_pos (show n < n + 1 by omega)]
      by_cases h2 : a < n
      · rw [if_pos h2] at ih'
        rw [if_pos (show a < n + 1 by omega)]
        grind
      · rw [if_neg h2] at ih'
        rw [if_neg (show ¬ a < n + 1 by omega)]
        grind
    · rw [if_neg h1]
      by_cases h2 : n = a
      · subst h2
        rw [if_pos rfl, JT_mk T hb]
        rw [if_neg (show ¬ n < n by omega)] at ih'
        rw [if_pos (show n < n + 1 by omega)]
        by_cases h3 : b < n
        · rw [if_pos h3] at ih'
          rw [if_pos (show b < n + 1 by omega)]
          grind
        · rw [if_neg h3] at ih'
          rw [if_neg (show ¬ b < n + 1 by omega)]
          grind
      · rw [if_neg h2, JT_mk T (show n < h by omega)]
        have e1 : (a < n + 1) = (a < n) := by simp; omega
        have e2 : (b < n + 1) = (b < n) := by simp; omega
        simp only [e1, e2]
        grind
theorem gain_eq (T : JT M h y lw) (ha : a < h) (hb : b < h) (hab : a ≠ b) : lsm (exM M a b) h - lsm M h = fgain M 1 a b := by
  rw [lsm_ex T ha hb hab h (Nat.le_refl _), if_pos ha, if_pos hb]
  unfold fgain
  grind
end IV
