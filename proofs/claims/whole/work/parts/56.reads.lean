-- SEE: the reference reads a whole text
section IV
variable {M M' N N' : zM} {h y lw c k t a b o n r p m j i : Nat} {Q : zR → zM → Prop} {x : Int32} {G : Nat → Int32}
def RV (N : zM) (G : Nat → Int32) (k : Nat) : Prop := N 49 k = fknd (G (3 + 7 * k)) ∧ N 50 k = 10 * fdig (G (4 + 7 * k)) + fdig (G (5 + 7 * k)) ∧ N 51 k = fdig (G (6 + 7 * k)) ∧ N 52 k = fdig (G (7 + 7 * k)) ∧ N 53 k = fdig (G (8 + 7 * k))
theorem s_readsHouse (hab : a + b ≤ 240) (hk : k < h) (h6 : h ≤ 6) (hH : M 42 11 = nI h) (eh : fdig (fcA M a b 1) = nI h) (hj : j ≤ 7) (hok : ∀ i, i < j → okj (fcA M a b) k i) (hno : j < 7 → ¬ okj (fcA M a b) k j) : ∃ N, RHp M N k (2 + 7 * k + j) ∧ (j = 7 → RV N (fcA M a b) k) ∧ ∀ Q : zR → zM → Prop, zQ 95 0 [.ref 42, .int (nI a), .int (nI b), .int (nI k), .null, .null, .null, .null, .null, .null] [] (zup M 42 10 (nI (2 + 7 * k))) Q ↔ Q (zI (if j = 7 then 1 else 0)) N := by
  by_cases j0 : j = 0
  · subst j0
    exact ⟨_, RHp_0, fun e => absurd e (by decide), fun Q => rh_0 hab hk h6 hH (hno (by decide))⟩
  have g0 : fcA M a b (2 + 7 * k) = 59 := hok 0 (by omega)
  by_cases j1 : j = 1
  · subst j1
    exact ⟨_, by rw [show 2 + 7 * k + 1 = 3 + 7 * k by omega]; exact RHp_0, fun e => absurd e (by decide), fun Q => rh_1 hab hk h6 hH g0 (mt oj_1.mpr (hno (by decide)))⟩
  have g1 := oj_1.mp (hok 1 (by omega))
  by_cases j2 : j = 2
  · subst j2
    exact ⟨_, by rw [show 2 + 7 * k + 2 = 4 + 7 * k by omega]; exact RHp_1, fun e => absurd e (by decide), fun Q => rh_2 hab hk h6 hH g0 g1 (mt oj_2.mpr (hno (by decide)))⟩
  have g2 := oj_2.mp (hok 2 (by omega))
  have o3 := oj_3 (G := fcA M a b) g2
  have o6 := oj_6 (G := fcA M a b) (k := k) eh (by omega) h6
  by_cases hz : fcA M a b (4 + 7 * k) - 48 = 0
  · rw [if_pos hz] at o3
    by_cases j3 : j = 3
    · subst j3
      exact ⟨_, by rw [show 2 + 7 * k + 3 = 5 + 7 * k by omega]; exact RHp_1, fun e => absurd e (by decide), fun Q => rh_3z hab hk h6 hH g0 g1 hz g2 (mt o3.mpr (hno (by decide)))⟩
    have g3 := o3.mp (hok 3 (by omega))
    by_cases j4 : j = 4
    · subst j4
      exact ⟨_, by rw [show 2 + 7 * k + 4 = 6 + 7 * k by omega]; exact RHp_1, fun e => absurd e (by decide), fun Q => rh_4z hab hk h6 hH g0 g1 hz g2 g3 (mt oj_4.mpr (hno (by decide)))⟩
    have g4 := oj_4.mp (hok 4 (by omega))
    by_cases j5 : j = 5
    · subst j5
      exact ⟨_, by rw [show 2 + 7 * k + 5 = 7 + 7 * k by omega]; exact RHp_1, fun e => absurd e (by decide), fun Q => rh_5z hab hk h6 hH g0 g1 hz g2 g3 g4 (mt oj_5.mpr (hno (by decide)))⟩
    have g5 := oj_5.mp (hok 5 (by omega))
    by_cases j6 : j = 6
    · subst j6
      exact ⟨_, by rw [show 2 + 7 * k + 6 = 8 + 7 * k by omega]; exact RHp_1, fun e => absurd e (by decide), fun Q => rh_6z hab hk h6 hH g0 g1 hz g2 g3 g4 g5 (mt o6.mpr (hno (by decide)))⟩
    have g6 := o6.mp (hok 6 (by omega))
    obtain rfl : j = 7 := by omega
    refine ⟨_, by rw [show 2 + 7 * k + 7 = 9 + 7 * k by omega]; exact RHp_1, fun _ => ?_, fun Q => rh_7z hab hk h6 hH g0 g1 hz g2 g3 g4 g5 g6⟩
    obtain ⟨e1, e2, e3, e4, e5⟩ := @RH_v M k (9 + 7 * k) (if fcA M a b (3 + 7 * k) = 112 then 0 else if fcA M a b (3 + 7 * k) = 119 then 1 else 2) (10 * (fcA M a b (4 + 7 * k) - 48) + (fcA M a b (5 + 7 * k) - 48)) (fcA M a b (6 + 7 * k) - 48) (fcA M a b (7 + 7 * k) - 48) (fcA M a b (8 + 7 * k) - 48)
    refine ⟨e1.trans ?_, e2.trans ?_, e3.trans ?_, e4.trans ?_, e5.trans ?_⟩
    · rcases g1 with e | e | e <;> rw [e] <;> decide
    · rw [fdig_v g2, fdig_v ⟨i_trans (by decide) g3.1, g3.2⟩]
    · rw [fdig_v g4]
    · rw [fdig_v ⟨g5.1, i_trans g5.2 (by decide)⟩]
    · rw [fdig_v (fdig_0.mp (o6.mpr g6).1)]
  · rw [if_neg hz] at o3
    by_cases j3 : j = 3
    · subst j3
      exact ⟨_, by rw [show 2 + 7 * k + 3 = 5 + 7 * k by omega]; exact RHp_1, fun e => absurd e (by decide), fun Q => rh_3n hab hk h6 hH g0 g1 hz g2 (mt o3.mpr (hno (by decide)))⟩
    have g3 := o3.mp (hok 3 (by omega))
    by_cases j4 : j = 4
    · subst j4
      exact ⟨_, by rw [show 2 + 7 * k + 4 = 6 + 7 * k by omega]; exact RHp_1, fun e => absurd e (by decide), fun Q => rh_4n hab hk h6 hH g0 g1 hz g2 g3 (mt oj_4.mpr (hno (by decide)))⟩
    have g4 := oj_4.mp (hok 4 (by omega))
    by_cases j5 : j = 5
    · subst j5
      exact ⟨_, by rw [show 2 + 7 * k + 5 = 7 + 7 * k by omega]; exact RHp_1, fun e => absurd e (by decide), fun Q => rh_5n hab hk h6 hH g0 g1 hz g2 g3 g4 (mt oj_5.mpr (hno (by decide)))⟩
    have g5 := oj_5.mp (hok 5 (by omega))
    by_cases j6 : j = 6
    · subst j6
      exact ⟨_, by rw [show 2 + 7 * k + 6 = 8 + 7 * k by omega]; exact RHp_1, fun e => absurd e (by decide), fun Q => rh_6n hab hk h6 hH g0 g1 hz g2 g3 g4 g5 (mt o6.mpr (hno (by decide)))⟩
    have g6 := o6.mp (hok 6 (by omega))
    obtain rfl : j = 7 := by omega
    refine ⟨_, by rw [show 2 + 7 * k + 7 = 9 + 7 * k by omega]; exact RHp_1, fun _ => ?_, fun Q => rh_7n hab hk h6 hH g0 g1 hz g2 g3 g4 g5 g6⟩
    obtain ⟨e1, e2, e3, e4, e5⟩ := @RH_v M k (9 + 7 * k) (if fcA M a b (3 + 7 * k) = 112 then 0 else if fcA M a b (3 + 7 * k) = 119 then 1 else 2) (10 * (fcA M a b (4 + 7 * k) - 48) + (fcA M a b (5 + 7 * k) - 48)) (fcA M a b (6 + 7 * k) - 48) (fcA M a b (7 + 7 * k) - 48) (fcA M a b (8 + 7 * k) - 48)
    refine ⟨e1.trans ?_, e2.trans ?_, e3.trans ?_, e4.trans ?_, e5.trans ?_⟩
    · rcases g1 with e | e | e <;> rw [e] <;> decide
    · rw [fdig_v g2, fdig_v ⟨i_trans (by decide) g3.1, g3.2⟩]
    · rw [fdig_v g4]
    · rw [fdig_v ⟨g5.1, i_trans g5.2 (by decide)⟩]
    · rw [fdig_v (fdig_0.mp (o6.mpr g6).1)]
theorem okc_j (hi : i < 7) : okc G (2 + 7 * k + i) ↔ nI k < fdig (G 1) ∧ okj G k i := by
  unfold okc
  rw [if_neg (by omega), if_neg (by omega), show (2 + 7 * k + i - 2) / 7 = k by omega, show (2 + 7 * k + i - 2) % 7 = i by omega]
theorem no_b (hp : b ≤ p) : ¬ okc (fcA M a b) p := by
  have e9 : ∀ q, q = p → fcA M a b q = -9 := fun q hq => by unfold fcA; rw [if_neg (by omega)]
  intro hc
  by_cases p0 : p = 0
  · subst p0
    have : fcA M a b 0 = 115 := hc
    rw [e9 0 rfl] at this
    exact absurd this (by decide)
  by_cases p1 : p = 1
  · subst p1
    have : 2 ≤ fdig (fcA M a b 1) ∧ fdig (fcA M a b 1) ≤ 6 := hc
    rw [e9 1 rfl] at this
    exact absurd this (by decide)
  obtain ⟨k, i, hi, e⟩ : ∃ k i, i < 7 ∧ p = 2 + 7 * k + i := ⟨(p - 2) / 7, (p - 2) % 7, by omega, by omega⟩
  rw [e] at hc
  have h2 := ((okc_j hi).mp hc).2
  have hj : i = 0 ∨ i = 1 ∨ i = 2 ∨ i = 3 ∨ i = 4 ∨ i = 5 ∨ i = 6 := by omega
  rcases hj with rfl | rfl | rfl | rfl | rfl | rfl | rfl
  · have : fcA M a b (2 + 7 * k) = 59 := h2
    rw [e9 _ (by omega)] at this
    exact absurd this (by decide)
  · have : 0 ≤ fknd (fcA M a b (3 + 7 * k)) := h2
    rw [e9 _ (by omega)] at this
    exact absurd this (by decide)
  · have : 0 ≤ fdig (fcA M a b (4 + 7 * k)) := h2
    rw [e9 _ (by omega)] at this
    exact absurd this (by decide)
  · have : 0 ≤ fdig (fcA M a b (5 + 7 * k)) := h2.1
    rw [e9 _ (by omega)] at this
    exact absurd this (by decide)
  · have : 0 ≤ fdig (fcA M a b (6 + 7 * k)) := h2
    rw [e9 _ (by omega)] at this
    exact absurd this (by decide)
  · have : 0 ≤ fdig (fcA M a b (7 + 7 * k)) := h2.1
    rw [e9 _ (by omega)] at this
    exact absurd this (by decide)
  · have : 0 ≤ fdig (fcA M a b (8 + 7 * k)) := h2.1
    rw [e9 _ (by omega)] at this
    exact absurd this (by decide)
theorem ex_m : ∃ m, m ≤ b ∧ (∀ p, p < m → okc (fcA M a b) p) ∧ ¬ okc (fcA M a b) m := by
  have key : ∀ n, (∃ m, m ≤ n ∧ (∀ p, p < m → okc (fcA M a b) p) ∧ ¬ okc (fcA M a b) m) ∨ (∀ p, p ≤ n → okc (fcA M a b) p) := by
    intro n
    induction n with
    | zero =>
      by_cases h0 : okc (fcA M a b) 0
      · exact Or.inr (fun p hp => by rw [show p = 0 by omega]; exact h0)
      · exact Or.inl ⟨0, Nat.le_refl _, fun p hp => absurd hp (Nat.not_lt_zero _), h0⟩
    | succ n ih =>
      rcases ih with ⟨m, h1, h2, h3⟩ | h1
      · exact Or.inl ⟨m, by omega, h2, h3⟩
      · by_cases h0 : okc (fcA M a b) (n + 1)
        · exact Or.inr (fun p hp => by
            by_cases e : p = n + 1
            · rw [e]; exact h0
            · exact h1 p (by omega))
        · exact Or.inl ⟨n + 1, Nat.le_refl _, fun p hp => h1 p (by omega), h0⟩
  rcases key b with h1 | h1
  · exact h1
  · exact absurd (h1 b (Nat.le_refl b)) (no_b (Nat.le_refl b))
end IV
section IV
variable {M M' N N' : zM} {h y lw c k t a b o n r p m j i : Nat} {Q : zR → zM → Prop} {x : Int32} {G : Nat → Int32}
def RS (M N : zM) (r : Nat) : Prop := (∀ a, (a < 49 ∨ 53 < a) → a ≠ 42 → N a = M a) ∧ (∀ i, i ≠ 10 → i ≠ 11 → N 42 i = M 42 i) ∧ N 42 10 = nI r
theorem l_readsSee (hab : a + b ≤ 240) (h60 : b ≤ 60) (h2 : 2 ≤ h) (h6 : h ≤ 6) (eh : fdig (fcA M a b 1) = nI h) (hok : ∀ p, p < m → okc (fcA M a b) p) (hno : ¬ okc (fcA M a b) m) (hQ : ∀ N : zM, RS M N m → (m = 2 + 7 * h → N 42 11 = nI h ∧ ∀ k, k < h → RV N (fcA M a b) k) → Q (zI (zbp (m = 2 + 7 * h ∧ b = 2 + 7 * h))) N) : ∀ d k (N : zM), k + d = h → 2 + 7 * k ≤ m → RS M N (2 + 7 * k) → N 42 11 = nI h → (∀ k', k' < k → RV N (fcA M a b) k') → zQ 96 58 [.ref 42, .int (nI a), .int (nI b), .int 1, .int (nI k)] [] N Q := by
  intro d
  induction d with
  | zero =>
    intro k N hk hm hS h11 hV
    obtain rfl : k = h := by omega
    have em : m = 2 + 7 * k := by
      by_cases e : m = 2 + 7 * k
      · exact e
      · have := (okc_j (k := k) (i := 0) (by decide)).mp (hok (2 + 7 * k) (by omega))
        rw [eh] at this
        have := (nI_ltI (by omega) (by omega)).mp this.1
        omega
    subst em
    have hq := hQ N hS (fun _ => ⟨h11, hV⟩)
    have h10 : N 42 10 = nI (2 + 7 * k) := hS.2.2
    have n10 : ¬ (1 : Int32) = 0 := by decide
    rw [q96_58]
    by_cases eb : b = 2 + 7 * k
    · rw [zbp_t ⟨rfl, eb⟩] at hq
      simp only [q96_0, q96_1, q96_2, q96_5, q96_6, q96_7, q96_8, q96_11, q96_13, q96_16, q96_17, q96_18, q96_19, q96_20, q96_23, q96_24, q96_25, q96_28, q96_29, q96_30, q96_31, q96_32, q96_33, q96_34, q96_36, q96_39, q96_42, q96_43, q96_46, q96_49, q96_50, q96_53, q96_54i, q96_54r, q96_54n, q96_55, q96_56i, q96_56r, q96_56n, q96_60, q96_61, q96_64, q96_67, q96_68, q96_71, q96_72, q96_73, q96_74, q96_76, q96_79i, q96_79r, q96_79n, q96_80i, q96_80r, q96_80n, q96_83, q96_86, q96_87, q96_90, q96_91, q96_94, q96_95, q96_98, q96_99, q96_102, q96_103, zNC, zcs_0, zcs_i, zcs_r, zcs_l, zpush_0, zpush_i, zpush_l, and_true, true_and, Nat.reduceLT, Nat.reduceLeDiff, Nat.reduceAdd, Nat.reduceMul, reduceIte, ite_true, ite_false, if_true, if_false, not_true_eq_false, not_false_eq_true, false_implies, true_implies, forall_const, implies_true, imp_self, and_self, false_and, and_false, ne_eq, zk_42, zfv_42_0, zf_42_0, zfv_42_1, zf_42_1, zfv_42_2, zf_42_2, zfv_42_3, zfv_42_4, zfv_42_5, zfv_42_6, zfv_42_7, zfv_42_8, zfv_42_9, zf_42_9, zfv_42_10, zf_42_10, zfv_42_11, zf_42_11, zfv_42_12, zfv_42_13, zfv_42_14, zfv_42_15, zfv_42_16, zfv_42_17, zfv_42_18, zf_42_18, zfv_42_19, zf_42_19, zfv_42_20, zfv_42_21, zfv_42_22, zfv_42_23, zf_42_23, zfv_42_24, zfv_42_25, zfv_42_26, zfv_42_27, zfv_42_28, zfv_42_29, zfv_42_30, zfv_42_31, zf_42_31, zk_43, zn_43, zk_44, zn_44, zk_45, zn_45, zk_46, zn_46, zk_47, zn_47, zk_48, zn_48, zk_49, zn_49, zk_50, zn_50, zk_51, zn_51, zk_52, zn_52, zk_53, zn_53, zk_54, zn_54, zk_55, zn_55, zk_56, zn_56, zk_57, zn_57, zk_58, zn_58, zk_59, zn_59, zk_60, zn_60, zk_61, zn_61, zk_62, zn_62, zk_63, zn_63, zk_64, zn_64, h11, i_le_refl, n10, h10, eb]
      try simp
      exact hq
    · rw [zbp_f (fun e => eb e.2)] at hq
      have e5 : ¬ nI (2 + 7 * k) = nI b := fun e => eb ((nI_eq (by omega) (by omega)).mp e).symm
      simp only [q96_0, q96_1, q96_2, q96_5, q96_6, q96_7, q96_8, q96_11, q96_13, q96_16, q96_17, q96_18, q96_19, q96_20, q96_23, q96_24, q96_25, q96_28, q96_29, q96_30, q96_31, q96_32, q96_33, q96_34, q96_36, q96_39, q96_42, q96_43, q96_46, q96_49, q96_50, q96_53, q96_54i, q96_54r, q96_54n, q96_55, q96_56i, q96_56r, q96_56n, q96_60, q96_61, q96_64, q96_67, q96_68, q96_71, q96_72, q96_73, q96_74, q96_76, q96_79i, q96_79r, q96_79n, q96_80i, q96_80r, q96_80n, q96_83, q96_86, q96_87, q96_90, q96_91, q96_94, q96_95, q96_98, q96_99, q96_102, q96_103, zNC, zcs_0, zcs_i, zcs_r, zcs_l, zpush_0, zpush_i, zpush_l, and_true, true_and, Nat.reduceLT, Nat.reduceLeDiff, Nat.reduceAdd, Nat.reduceMul, reduceIte, ite_true, ite_false, if_true, if_false, not_true_eq_false, not_false_eq_true, false_implies, true_implies, forall_const, implies_true, imp_self, and_self, false_and, and_false, ne_eq, zk_42, zfv_42_0, zf_42_0, zfv_42_1, zf_42_1, zfv_42_2, zf_42_2, zfv_42_3, zfv_42_4, zfv_42_5, zfv_42_6, zfv_42_7, zfv_42_8, zfv_42_9, zf_42_9, zfv_42_10, zf_42_10, zfv_42_11, zf_42_11, zfv_42_12, zfv_42_13, zfv_42_14, zfv_42_15, zfv_42_16, zfv_42_17, zfv_42_18, zf_42_18, zfv_42_19, zf_42_19, zfv_42_20, zfv_42_21, zfv_42_22, zfv_42_23, zf_42_23, zfv_42_24, zfv_42_25, zfv_42_26, zfv_42_27, zfv_42_28, zfv_42_29, zfv_42_30, zfv_42_31, zf_42_31, zk_43, zn_43, zk_44, zn_44, zk_45, zn_45, zk_46, zn_46, zk_47, zn_47, zk_48, zn_48, zk_49, zn_49, zk_50, zn_50, zk_51, zn_51, zk_52, zn_52, zk_53, zn_53, zk_54, zn_54, zk_55, zn_55, zk_56, zn_56, zk_57, zn_57, zk_58, zn_58, zk_59, zn_59, zk_60, zn_60, zk_61, zn_61, zk_62, zn_62, zk_63, zn_63, zk_64, zn_64, h11, i_le_refl, n10, h10, e5]
      try simp
      exact hq
  | succ d ih =>
    intro k N hk hm hS h11 hV
    have h1 : ¬ nI h ≤ nI k := nI_ge (by omega) (by omega)
    have n10 : ¬ (1 : Int32) = 0 := by decide
    have eG : fcA N a b = fcA M a b := by
      funext r
      unfold fcA
      rw [hS.1 63 (by omega) (by omega)]
    have hz : zup N 42 10 (nI (2 + 7 * k)) = N := by rw [← hS.2.2]; exact zup_id N 42 10
    by_cases hj : 2 + 7 * (k + 1) ≤ m
    · obtain ⟨N', r1, r2, r3⟩ := s_readsHouse (M := N) (j := 7) hab (show k < h by omega) h6 h11 (by rw [eG]; exact eh) (Nat.le_refl 7) (fun i hi => by rw [eG]; exact ((okc_j hi).mp (hok (2 + 7 * k + i) (by omega))).2) (fun e => absurd e (by decide))
      rw [hz, eG] at *
      have e3 : ∀ Q' : zR → zM → Prop, _ := fun Q' => r3 Q'
      rw [if_pos rfl] at e3
      have ih' := ih (k + 1) N' (by omega) hj ⟨fun a ha h42 => (r1.1 a ha h42).trans (hS.1 a ha h42), fun i h10 h11 => (r1.2.1 i h10).trans (hS.2.1 i h10 h11), by rw [show 2 + 7 * (k + 1) = 2 + 7 * k + 7 by omega]; exact r1.2.2.1⟩ ((r1.2.1 11 (by decide)).trans h11) (fun k' hk' => by
        by_cases ek : k' = k
        · rw [ek]; exact r2 rfl
        · obtain ⟨v1, v2, v3, v4, v5⟩ := hV k' (by omega)
          obtain ⟨u1, u2, u3, u4, u5⟩ := r1.2.2.2 k' ek
          exact ⟨u1.trans v1, u2.trans v2, u3.trans v3, u4.trans v4, u5.trans v5⟩)
      rw [q96_58]
      simp only [q96_0, q96_1, q96_2, q96_5, q96_6, q96_7, q96_8, q96_11, q96_13, q96_16, q96_17, q96_18, q96_19, q96_20, q96_23, q96_24, q96_25, q96_28, q96_29, q96_30, q96_31, q96_32, q96_33, q96_34, q96_36, q96_39, q96_42, q96_43, q96_46, q96_49, q96_50, q96_53, q96_54i, q96_54r, q96_54n, q96_55, q96_56i, q96_56r, q96_56n, q96_60, q96_61, q96_64, q96_67, q96_68, q96_71, q96_72, q96_73, q96_74, q96_76, q96_79i, q96_79r, q96_79n, q96_80i, q96_80r, q96_80n, q96_83, q96_86, q96_87, q96_90, q96_91, q96_94, q96_95, q96_98, q96_99, q96_102, q96_103, zNC, zcs_0, zcs_i, zcs_r, zcs_l, zpush_0, zpush_i, zpush_l, and_true, true_and, Nat.reduceLT, Nat.reduceLeDiff, Nat.reduceAdd, Nat.reduceMul, reduceIte, ite_true, ite_false, if_true, if_false, not_true_eq_false, not_false_eq_true, false_implies, true_implies, forall_const, implies_true, imp_self, and_self, false_and, and_false, ne_eq, zk_42, zfv_42_0, zf_42_0, zfv_42_1, zf_42_1, zfv_42_2, zf_42_2, zfv_42_3, zfv_42_4, zfv_42_5, zfv_42_6, zfv_42_7, zfv_42_8, zfv_42_9, zf_42_9, zfv_42_10, zf_42_10, zfv_42_11, zf_42_11, zfv_42_12, zfv_42_13, zfv_42_14, zfv_42_15, zfv_42_16, zfv_42_17, zfv_42_18, zf_42_18, zfv_42_19, zf_42_19, zfv_42_20, zfv_42_21, zfv_42_22, zfv_42_23, zf_42_23, zfv_42_24, zfv_42_25, zfv_42_26, zfv_42_27, zfv_42_28, zfv_42_29, zfv_42_30, zfv_42_31, zf_42_31, zk_43, zn_43, zk_44, zn_44, zk_45, zn_45, zk_46, zn_46, zk_47, zn_47, zk_48, zn_48, zk_49, zn_49, zk_50, zn_50, zk_51, zn_51, zk_52, zn_52, zk_53, zn_53, zk_54, zn_54, zk_55, zn_55, zk_56, zn_56, zk_57, zn_57, zk_58, zn_58, zk_59, zn_59, zk_60, zn_60, zk_61, zn_61, zk_62, zn_62, zk_63, zn_63, zk_64, zn_64, h11, h1, n10, e3, nI_1]
      exact ih'
    · obtain ⟨N', r1, -, r3⟩ := s_readsHouse (M := N) (j := m - (2 + 7 * k)) hab (show k < h by omega) h6 h11 (by rw [eG]; exact eh) (by omega) (fun i hi => by rw [eG]; exact ((okc_j (by omega)).mp (hok (2 + 7 * k + i) (by omega))).2) (fun hj7 => by
        rw [eG]
        intro e
        refine hno ?_
        have := (okc_j (G := fcA M a b) (k := k) hj7).mpr ⟨by rw [eh]; exact nI_lt (by omega) (by omega), e⟩
        rw [show 2 + 7 * k + (m - (2 + 7 * k)) = m by omega] at this
        exact this)
      rw [hz] at r3
      have e3 : ∀ Q' : zR → zM → Prop, _ := fun Q' => r3 Q'
      rw [if_neg (by omega)] at e3
      rw [show 2 + 7 * k + (m - (2 + 7 * k)) = m by omega] at r1
      have hq := hQ N' ⟨fun a ha h42 => (r1.1 a ha h42).trans (hS.1 a ha h42), fun i h10 h11 => (r1.2.1 i h10).trans (hS.2.1 i h10 h11), r1.2.2.1⟩ (fun e => by omega)
      rw [zbp_f (fun e => by omega)] at hq
      rw [q96_58]
      simp only [q96_0, q96_1, q96_2, q96_5, q96_6, q96_7, q96_8, q96_11, q96_13, q96_16, q96_17, q96_18, q96_19, q96_20, q96_23, q96_24, q96_25, q96_28, q96_29, q96_30, q96_31, q96_32, q96_33, q96_34, q96_36, q96_39, q96_42, q96_43, q96_46, q96_49, q96_50, q96_53, q96_54i, q96_54r, q96_54n, q96_55, q96_56i, q96_56r, q96_56n, q96_60, q96_61, q96_64, q96_67, q96_68, q96_71, q96_72, q96_73, q96_74, q96_76, q96_79i, q96_79r, q96_79n, q96_80i, q96_80r, q96_80n, q96_83, q96_86, q96_87, q96_90, q96_91, q96_94, q96_95, q96_98, q96_99, q96_102, q96_103, zNC, zcs_0, zcs_i, zcs_r, zcs_l, zpush_0, zpush_i, zpush_l, and_true, true_and, Nat.reduceLT, Nat.reduceLeDiff, Nat.reduceAdd, Nat.reduceMul, reduceIte, ite_true, ite_false, if_true, if_false, not_true_eq_false, not_false_eq_true, false_implies, true_implies, forall_const, implies_true, imp_self, and_self, false_and, and_false, ne_eq, zk_42, zfv_42_0, zf_42_0, zfv_42_1, zf_42_1, zfv_42_2, zf_42_2, zfv_42_3, zfv_42_4, zfv_42_5, zfv_42_6, zfv_42_7, zfv_42_8, zfv_42_9, zf_42_9, zfv_42_10, zf_42_10, zfv_42_11, zf_42_11, zfv_42_12, zfv_42_13, zfv_42_14, zfv_42_15, zfv_42_16, zfv_42_17, zfv_42_18, zf_42_18, zfv_42_19, zf_42_19, zfv_42_20, zfv_42_21, zfv_42_22, zfv_42_23, zf_42_23, zfv_42_24, zfv_42_25, zfv_42_26, zfv_42_27, zfv_42_28, zfv_42_29, zfv_42_30, zfv_42_31, zf_42_31, zk_43, zn_43, zk_44, zn_44, zk_45, zn_45, zk_46, zn_46, zk_47, zn_47, zk_48, zn_48, zk_49, zn_49, zk_50, zn_50, zk_51, zn_51, zk_52, zn_52, zk_53, zn_53, zk_54, zn_54, zk_55, zn_55, zk_56, zn_56, zk_57, zn_57, zk_58, zn_58, zk_59, zn_59, zk_60, zn_60, zk_61, zn_61, zk_62, zn_62, zk_63, zn_63, zk_64, zn_64, h11, h1, n10, e3, nI_1]
      rw [q96_58]
      by_cases h8 : nI h ≤ nI (k + 1)
      · have h11' : N' 42 11 = nI h := (r1.2.1 11 (by decide)).trans h11
        simp only [q96_0, q96_1, q96_2, q96_5, q96_6, q96_7, q96_8, q96_11, q96_13, q96_16, q96_17, q96_18, q96_19, q96_20, q96_23, q96_24, q96_25, q96_28, q96_29, q96_30, q96_31, q96_32, q96_33, q96_34, q96_36, q96_39, q96_42, q96_43, q96_46, q96_49, q96_50, q96_53, q96_54i, q96_54r, q96_54n, q96_55, q96_56i, q96_56r, q96_56n, q96_60, q96_61, q96_64, q96_67, q96_68, q96_71, q96_72, q96_73, q96_74, q96_76, q96_79i, q96_79r, q96_79n, q96_80i, q96_80r, q96_80n, q96_83, q96_86, q96_87, q96_90, q96_91, q96_94, q96_95, q96_98, q96_99, q96_102, q96_103, zNC, zcs_0, zcs_i, zcs_r, zcs_l, zpush_0, zpush_i, zpush_l, and_true, true_and, Nat.reduceLT, Nat.reduceLeDiff, Nat.reduceAdd, Nat.reduceMul, reduceIte, ite_true, ite_false, if_true, if_false, not_true_eq_false, not_false_eq_true, false_implies, true_implies, forall_const, implies_true, imp_self, and_self, false_and, and_false, ne_eq, zk_42, zfv_42_0, zf_42_0, zfv_42_1, zf_42_1, zfv_42_2, zf_42_2, zfv_42_3, zfv_42_4, zfv_42_5, zfv_42_6, zfv_42_7, zfv_42_8, zfv_42_9, zf_42_9, zfv_42_10, zf_42_10, zfv_42_11, zf_42_11, zfv_42_12, zfv_42_13, zfv_42_14, zfv_42_15, zfv_42_16, zfv_42_17, zfv_42_18, zf_42_18, zfv_42_19, zf_42_19, zfv_42_20, zfv_42_21, zfv_42_22, zfv_42_23, zf_42_23, zfv_42_24, zfv_42_25, zfv_42_26, zfv_42_27, zfv_42_28, zfv_42_29, zfv_42_30, zfv_42_31, zf_42_31, zk_43, zn_43, zk_44, zn_44, zk_45, zn_45, zk_46, zn_46, zk_47, zn_47, zk_48, zn_48, zk_49, zn_49, zk_50, zn_50, zk_51, zn_51, zk_52, zn_52, zk_53, zn_53, zk_54, zn_54, zk_55, zn_55, zk_56, zn_56, zk_57, zn_57, zk_58, zn_58, zk_59, zn_59, zk_60, zn_60, zk_61, zn_61, zk_62, zn_62, zk_63, zn_63, zk_64, zn_64, h11', h8]
        try simp
        exact hq
      · have h11' : N' 42 11 = nI h := (r1.2.1 11 (by decide)).trans h11
        simp only [q96_0, q96_1, q96_2, q96_5, q96_6, q96_7, q96_8, q96_11, q96_13, q96_16, q96_17, q96_18, q96_19, q96_20, q96_23, q96_24, q96_25, q96_28, q96_29, q96_30, q96_31, q96_32, q96_33, q96_34, q96_36, q96_39, q96_42, q96_43, q96_46, q96_49, q96_50, q96_53, q96_54i, q96_54r, q96_54n, q96_55, q96_56i, q96_56r, q96_56n, q96_60, q96_61, q96_64, q96_67, q96_68, q96_71, q96_72, q96_73, q96_74, q96_76, q96_79i, q96_79r, q96_79n, q96_80i, q96_80r, q96_80n, q96_83, q96_86, q96_87, q96_90, q96_91, q96_94, q96_95, q96_98, q96_99, q96_102, q96_103, zNC, zcs_0, zcs_i, zcs_r, zcs_l, zpush_0, zpush_i, zpush_l, and_true, true_and, Nat.reduceLT, Nat.reduceLeDiff, Nat.reduceAdd, Nat.reduceMul, reduceIte, ite_true, ite_false, if_true, if_false, not_true_eq_false, not_false_eq_true, false_implies, true_implies, forall_const, implies_true, imp_self, and_self, false_and, and_false, ne_eq, zk_42, zfv_42_0, zf_42_0, zfv_42_1, zf_42_1, zfv_42_2, zf_42_2, zfv_42_3, zfv_42_4, zfv_42_5, zfv_42_6, zfv_42_7, zfv_42_8, zfv_42_9, zf_42_9, zfv_42_10, zf_42_10, zfv_42_11, zf_42_11, zfv_42_12, zfv_42_13, zfv_42_14, zfv_42_15, zfv_42_16, zfv_42_17, zfv_42_18, zf_42_18, zfv_42_19, zf_42_19, zfv_42_20, zfv_42_21, zfv_42_22, zfv_42_23, zf_42_23, zfv_42_24, zfv_42_25, zfv_42_26, zfv_42_27, zfv_42_28, zfv_42_29, zfv_42_30, zfv_42_31, zf_42_31, zk_43, zn_43, zk_44, zn_44, zk_45, zn_45, zk_46, zn_46, zk_47, zn_47, zk_48, zn_48, zk_49, zn_49, zk_50, zn_50, zk_51, zn_51, zk_52, zn_52, zk_53, zn_53, zk_54, zn_54, zk_55, zn_55, zk_56, zn_56, zk_57, zn_57, zk_58, zn_58, zk_59, zn_59, zk_60, zn_60, zk_61, zn_61, zk_62, zn_62, zk_63, zn_63, zk_64, zn_64, h11', h8]
        try simp
        exact hq
end IV
