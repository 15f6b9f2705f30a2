section IV
variable {M M' : zM} {h y lw c k t : Nat} {Q : zR → zM → Prop}
theorem l_share {u w : Int64} {z : Int32} {v1 v3 : Value} : ∀ b, b < 10 → ∀ a, a < 10 → ∀ (v9 : Value), (v9 = .null ∨ ∃ q : Int64, v9 = .long q) → ∃ v9' : Value, (zQ 88 6 [.long u, v1, .long w, v3, .int z, .long (lN a), .null, .long (lN b), .null, v9, .null] [] M Q ↔ zQ 88 31 [.long u, v1, .long w, v3, .int z, .long (lN (Nat.gcd b a)), .null, .long (lN 0), .null, v9', .null] [] M Q) := by
  intro b
  induction b using Nat.strongRecOn with
  | ind b ih =>
    intro hb a ha v9 hv
    by_cases h0 : b = 0
    · subst h0
      refine ⟨v9, ?_⟩
      rw [q88_6]
      have e : lN 0 = 0 := rfl
      simp only [q88_0, q88_1i, q88_1r, q88_1n, q88_3, q88_4i, q88_4r, q88_4n, q88_8, q88_9, q88_10, q88_13, q88_15, q88_17, q88_18i, q88_18r, q88_18n, q88_20, q88_22i, q88_22r, q88_22n, q88_24, q88_26i, q88_26r, q88_26n, q88_28, q88_33, q88_36, q88_37, q88_40, q88_41, q88_43, q88_44, zNC, zcs_0, zcs_i, zcs_r, zcs_l, zpush_0, zpush_i, zpush_l, and_true, true_and, Nat.reduceLT, Nat.reduceLeDiff, Nat.reduceAdd, Nat.reduceMul, reduceIte, ite_true, ite_false, if_true, if_false, not_true_eq_false, not_false_eq_true, false_implies, true_implies, forall_const, implies_true, imp_self, and_self, false_and, and_false, ne_eq, lgc_eq, e, Nat.gcd_zero_left]
    · have hne : ¬ lN b = 0 := fun e => h0 ((lN_eq (a := b) (b := 0) (by omega) (by omega)).mp e)
      have er : lN a - lN a / lN b * lN b = lN (a % b) := pk_lRem (by omega) (by omega) (by omega)
      have hlt := Nat.mod_lt a (show 0 < b by omega)
      obtain ⟨v9', ih'⟩ := ih (a % b) hlt (by omega) b hb (.long (lN (a % b))) (Or.inr ⟨_, rfl⟩)
      refine ⟨v9', ?_⟩
      rw [show Nat.gcd b a = Nat.gcd (a % b) b from Nat.gcd_rec b a, ← ih', q88_6]
      simp only [q88_0, q88_1i, q88_1r, q88_1n, q88_3, q88_4i, q88_4r, q88_4n, q88_8, q88_9, q88_10, q88_13, q88_15, q88_17, q88_18i, q88_18r, q88_18n, q88_20, q88_22i, q88_22r, q88_22n, q88_24, q88_26i, q88_26r, q88_26n, q88_28, q88_33, q88_36, q88_37, q88_40, q88_41, q88_43, q88_44, zNC, zcs_0, zcs_i, zcs_r, zcs_l, zpush_0, zpush_i, zpush_l, and_true, true_and, Nat.reduceLT, Nat.reduceLeDiff, Nat.reduceAdd, Nat.reduceMul, reduceIte, ite_true, ite_false, if_true, if_false, not_true_eq_false, not_false_eq_true, false_implies, true_implies, forall_const, implies_true, imp_self, and_self, false_and, and_false, ne_eq, lgc_eq, hne, er]
theorem s_share {a b : Nat} (ha : a < 10) (hb : b < 10) (hb0 : 0 < b) {z : Int32} : zQ 88 0 [.long (lN a), .null, .long (lN b), .null, .int z, .null, .null, .null, .null, .null, .null] [] M Q ↔ Q (zJ (if z = 0 then lN (a / Nat.gcd b a) else lN (b / Nat.gcd b a))) M := by
  obtain ⟨v9, e⟩ := l_share (M := M) (Q := Q) (u := lN a) (w := lN b) (z := z) (v1 := .null) (v3 := .null) b hb a ha .null (Or.inl rfl)
  have g0 : 0 < Nat.gcd b a := Nat.gcd_pos_of_pos_left a hb0
  have g1 : Nat.gcd b a ≤ b := Nat.gcd_le_left a hb0
  have hne : ¬ lN (Nat.gcd b a) = 0 := fun e => by have := (lN_eq (a := Nat.gcd b a) (b := 0) (by omega) (by omega)).mp e; omega
  have d1 : lN a / lN (Nat.gcd b a) = lN (a / Nat.gcd b a) := pk_lDiv (by omega) g0 (by omega)
  have d2 : lN b / lN (Nat.gcd b a) = lN (b / Nat.gcd b a) := pk_lDiv (by omega) g0 (by omega)
  by_cases hz : z = 0
  · subst hz
    simp only [q88_0, q88_1i, q88_1r, q88_1n, q88_3, q88_4i, q88_4r, q88_4n, q88_8, q88_9, q88_10, q88_13, q88_15, q88_17, q88_18i, q88_18r, q88_18n, q88_20, q88_22i, q88_22r, q88_22n, q88_24, q88_26i, q88_26r, q88_26n, q88_28, q88_33, q88_36, q88_37, q88_40, q88_41, q88_43, q88_44, zNC, zcs_0, zcs_i, zcs_r, zcs_l, zpush_0, zpush_i, zpush_l, and_true, true_and, Nat.reduceLT, Nat.reduceLeDiff, Nat.reduceAdd, Nat.reduceMul, reduceIte, ite_true, ite_false, if_true, if_false, not_true_eq_false, not_false_eq_true, false_implies, true_implies, forall_const, implies_true, imp_self, and_self, false_and, and_false, ne_eq]
    rw [e, q88_31]
    simp only [q88_0, q88_1i, q88_1r, q88_1n, q88_3, q88_4i, q88_4r, q88_4n, q88_8, q88_9, q88_10, q88_13, q88_15, q88_17, q88_18i, q88_18r, q88_18n, q88_20, q88_22i, q88_22r, q88_22n, q88_24, q88_26i, q88_26r, q88_26n, q88_28, q88_33, q88_36, q88_37, q88_40, q88_41, q88_43, q88_44, zNC, zcs_0, zcs_i, zcs_r, zcs_l, zpush_0, zpush_i, zpush_l, and_true, true_and, Nat.reduceLT, Nat.reduceLeDiff, Nat.reduceAdd, Nat.reduceMul, reduceIte, ite_true, ite_false, if_true, if_false, not_true_eq_false, not_false_eq_true, false_implies, true_implies, forall_const, implies_true, imp_self, and_self, false_and, and_false, ne_eq, hne, d1]
    simp
  · simp only [q88_0, q88_1i, q88_1r, q88_1n, q88_3, q88_4i, q88_4r, q88_4n, q88_8, q88_9, q88_10, q88_13, q88_15, q88_17, q88_18i, q88_18r, q88_18n, q88_20, q88_22i, q88_22r, q88_22n, q88_24, q88_26i, q88_26r, q88_26n, q88_28, q88_33, q88_36, q88_37, q88_40, q88_41, q88_43, q88_44, zNC, zcs_0, zcs_i, zcs_r, zcs_l, zpush_0, zpush_i, zpush_l, and_true, true_and, Nat.reduceLT, Nat.reduceLeDiff, Nat.reduceAdd, Nat.reduceMul, reduceIte, ite_true, ite_false, if_true, if_false, not_true_eq_false, not_false_eq_true, false_implies, true_implies, forall_const, implies_true, imp_self, and_self, false_and, and_false, ne_eq]
    rw [e, q88_31]
    simp only [q88_0, q88_1i, q88_1r, q88_1n, q88_3, q88_4i, q88_4r, q88_4n, q88_8, q88_9, q88_10, q88_13, q88_15, q88_17, q88_18i, q88_18r, q88_18n, q88_20, q88_22i, q88_22r, q88_22n, q88_24, q88_26i, q88_26r, q88_26n, q88_28, q88_33, q88_36, q88_37, q88_40, q88_41, q88_43, q88_44, zNC, zcs_0, zcs_i, zcs_r, zcs_l, zpush_0, zpush_i, zpush_l, and_true, true_and, Nat.reduceLT, Nat.reduceLeDiff, Nat.reduceAdd, Nat.reduceMul, reduceIte, ite_true, ite_false, if_true, if_false, not_true_eq_false, not_false_eq_true, false_implies, true_implies, forall_const, implies_true, imp_self, and_self, false_and, and_false, ne_eq, hne, d2, hz]
    simp
theorem gd_fact : ∀ a, a < 6 → 0 < a → ∀ b, b < 6 → b ≤ a → (fgd a b a = Nat.gcd a b) := by decide +kernel
def fcn (P : Nat → Bool) : Nat → Nat
  | 0 => 0
  | n + 1 => if P n = true then fcn P n + 1 else fcn P n
theorem fcn_le (P : Nat → Bool) : ∀ n, fcn P n ≤ n := by
  intro n
  induction n with
  | zero => exact Nat.le_refl _
  | succ n ih => simp only [fcn]; split <;> omega
theorem fcn_lt {P : Nat → Bool} {k : Nat} (hk : ¬ P k = true) : ∀ n, k < n → fcn P n ≤ n - 1 := by
  intro n
  induction n with
  | zero => intro h; omega
  | succ n ih =>
    intro hn
    simp only [fcn]
    by_cases e : n = k
    · subst e
      rw [if_neg hk]
      have := fcn_le P n
      omega
    · have := ih (by omega)
      split <;> omega
end IV
