-- CHRONICLE: who has died
section IV
variable {M M' C R N : zM} {h y lw c k t a b o n r p m j i y0 : Nat} {Q : zR → zM → Prop} {x : Int32} {P S : Nat → Bool}
theorem tb_set : ∀ w, w < 64 → ∀ n, n < 6 → ∀ k, k < 6 → (w ||| 2 ^ n).testBit k = (decide (k = n) || w.testBit k) := by decide +kernel
theorem bsn_tb : ∀ n, n ≤ 6 → ∀ k, k < 6 → ((bsn P n).testBit k = true ↔ k < n ∧ P k = true) := by
  intro n
  induction n with
  | zero => intro _ k _; simp [bsn]
  | succ n ih =>
    intro hn k hk
    have h64 := (bset_bsn (P := P) n (by omega)).2
    have ih' := ih (by omega) k hk
    simp only [bsn]
    by_cases hp : P n = true
    · rw [if_pos hp, tb_set _ h64 n (by omega) k hk]
      by_cases e : k = n
      · subst e; simp [hp]
      · simp only [e, decide_false, Bool.false_or]
        rw [ih']
        constructor
        · rintro ⟨h1, h2⟩; exact ⟨by omega, h2⟩
        · rintro ⟨h1, h2⟩; exact ⟨by omega, h2⟩
    · rw [if_neg hp, ih']
      constructor
      · rintro ⟨h1, h2⟩; exact ⟨by omega, h2⟩
      · rintro ⟨h1, h2⟩
        by_cases e : k = n
        · subst e; exact absurd h2 hp
        · exact ⟨by omega, h2⟩
theorem dd_bit : ∀ u, u < 64 → ∀ v, v < 64 → ∀ k, k < 6 → (((nI u &&& (nI v ^^^ -1)) >>> (nI k &&& 31)) &&& 1 = 0 ↔ ¬ (u.testBit k = true ∧ ¬ v.testBit k = true)) := by decide +kernel
theorem dd_set (h6 : h ≤ 6) (hk : k < 6) : (((bset P h &&& (bset S h ^^^ -1)) >>> (nI k &&& 31)) &&& 1 = 0 ↔ ¬ (k < h ∧ P k = true ∧ ¬ S k = true)) := by
  obtain ⟨a1, a2⟩ := bset_bsn (P := P) h h6
  obtain ⟨b1, b2⟩ := bset_bsn (P := S) h h6
  rw [a1, b1, dd_bit _ a2 _ b2 k hk, bsn_tb h h6 k hk, bsn_tb h h6 k hk]
  constructor
  · intro e1 ⟨e2, e3, e4⟩
    exact e1 ⟨⟨e2, e3⟩, fun e => e4 e.2⟩
  · rintro e1 ⟨⟨e2, e3⟩, e4⟩
    exact e1 ⟨e2, e3, fun e => e4 ⟨e2, e⟩⟩
/-- rows behind k of six houses -/
def NDr (C : zM) (P : Nat → Bool) (h k : Nat) : Nat → Int32 := fun i => if i < k ∧ i < h ∧ P i = true ∧ ¬ decide (0 < C 19 i) = true then C 25 2 else C 26 i
def NDc (C : zM) (P : Nat → Bool) (h : Nat) : zM := zrow C 26 (NDr C P h 6)
theorem NDr_0 : zrow C 26 (NDr C P h 0) = C := by
  funext a
  unfold zrow NDr
  split
  · rename_i e; rw [e]; funext i; rw [if_neg (by omega)]
  · rfl
theorem NDr_t (e : k < h ∧ P k = true ∧ ¬ decide (0 < C 19 k) = true) : zup (zrow C 26 (NDr C P h k)) 26 k (C 25 2) = zrow C 26 (NDr C P h (k + 1)) := by
  funext a i
  rw [zup_app]
  unfold zrow NDr
  by_cases ea : a = 26
  · subst ea
    simp only [if_true]
    by_cases ei : i = k
    · subst ei
      rw [if_pos rfl, if_pos ⟨by omega, e⟩]
    · rw [if_neg ei]
      have e1 : (i < k) = (i < k + 1) := by simp; omega
      simp only [e1]
  · simp only [if_neg ea]
theorem NDr_f (e : ¬ (k < h ∧ P k = true ∧ ¬ decide (0 < C 19 k) = true)) : zrow C 26 (NDr C P h k) = zrow C 26 (NDr C P h (k + 1)) := by
  funext a i
  unfold zrow NDr
  by_cases ea : a = 26
  · subst ea
    simp only [if_true]
    by_cases ei : i = k
    · subst ei
      rw [if_neg (by omega), if_neg (fun e2 => e e2.2)]
    · have e1 : (i < k) = (i < k + 1) := by simp; omega
      simp only [e1]
  · simp only [if_neg ea]
theorem ht17 : zTn 17 := Or.inr (Or.inr rfl)
theorem l_noteDeaths (h6 : h ≤ 6) {x : Int32} : ∀ d k, k + d = 6 → (zQ 15 14 [.ref 25, .int x, .int (bset P h &&& (bset (fun k => decide (0 < C 19 k)) h ^^^ -1)), .int (nI k)] [] (zrow C 26 (NDr C P h k)) Q ↔ Q none (NDc C P h)) := by
  intro d
  induction d with
  | zero =>
    intro k hk
    obtain rfl : k = 6 := by omega
    have f : (6 : Int32) ≤ nI 6 := i_le_refl _
    rw [q15_14]
    unfold NDc
    simp only [q15_0, q15_1, q15_2, q15_5, q15_8, q15_9, q15_10, q15_11i, q15_11r, q15_11n, q15_12, q15_13i, q15_13r, q15_13n, q15_15, q15_17, q15_20, q15_21, q15_22, q15_23, q15_24, q15_25, q15_28, q15_29, q15_32, q15_33, q15_34, q15_37, q15_38i, q15_38r, q15_38n, q15_41, q15_44, zNC, zcs_0, zcs_i, zcs_r, zcs_l, zpush_0, zpush_i, zpush_l, and_true, true_and, Nat.reduceLT, Nat.reduceLeDiff, Nat.reduceAdd, Nat.reduceMul, reduceIte, ite_true, ite_false, if_true, if_false, not_true_eq_false, not_false_eq_true, false_implies, true_implies, forall_const, implies_true, imp_self, and_self, false_and, and_false, ne_eq, zk_0, zfv_0_0, zfv_0_1, zfv_0_2, zfv_0_3, zfv_0_4, zfv_0_5, zfv_0_6, zf_0_6, zfv_0_7, zf_0_7, zk_25, zfv_25_0, zfv_25_1, zfv_25_2, zf_25_2, zk_26, zn_26, zk_27, zfv_27_0, zk_28, zn_28, zk_29, zfv_29_0, zfv_29_1, zfv_29_2, zfv_29_3, zf_29_3, zk_30, zn_30, zk_31, zn_31, zk_32, zn_32, zk_33, zn_33, zk_34, zfv_34_0, zfv_34_1, zf_34_1, zfv_34_2, zf_34_2, zfv_34_3, zf_34_3, zk_35, zn_35, zk_36, zfv_36_0, zfv_36_1, zf_36_1, zfv_36_2, zf_36_2, zfv_36_3, zf_36_3, zk_37, zn_37, zk_38, zfv_38_0, zfv_38_1, zf_38_1, zfv_38_2, zf_38_2, zfv_38_3, zf_38_3, zk_39, zn_39, zk_40, zfv_40_0, zfv_40_1, zf_40_1, zfv_40_2, zf_40_2, zfv_40_3, zf_40_3, zk_41, zn_41, zk_1, zfv_1_0, zfv_1_1, zfv_1_2, zfv_1_3, zfv_1_4, zfv_1_5, zfv_1_6, zfv_1_7, zf_1_7, zfv_1_8, zf_1_8, zk_9, zfv_9_0, zfv_9_1, zfv_9_2, zfv_9_3, zfv_9_4, zfv_9_5, zfv_9_6, zfv_9_7, zf_9_7, zfv_9_8, zf_9_8, zk_17, zfv_17_0, zfv_17_1, zfv_17_2, zfv_17_3, zfv_17_4, zfv_17_5, zfv_17_6, zfv_17_7, zf_17_7, zfv_17_8, zf_17_8, zk_2, zn_2, zk_3, zn_3, zk_4, zn_4, zk_5, zn_5, zk_6, zn_6, zk_7, zn_7, zk_8, zn_8, zk_10, zn_10, zk_11, zn_11, zk_12, zn_12, zk_13, zn_13, zk_14, zn_14, zk_15, zn_15, zk_16, zn_16, zk_18, zn_18, zk_19, zn_19, zk_20, zn_20, zk_21, zn_21, zk_22, zn_22, zk_23, zn_23, zk_24, zn_24, f]
  | succ d ih =>
    intro k hk
    have h1 : ¬ (6 : Int32) ≤ nI k := nI_ge (a := k) (b := 6) (by omega) (by omega)
    have hc : (nI k).toNatClampNeg = k := nI_clamp (by omega)
    have hz := zin_nI (k := k) (n := 6) (by omega) (by decide)
    have ih' := ih (k + 1) (by omega)
    have e25 : zrow C 26 (NDr C P h k) 25 2 = C 25 2 := rfl
    have hd := dd_set (P := P) (S := fun k => decide (0 < C 19 k)) h6 (show k < 6 by omega)
    rw [q15_14, ← ih']
    by_cases e : k < h ∧ P k = true ∧ ¬ decide (0 < C 19 k) = true
    · have hd2 := mt hd.mp (not_not_intro e)
      rw [← NDr_t e]
      simp only [q15_0, q15_1, q15_2, q15_5, q15_8, q15_9, q15_10, q15_11i, q15_11r, q15_11n, q15_12, q15_13i, q15_13r, q15_13n, q15_15, q15_17, q15_20, q15_21, q15_22, q15_23, q15_24, q15_25, q15_28, q15_29, q15_32, q15_33, q15_34, q15_37, q15_38i, q15_38r, q15_38n, q15_41, q15_44, zNC, zcs_0, zcs_i, zcs_r, zcs_l, zpush_0, zpush_i, zpush_l, and_true, true_and, Nat.reduceLT, Nat.reduceLeDiff, Nat.reduceAdd, Nat.reduceMul, reduceIte, ite_true, ite_false, if_true, if_false, not_true_eq_false, not_false_eq_true, false_implies, true_implies, forall_const, implies_true, imp_self, and_self, false_and, and_false, ne_eq, zk_0, zfv_0_0, zfv_0_1, zfv_0_2, zfv_0_3, zfv_0_4, zfv_0_5, zfv_0_6, zf_0_6, zfv_0_7, zf_0_7, zk_25, zfv_25_0, zfv_25_1, zfv_25_2, zf_25_2, zk_26, zn_26, zk_27, zfv_27_0, zk_28, zn_28, zk_29, zfv_29_0, zfv_29_1, zfv_29_2, zfv_29_3, zf_29_3, zk_30, zn_30, zk_31, zn_31, zk_32, zn_32, zk_33, zn_33, zk_34, zfv_34_0, zfv_34_1, zf_34_1, zfv_34_2, zf_34_2, zfv_34_3, zf_34_3, zk_35, zn_35, zk_36, zfv_36_0, zfv_36_1, zf_36_1, zfv_36_2, zf_36_2, zfv_36_3, zf_36_3, zk_37, zn_37, zk_38, zfv_38_0, zfv_38_1, zf_38_1, zfv_38_2, zf_38_2, zfv_38_3, zf_38_3, zk_39, zn_39, zk_40, zfv_40_0, zfv_40_1, zf_40_1, zfv_40_2, zf_40_2, zfv_40_3, zf_40_3, zk_41, zn_41, zk_1, zfv_1_0, zfv_1_1, zfv_1_2, zfv_1_3, zfv_1_4, zfv_1_5, zfv_1_6, zfv_1_7, zf_1_7, zfv_1_8, zf_1_8, zk_9, zfv_9_0, zfv_9_1, zfv_9_2, zfv_9_3, zfv_9_4, zfv_9_5, zfv_9_6, zfv_9_7, zf_9_7, zfv_9_8, zf_9_8, zk_17, zfv_17_0, zfv_17_1, zfv_17_2, zfv_17_3, zfv_17_4, zfv_17_5, zfv_17_6, zfv_17_7, zf_17_7, zfv_17_8, zf_17_8, zk_2, zn_2, zk_3, zn_3, zk_4, zn_4, zk_5, zn_5, zk_6, zn_6, zk_7, zn_7, zk_8, zn_8, zk_10, zn_10, zk_11, zn_11, zk_12, zn_12, zk_13, zn_13, zk_14, zn_14, zk_15, zn_15, zk_16, zn_16, zk_18, zn_18, zk_19, zn_19, zk_20, zn_20, zk_21, zn_21, zk_22, zn_22, zk_23, zn_23, zk_24, zn_24, h1, hc, hz, hd2, e25, nI_1]
    · have hd2 := hd.mpr e
      rw [← NDr_f e]
      simp only [q15_0, q15_1, q15_2, q15_5, q15_8, q15_9, q15_10, q15_11i, q15_11r, q15_11n, q15_12, q15_13i, q15_13r, q15_13n, q15_15, q15_17, q15_20, q15_21, q15_22, q15_23, q15_24, q15_25, q15_28, q15_29, q15_32, q15_33, q15_34, q15_37, q15_38i, q15_38r, q15_38n, q15_41, q15_44, zNC, zcs_0, zcs_i, zcs_r, zcs_l, zpush_0, zpush_i, zpush_l, and_true, true_and, Nat.reduceLT, Nat.reduceLeDiff, Nat.reduceAdd, Nat.reduceMul, reduceIte, ite_true, ite_false, if_true, if_false, not_true_eq_false, not_false_eq_true, false_implies, true_implies, forall_const, implies_true, imp_self, and_self, false_and, and_false, ne_eq, zk_0, zfv_0_0, zfv_0_1, zfv_0_2, zfv_0_3, zfv_0_4, zfv_0_5, zfv_0_6, zf_0_6, zfv_0_7, zf_0_7, zk_25, zfv_25_0, zfv_25_1, zfv_25_2, zf_25_2, zk_26, zn_26, zk_27, zfv_27_0, zk_28, zn_28, zk_29, zfv_29_0, zfv_29_1, zfv_29_2, zfv_29_3, zf_29_3, zk_30, zn_30, zk_31, zn_31, zk_32, zn_32, zk_33, zn_33, zk_34, zfv_34_0, zfv_34_1, zf_34_1, zfv_34_2, zf_34_2, zfv_34_3, zf_34_3, zk_35, zn_35, zk_36, zfv_36_0, zfv_36_1, zf_36_1, zfv_36_2, zf_36_2, zfv_36_3, zf_36_3, zk_37, zn_37, zk_38, zfv_38_0, zfv_38_1, zf_38_1, zfv_38_2, zf_38_2, zfv_38_3, zf_38_3, zk_39, zn_39, zk_40, zfv_40_0, zfv_40_1, zf_40_1, zfv_40_2, zf_40_2, zfv_40_3, zf_40_3, zk_41, zn_41, zk_1, zfv_1_0, zfv_1_1, zfv_1_2, zfv_1_3, zfv_1_4, zfv_1_5, zfv_1_6, zfv_1_7, zf_1_7, zfv_1_8, zf_1_8, zk_9, zfv_9_0, zfv_9_1, zfv_9_2, zfv_9_3, zfv_9_4, zfv_9_5, zfv_9_6, zfv_9_7, zf_9_7, zfv_9_8, zf_9_8, zk_17, zfv_17_0, zfv_17_1, zfv_17_2, zfv_17_3, zfv_17_4, zfv_17_5, zfv_17_6, zfv_17_7, zf_17_7, zfv_17_8, zf_17_8, zk_2, zn_2, zk_3, zn_3, zk_4, zn_4, zk_5, zn_5, zk_6, zn_6, zk_7, zn_7, zk_8, zn_8, zk_10, zn_10, zk_11, zn_11, zk_12, zn_12, zk_13, zn_13, zk_14, zn_14, zk_15, zn_15, zk_16, zn_16, zk_18, zn_18, zk_19, zn_19, zk_20, zn_20, zk_21, zn_21, zk_22, zn_22, zk_23, zn_23, zk_24, zn_24, h1, hd2, nI_1]
      try simp
theorem s_noteDeaths (hh : C 17 7 = nI h) (h6 : h ≤ 6) : zQ 15 0 [.ref 25, .int (bset P h), .null, .null] [] C Q ↔ Q none (NDc C P h) := by
  have e := l_noteDeaths (C := C) (P := P) (Q := Q) (x := bset P h) h6 6 0 (by omega)
  rw [NDr_0] at e
  have e1 : ∀ Q' : zR → zM → Prop, _ := fun Q' => s_setOfLiving (M := C) (Q := Q') ht17 hh h6
  have i0 : nI 0 = 0 := rfl
  simp only [i0] at e
  simp only [Nat.reduceAdd] at e1
  rw [← e]
  simp only [q15_0, q15_1, q15_2, q15_5, q15_8, q15_9, q15_10, q15_11i, q15_11r, q15_11n, q15_12, q15_13i, q15_13r, q15_13n, q15_15, q15_17, q15_20, q15_21, q15_22, q15_23, q15_24, q15_25, q15_28, q15_29, q15_32, q15_33, q15_34, q15_37, q15_38i, q15_38r, q15_38n, q15_41, q15_44, zNC, zcs_0, zcs_i, zcs_r, zcs_l, zpush_0, zpush_i, zpush_l, and_true, true_and, Nat.reduceLT, Nat.reduceLeDiff, Nat.reduceAdd, Nat.reduceMul, reduceIte, ite_true, ite_false, if_true, if_false, not_true_eq_false, not_false_eq_true, false_implies, true_implies, forall_const, implies_true, imp_self, and_self, false_and, and_false, ne_eq, zk_0, zfv_0_0, zfv_0_1, zfv_0_2, zfv_0_3, zfv_0_4, zfv_0_5, zfv_0_6, zf_0_6, zfv_0_7, zf_0_7, zk_25, zfv_25_0, zfv_25_1, zfv_25_2, zf_25_2, zk_26, zn_26, zk_27, zfv_27_0, zk_28, zn_28, zk_29, zfv_29_0, zfv_29_1, zfv_29_2, zfv_29_3, zf_29_3, zk_30, zn_30, zk_31, zn_31, zk_32, zn_32, zk_33, zn_33, zk_34, zfv_34_0, zfv_34_1, zf_34_1, zfv_34_2, zf_34_2, zfv_34_3, zf_34_3, zk_35, zn_35, zk_36, zfv_36_0, zfv_36_1, zf_36_1, zfv_36_2, zf_36_2, zfv_36_3, zf_36_3, zk_37, zn_37, zk_38, zfv_38_0, zfv_38_1, zf_38_1, zfv_38_2, zf_38_2, zfv_38_3, zf_38_3, zk_39, zn_39, zk_40, zfv_40_0, zfv_40_1, zf_40_1, zfv_40_2, zf_40_2, zfv_40_3, zf_40_3, zk_41, zn_41, zk_1, zfv_1_0, zfv_1_1, zfv_1_2, zfv_1_3, zfv_1_4, zfv_1_5, zfv_1_6, zfv_1_7, zf_1_7, zfv_1_8, zf_1_8, zk_9, zfv_9_0, zfv_9_1, zfv_9_2, zfv_9_3, zfv_9_4, zfv_9_5, zfv_9_6, zfv_9_7, zf_9_7, zfv_9_8, zf_9_8, zk_17, zfv_17_0, zfv_17_1, zfv_17_2, zfv_17_3, zfv_17_4, zfv_17_5, zfv_17_6, zfv_17_7, zf_17_7, zfv_17_8, zf_17_8, zk_2, zn_2, zk_3, zn_3, zk_4, zn_4, zk_5, zn_5, zk_6, zn_6, zk_7, zn_7, zk_8, zn_8, zk_10, zn_10, zk_11, zn_11, zk_12, zn_12, zk_13, zn_13, zk_14, zn_14, zk_15, zn_15, zk_16, zn_16, zk_18, zn_18, zk_19, zn_19, zk_20, zn_20, zk_21, zn_21, zk_22, zn_22, zk_23, zn_23, zk_24, zn_24, e1]
/-- the reference's rows behind k houses -/
def WDr (R : zM) (k : Nat) : Nat → Int32 := fun i => if i < k ∧ R 55 i < 0 ∧ 0 < R 54 i ∧ ¬ 0 < R 44 i then R 42 2 - R 42 19 else R 55 i
def WD (R : zM) (h : Nat) : zM := zrow R 55 (WDr R h)
theorem WDr_0 : zrow R 55 (WDr R 0) = R := by
  funext a
  unfold zrow WDr
  split
  · rename_i e; rw [e]; funext i; rw [if_neg (by omega)]
  · rfl
theorem WDr_k : zrow R 55 (WDr R k) 55 k = R 55 k := by
  rw [zrow_self]
  unfold WDr
  rw [if_neg (by omega)]
theorem WDr_t (e : R 55 k < 0 ∧ 0 < R 54 k ∧ ¬ 0 < R 44 k) : zup (zrow R 55 (WDr R k)) 55 k (R 42 2 - R 42 19) = zrow R 55 (WDr R (k + 1)) := by
  funext a i
  rw [zup_app]
  unfold zrow WDr
  by_cases ea : a = 55
  · subst ea
    simp only [if_true]
    by_cases ei : i = k
    · subst ei
      rw [if_pos rfl, if_pos ⟨by omega, e⟩]
    · rw [if_neg ei]
      have e1 : (i < k) = (i < k + 1) := by simp; omega
      simp only [e1]
  · simp only [if_neg ea]
theorem WDr_f (e : ¬ (R 55 k < 0 ∧ 0 < R 54 k ∧ ¬ 0 < R 44 k)) : zup (zrow R 55 (WDr R k)) 55 k (R 55 k) = zrow R 55 (WDr R (k + 1)) := by
  funext a i
  rw [zup_app]
  unfold zrow WDr
  by_cases ea : a = 55
  · subst ea
    simp only [if_true]
    by_cases ei : i = k
    · subst ei
      rw [if_pos rfl, if_neg (fun e2 => e e2.2)]
    · rw [if_neg ei]
      have e1 : (i < k) = (i < k + 1) := by simp; omega
      simp only [e1]
  · simp only [if_neg ea]
theorem l_whoDied (hm : R 42 1 = nI h) (h6 : h ≤ 6) : ∀ d k (v2 : Value), k + d = h → (zQ 118 2 [.ref 42, .int (nI k), v2] [] (zrow R 55 (WDr R k)) Q ↔ Q none (WD R h)) := by
  intro d
  induction d with
  | zero =>
    intro k v2 hk
    obtain rfl : k = h := by omega
    have e1 : zrow R 55 (WDr R k) 42 1 = nI k := hm
    rw [q118_2]
    unfold WD
    simp only [q118_0, q118_1i, q118_1r, q118_1n, q118_3, q118_4, q118_7, q118_10, q118_11, q118_14, q118_15, q118_16, q118_19, q118_20, q118_23, q118_24, q118_25, q118_28, q118_29, q118_30, q118_33, q118_36, q118_37, q118_40, q118_41i, q118_41r, q118_41n, q118_42, q118_43, q118_46, q118_47, q118_48, q118_51, q118_52, q118_55, q118_56, q118_59, q118_60, q118_63, q118_64, q118_67, q118_68, q118_69, q118_70i, q118_70r, q118_70n, q118_73, q118_76, zNC, zcs_0, zcs_i, zcs_r, zcs_l, zpush_0, zpush_i, zpush_l, and_true, true_and, Nat.reduceLT, Nat.reduceLeDiff, Nat.reduceAdd, Nat.reduceMul, reduceIte, ite_true, ite_false, if_true, if_false, not_true_eq_false, not_false_eq_true, false_implies, true_implies, forall_const, implies_true, imp_self, and_self, false_and, and_false, ne_eq, zk_42, zfv_42_0, zf_42_0, zfv_42_1, zf_42_1, zfv_42_2, zf_42_2, zfv_42_3, zfv_42_4, zfv_42_5, zfv_42_6, zfv_42_7, zfv_42_8, zfv_42_9, zf_42_9, zfv_42_10, zf_42_10, zfv_42_11, zf_42_11, zfv_42_12, zfv_42_13, zfv_42_14, zfv_42_15, zfv_42_16, zfv_42_17, zfv_42_18, zf_42_18, zfv_42_19, zf_42_19, zfv_42_20, zfv_42_21, zfv_42_22, zfv_42_23, zf_42_23, zfv_42_24, zfv_42_25, zfv_42_26, zfv_42_27, zfv_42_28, zfv_42_29, zfv_42_30, zfv_42_31, zf_42_31, zk_43, zn_43, zk_44, zn_44, zk_45, zn_45, zk_46, zn_46, zk_47, zn_47, zk_48, zn_48, zk_49, zn_49, zk_50, zn_50, zk_51, zn_51, zk_52, zn_52, zk_53, zn_53, zk_54, zn_54, zk_55, zn_55, zk_56, zn_56, zk_57, zn_57, zk_58, zn_58, zk_59, zn_59, zk_60, zn_60, zk_61, zn_61, zk_62, zn_62, zk_63, zn_63, zk_64, zn_64, e1, i_le_refl]
  | succ d ih =>
    intro k v2 hk
    have e1 : zrow R 55 (WDr R k) 42 1 = nI h := hm
    have h1 : ¬ nI h ≤ nI k := nI_ge (by omega) (by omega)
    have hc : (nI k).toNatClampNeg = k := nI_clamp (by omega)
    have hz := zin_nI (k := k) (n := 6) (by omega) (by decide)
    have ih' := fun v2 => ih (k + 1) v2 (by omega)
    have e54 : zrow R 55 (WDr R k) 54 = R 54 := rfl
    have e42 : zrow R 55 (WDr R k) 42 = R 42 := rfl
    have e44 : zrow R 55 (WDr R k) 44 = R 44 := rfl
    have e55 := WDr_k (R := R) (k := k)
    have eal : ∀ Q' : zR → zM → Prop, _ := fun Q' => s_mAlive (M := zrow R 55 (WDr R k)) (Q := Q') (show k < 6 by omega)
    rw [e44] at eal
    rw [q118_2]
    have hR : ∀ (c : Prop), True := fun _ => trivial
    by_cases c1 : R 55 k < 0
    · have c1' : ¬ 0 ≤ R 55 k := by simp only [fa_lt, fa_le, fa_eq, zt_0, zt_1, zt_2, zt_3, zt_4, zt_5, zt_6, zt_7, zt_8, zt_9, zt_10, zt_11, zt_12, zt_13, zt_14, zt_15, zt_16, zt_17, zt_18, zt_19, zt_20, zt_21, zt_22, zt_23, zt_24, zt_25, zt_31, zt_40, zt_48, zt_50, zt_57, zt_59, zt_60, zt_97, zt_98, zt_99, zt_100, zt_112, zt_115, zt_119, zt_120, zt_255, zt_999, zt_m1, zt_m2, zt_m3, zt_m4, zt_m9, zt_m10, zt_m100] at *; omega
      by_cases c2 : 0 < R 54 k
      · have c2' : ¬ R 54 k ≤ 0 := by simp only [fa_lt, fa_le, fa_eq, zt_0, zt_1, zt_2, zt_3, zt_4, zt_5, zt_6, zt_7, zt_8, zt_9, zt_10, zt_11, zt_12, zt_13, zt_14, zt_15, zt_16, zt_17, zt_18, zt_19, zt_20, zt_21, zt_22, zt_23, zt_24, zt_25, zt_31, zt_40, zt_48, zt_50, zt_57, zt_59, zt_60, zt_97, zt_98, zt_99, zt_100, zt_112, zt_115, zt_119, zt_120, zt_255, zt_999, zt_m1, zt_m2, zt_m3, zt_m4, zt_m9, zt_m10, zt_m100] at *; omega
        by_cases c3 : 0 < R 44 k
        · have hf := WDr_f (R := R) (k := k) (fun e => e.2.2 c3)
          rw [← hf] at ih'
          simp only [q118_0, q118_1i, q118_1r, q118_1n, q118_3, q118_4, q118_7, q118_10, q118_11, q118_14, q118_15, q118_16, q118_19, q118_20, q118_23, q118_24, q118_25, q118_28, q118_29, q118_30, q118_33, q118_36, q118_37, q118_40, q118_41i, q118_41r, q118_41n, q118_42, q118_43, q118_46, q118_47, q118_48, q118_51, q118_52, q118_55, q118_56, q118_59, q118_60, q118_63, q118_64, q118_67, q118_68, q118_69, q118_70i, q118_70r, q118_70n, q118_73, q118_76, zNC, zcs_0, zcs_i, zcs_r, zcs_l, zpush_0, zpush_i, zpush_l, and_true, true_and, Nat.reduceLT, Nat.reduceLeDiff, Nat.reduceAdd, Nat.reduceMul, reduceIte, ite_true, ite_false, if_true, if_false, not_true_eq_false, not_false_eq_true, false_implies, true_implies, forall_const, implies_true, imp_self, and_self, false_and, and_false, ne_eq, zk_42, zfv_42_0, zf_42_0, zfv_42_1, zf_42_1, zfv_42_2, zf_42_2, zfv_42_3, zfv_42_4, zfv_42_5, zfv_42_6, zfv_42_7, zfv_42_8, zfv_42_9, zf_42_9, zfv_42_10, zf_42_10, zfv_42_11, zf_42_11, zfv_42_12, zfv_42_13, zfv_42_14, zfv_42_15, zfv_42_16, zfv_42_17, zfv_42_18, zf_42_18, zfv_42_19, zf_42_19, zfv_42_20, zfv_42_21, zfv_42_22, zfv_42_23, zf_42_23, zfv_42_24, zfv_42_25, zfv_42_26, zfv_42_27, zfv_42_28, zfv_42_29, zfv_42_30, zfv_42_31, zf_42_31, zk_43, zn_43, zk_44, zn_44, zk_45, zn_45, zk_46, zn_46, zk_47, zn_47, zk_48, zn_48, zk_49, zn_49, zk_50, zn_50, zk_51, zn_51, zk_52, zn_52, zk_53, zn_53, zk_54, zn_54, zk_55, zn_55, zk_56, zn_56, zk_57, zn_57, zk_58, zn_58, zk_59, zn_59, zk_60, zn_60, zk_61, zn_61, zk_62, zn_62, zk_63, zn_63, zk_64, zn_64, e1, h1, hc, hz, e55, e54, e42, eal, c1', c2', zb1_0, c3, nI_1]
          simp [ih']
        · have hf := WDr_t (R := R) (k := k) ⟨c1, c2, c3⟩
          rw [← hf] at ih'
          simp only [q118_0, q118_1i, q118_1r, q118_1n, q118_3, q118_4, q118_7, q118_10, q118_11, q118_14, q118_15, q118_16, q118_19, q118_20, q118_23, q118_24, q118_25, q118_28, q118_29, q118_30, q118_33, q118_36, q118_37, q118_40, q118_41i, q118_41r, q118_41n, q118_42, q118_43, q118_46, q118_47, q118_48, q118_51, q118_52, q118_55, q118_56, q118_59, q118_60, q118_63, q118_64, q118_67, q118_68, q118_69, q118_70i, q118_70r, q118_70n, q118_73, q118_76, zNC, zcs_0, zcs_i, zcs_r, zcs_l, zpush_0, zpush_i, zpush_l, and_true, true_and, Nat.reduceLT, Nat.reduceLeDiff, Nat.reduceAdd, Nat.reduceMul, reduceIte, ite_true, ite_false, if_true, if_false, not_true_eq_false, not_false_eq_true, false_implies, true_implies, forall_const, implies_true, imp_self, and_self, false_and, and_false, ne_eq, zk_42, zfv_42_0, zf_42_0, zfv_42_1, zf_42_1, zfv_42_2, zf_42_2, zfv_42_3, zfv_42_4, zfv_42_5, zfv_42_6, zfv_42_7, zfv_42_8, zfv_42_9, zf_42_9, zfv_42_10, zf_42_10, zfv_42_11, zf_42_11, zfv_42_12, zfv_42_13, zfv_42_14, zfv_42_15, zfv_42_16, zfv_42_17, zfv_42_18, zf_42_18, zfv_42_19, zf_42_19, zfv_42_20, zfv_42_21, zfv_42_22, zfv_42_23, zf_42_23, zfv_42_24, zfv_42_25, zfv_42_26, zfv_42_27, zfv_42_28, zfv_42_29, zfv_42_30, zfv_42_31, zf_42_31, zk_43, zn_43, zk_44, zn_44, zk_45, zn_45, zk_46, zn_46, zk_47, zn_47, zk_48, zn_48, zk_49, zn_49, zk_50, zn_50, zk_51, zn_51, zk_52, zn_52, zk_53, zn_53, zk_54, zn_54, zk_55, zn_55, zk_56, zn_56, zk_57, zn_57, zk_58, zn_58, zk_59, zn_59, zk_60, zn_60, zk_61, zn_61, zk_62, zn_62, zk_63, zn_63, zk_64, zn_64, e1, h1, hc, hz, e55, e54, e42, eal, c1', c2', zb1_0, c3, nI_1]
          simp [ih']
      · have c2' : R 54 k ≤ 0 := by simp only [fa_lt, fa_le, fa_eq, zt_0, zt_1, zt_2, zt_3, zt_4, zt_5, zt_6, zt_7, zt_8, zt_9, zt_10, zt_11, zt_12, zt_13, zt_14, zt_15, zt_16, zt_17, zt_18, zt_19, zt_20, zt_21, zt_22, zt_23, zt_24, zt_25, zt_31, zt_40, zt_48, zt_50, zt_57, zt_59, zt_60, zt_97, zt_98, zt_99, zt_100, zt_112, zt_115, zt_119, zt_120, zt_255, zt_999, zt_m1, zt_m2, zt_m3, zt_m4, zt_m9, zt_m10, zt_m100] at *; omega
        have hf := WDr_f (R := R) (k := k) (fun e => c2 e.2.1)
        rw [← hf] at ih'
        simp only [q118_0, q118_1i, q118_1r, q118_1n, q118_3, q118_4, q118_7, q118_10, q118_11, q118_14, q118_15, q118_16, q118_19, q118_20, q118_23, q118_24, q118_25, q118_28, q118_29, q118_30, q118_33, q118_36, q118_37, q118_40, q118_41i, q118_41r, q118_41n, q118_42, q118_43, q118_46, q118_47, q118_48, q118_51, q118_52, q118_55, q118_56, q118_59, q118_60, q118_63, q118_64, q118_67, q118_68, q118_69, q118_70i, q118_70r, q118_70n, q118_73, q118_76, zNC, zcs_0, zcs_i, zcs_r, zcs_l, zpush_0, zpush_i, zpush_l, and_true, true_and, Nat.reduceLT, Nat.reduceLeDiff, Nat.reduceAdd, Nat.reduceMul, reduceIte, ite_true, ite_false, if_true, if_false, not_true_eq_false, not_false_eq_true, false_implies, true_implies, forall_const, implies_true, imp_self, and_self, false_and, and_false, ne_eq, zk_42, zfv_42_0, zf_42_0, zfv_42_1, zf_42_1, zfv_42_2, zf_42_2, zfv_42_3, zfv_42_4, zfv_42_5, zfv_42_6, zfv_42_7, zfv_42_8, zfv_42_9, zf_42_9, zfv_42_10, zf_42_10, zfv_42_11, zf_42_11, zfv_42_12, zfv_42_13, zfv_42_14, zfv_42_15, zfv_42_16, zfv_42_17, zfv_42_18, zf_42_18, zfv_42_19, zf_42_19, zfv_42_20, zfv_42_21, zfv_42_22, zfv_42_23, zf_42_23, zfv_42_24, zfv_42_25, zfv_42_26, zfv_42_27, zfv_42_28, zfv_42_29, zfv_42_30, zfv_42_31, zf_42_31, zk_43, zn_43, zk_44, zn_44, zk_45, zn_45, zk_46, zn_46, zk_47, zn_47, zk_48, zn_48, zk_49, zn_49, zk_50, zn_50, zk_51, zn_51, zk_52, zn_52, zk_53, zn_53, zk_54, zn_54, zk_55, zn_55, zk_56, zn_56, zk_57, zn_57, zk_58, zn_58, zk_59, zn_59, zk_60, zn_60, zk_61, zn_61, zk_62, zn_62, zk_63, zn_63, zk_64, zn_64, e1, h1, hc, hz, e55, e54, e42, eal, c1', c2', nI_1]
        simp [ih']
    · have c1' : 0 ≤ R 55 k := by simp only [fa_lt, fa_le, fa_eq, zt_0, zt_1, zt_2, zt_3, zt_4, zt_5, zt_6, zt_7, zt_8, zt_9, zt_10, zt_11, zt_12, zt_13, zt_14, zt_15, zt_16, zt_17, zt_18, zt_19, zt_20, zt_21, zt_22, zt_23, zt_24, zt_25, zt_31, zt_40, zt_48, zt_50, zt_57, zt_59, zt_60, zt_97, zt_98, zt_99, zt_100, zt_112, zt_115, zt_119, zt_120, zt_255, zt_999, zt_m1, zt_m2, zt_m3, zt_m4, zt_m9, zt_m10, zt_m100] at *; omega
      have hf := WDr_f (R := R) (k := k) (fun e => c1 e.1)
      rw [← hf] at ih'
      simp only [q118_0, q118_1i, q118_1r, q118_1n, q118_3, q118_4, q118_7, q118_10, q118_11, q118_14, q118_15, q118_16, q118_19, q118_20, q118_23, q118_24, q118_25, q118_28, q118_29, q118_30, q118_33, q118_36, q118_37, q118_40, q118_41i, q118_41r, q118_41n, q118_42, q118_43, q118_46, q118_47, q118_48, q118_51, q118_52, q118_55, q118_56, q118_59, q118_60, q118_63, q118_64, q118_67, q118_68, q118_69, q118_70i, q118_70r, q118_70n, q118_73, q118_76, zNC, zcs_0, zcs_i, zcs_r, zcs_l, zpush_0, zpush_i, zpush_l, and_true, true_and, Nat.reduceLT, Nat.reduceLeDiff, Nat.reduceAdd, Nat.reduceMul, reduceIte, ite_true, ite_false, if_true, if_false, not_true_eq_false, not_false_eq_true, false_implies, true_implies, forall_const, implies_true, imp_self, and_self, false_and, and_false, ne_eq, zk_42, zfv_42_0, zf_42_0, zfv_42_1, zf_42_1, zfv_42_2, zf_42_2, zfv_42_3, zfv_42_4, zfv_42_5, zfv_42_6, zfv_42_7, zfv_42_8, zfv_42_9, zf_42_9, zfv_42_10, zf_42_10, zfv_42_11, zf_42_11, zfv_42_12, zfv_42_13, zfv_42_14, zfv_42_15, zfv_42_16, zfv_42_17, zfv_42_18, zf_42_18, zfv_42_19, zf_42_19, zfv_42_20, zfv_42_21, zfv_42_22, zfv_42_23, zf_42_23, zfv_42_24, zfv_42_25, zfv_42_26, zfv_42_27, zfv_42_28, zfv_42_29, zfv_42_30, zfv_42_31, zf_42_31, zk_43, zn_43, zk_44, zn_44, zk_45, zn_45, zk_46, zn_46, zk_47, zn_47, zk_48, zn_48, zk_49, zn_49, zk_50, zn_50, zk_51, zn_51, zk_52, zn_52, zk_53, zn_53, zk_54, zn_54, zk_55, zn_55, zk_56, zn_56, zk_57, zn_57, zk_58, zn_58, zk_59, zn_59, zk_60, zn_60, zk_61, zn_61, zk_62, zn_62, zk_63, zn_63, zk_64, zn_64, e1, h1, hc, hz, e55, e54, e42, eal, c1', nI_1]
      simp [ih']
theorem s_whoDied (hm : R 42 1 = nI h) (h6 : h ≤ 6) : zQ 118 0 [.ref 42, .null, .null] [] R Q ↔ Q none (WD R h) := by
  have e := l_whoDied (Q := Q) hm h6 h 0 .null (by omega)
  rw [WDr_0] at e
  rw [← e]
  simp only [q118_0, q118_1i, q118_1r, q118_1n, q118_3, q118_4, q118_7, q118_10, q118_11, q118_14, q118_15, q118_16, q118_19, q118_20, q118_23, q118_24, q118_25, q118_28, q118_29, q118_30, q118_33, q118_36, q118_37, q118_40, q118_41i, q118_41r, q118_41n, q118_42, q118_43, q118_46, q118_47, q118_48, q118_51, q118_52, q118_55, q118_56, q118_59, q118_60, q118_63, q118_64, q118_67, q118_68, q118_69, q118_70i, q118_70r, q118_70n, q118_73, q118_76, nI_0]
end IV
