-- READINGS, runsAs, actNow, the greatest divisor
def fso (M : zM) (r : Nat) : Prop := fsbk M 1 (M 30 r).toNatClampNeg (M 31 r) = M 32 r
theorem fso_dec (M : zM) : ∀ r, fso M r ∨ ¬ fso M r := fun r => Classical.em _
def zRd (M : zM) (h c : Nat) : Prop := c ≤ 8 ∧ M 29 3 = nI c ∧ ∀ r, r < c → ∃ g, g < h ∧ M 30 r = nI g
noncomputable def zbp (p : Prop) : Int32 := @zb1 p (Classical.propDecidable p)
theorem zbp_t {p : Prop} (h : p) : zbp p = 1 := if_pos h
theorem zbp_f {p : Prop} (h : ¬ p) : zbp p = 0 := if_neg h
theorem zbp_0 {p : Prop} : zbp p = 0 ↔ ¬ p := by by_cases h : p <;> simp [zbp_t, zbp_f, h]
theorem zbp_01 {p : Prop} : (zbp p = 0 ∨ zbp p = 1) ↔ True := by by_cases h : p <;> simp [zbp_t, zbp_f, h]
section RD
variable {M : zM} {Q : zR → zM → Prop} {t k h g o c p : Nat}
theorem l_areSo (hh : M 1 7 = nI h) (h6 : h ≤ 6) (H : zKp M 1 h) (R : zRd M h c) : ∀ d r, r + d = c → (∀ r', r' < r → fso M r') → (zQ 1 2 [.ref 29, .ref 1, .int (nI r)] [] M Q ↔ Q (zI (zbp (∀ r, r < c → fso M r))) M) := by
  obtain ⟨c8, hcn, hg⟩ := R
  intro d
  induction d with
  | zero =>
    intro r hr hok
    obtain rfl : r = c := by omega
    rw [q1_2, zbp_t hok]
    simp only [q1_0, q1_1i, q1_1r, q1_1n, q1_3, q1_4, q1_7, q1_10, q1_11, q1_12, q1_15, q1_16, q1_17, q1_18, q1_21, q1_22, q1_23, q1_26, q1_27, q1_30, q1_31, q1_32, q1_35, q1_36, q1_37i, q1_37r, q1_37n, q1_40, q1_43, q1_44, zNC, zcs_0, zcs_i, zcs_r, zcs_l, zpush_0, zpush_i, zpush_l, and_true, true_and, Nat.reduceLT, Nat.reduceLeDiff, Nat.reduceAdd, Nat.reduceMul, reduceIte, ite_true, ite_false, if_true, if_false, not_true_eq_false, not_false_eq_true, false_implies, true_implies, forall_const, implies_true, imp_self, and_self, false_and, and_false, ne_eq, zk_0, zfv_0_0, zfv_0_1, zfv_0_2, zfv_0_3, zfv_0_4, zfv_0_5, zfv_0_6, zf_0_6, zfv_0_7, zf_0_7, zk_25, zfv_25_0, zfv_25_1, zfv_25_2, zf_25_2, zk_26, zn_26, zk_27, zfv_27_0, zk_28, zn_28, zk_29, zfv_29_0, zfv_29_1, zfv_29_2, zfv_29_3, zf_29_3, zk_30, zn_30, zk_31, zn_31, zk_32, zn_32, zk_33, zn_33, zk_34, zfv_34_0, zfv_34_1, zf_34_1, zfv_34_2, zf_34_2, zfv_34_3, zf_34_3, zk_35, zn_35, zk_36, zfv_36_0, zfv_36_1, zf_36_1, zfv_36_2, zf_36_2, zfv_36_3, zf_36_3, zk_37, zn_37, zk_38, zfv_38_0, zfv_38_1, zf_38_1, zfv_38_2, zf_38_2, zfv_38_3, zf_38_3, zk_39, zn_39, zk_40, zfv_40_0, zfv_40_1, zf_40_1, zfv_40_2, zf_40_2, zfv_40_3, zf_40_3, zk_41, zn_41, zk_1, zfv_1_0, zfv_1_1, zfv_1_2, zfv_1_3, zfv_1_4, zfv_1_5, zfv_1_6, zfv_1_7, zf_1_7, zfv_1_8, zf_1_8, zk_9, zfv_9_0, zfv_9_1, zfv_9_2, zfv_9_3, zfv_9_4, zfv_9_5, zfv_9_6, zfv_9_7, zf_9_7, zfv_9_8, zf_9_8, zk_17, zfv_17_0, zfv_17_1, zfv_17_2, zfv_17_3, zfv_17_4, zfv_17_5, zfv_17_6, zfv_17_7, zf_17_7, zfv_17_8, zf_17_8, zk_2, zn_2, zk_3, zn_3, zk_4, zn_4, zk_5, zn_5, zk_6, zn_6, zk_7, zn_7, zk_8, zn_8, zk_10, zn_10, zk_11, zn_11, zk_12, zn_12, zk_13, zn_13, zk_14, zn_14, zk_15, zn_15, zk_16, zn_16, zk_18, zn_18, zk_19, zn_19, zk_20, zn_20, zk_21, zn_21, zk_22, zn_22, zk_23, zn_23, zk_24, zn_24, hcn, i_le_refl]
    simp
  | succ d ih =>
    intro r hr hok
    have h1 : ¬ nI c ≤ nI r := nI_ge (by omega) (by omega)
    have hc : (nI r).toNatClampNeg = r := nI_clamp (by omega)
    have hz := zin_nI (k := r) (n := 8) (by omega) (by decide)
    obtain ⟨g, g1, g2⟩ := hg r (by omega)
    have e3 : ∀ Q' : zR → zM → Prop, _ := fun Q' => s_sb (M := M) (Q := Q') (t := 1) (Or.inl rfl) h6 H g1 (y := M 31 r)
    have hgc : (nI g).toNatClampNeg = g := nI_clamp (by omega)
    rw [q1_2]
    by_cases hp : fso M r
    · have ih' := ih (r + 1) (by omega) (lt_s hok hp)
      rw [← ih']
      unfold fso at hp
      rw [g2, hgc] at hp
      simp only [q1_0, q1_1i, q1_1r, q1_1n, q1_3, q1_4, q1_7, q1_10, q1_11, q1_12, q1_15, q1_16, q1_17, q1_18, q1_21, q1_22, q1_23, q1_26, q1_27, q1_30, q1_31, q1_32, q1_35, q1_36, q1_37i, q1_37r, q1_37n, q1_40, q1_43, q1_44, zNC, zcs_0, zcs_i, zcs_r, zcs_l, zpush_0, zpush_i, zpush_l, and_true, true_and, Nat.reduceLT, Nat.reduceLeDiff, Nat.reduceAdd, Nat.reduceMul, reduceIte, ite_true, ite_false, if_true, if_false, not_true_eq_false, not_false_eq_true, false_implies, true_implies, forall_const, implies_true, imp_self, and_self, false_and, and_false, ne_eq, zk_0, zfv_0_0, zfv_0_1, zfv_0_2, zfv_0_3, zfv_0_4, zfv_0_5, zfv_0_6, zf_0_6, zfv_0_7, zf_0_7, zk_25, zfv_25_0, zfv_25_1, zfv_25_2, zf_25_2, zk_26, zn_26, zk_27, zfv_27_0, zk_28, zn_28, zk_29, zfv_29_0, zfv_29_1, zfv_29_2, zfv_29_3, zf_29_3, zk_30, zn_30, zk_31, zn_31, zk_32, zn_32, zk_33, zn_33, zk_34, zfv_34_0, zfv_34_1, zf_34_1, zfv_34_2, zf_34_2, zfv_34_3, zf_34_3, zk_35, zn_35, zk_36, zfv_36_0, zfv_36_1, zf_36_1, zfv_36_2, zf_36_2, zfv_36_3, zf_36_3, zk_37, zn_37, zk_38, zfv_38_0, zfv_38_1, zf_38_1, zfv_38_2, zf_38_2, zfv_38_3, zf_38_3, zk_39, zn_39, zk_40, zfv_40_0, zfv_40_1, zf_40_1, zfv_40_2, zf_40_2, zfv_40_3, zf_40_3, zk_41, zn_41, zk_1, zfv_1_0, zfv_1_1, zfv_1_2, zfv_1_3, zfv_1_4, zfv_1_5, zfv_1_6, zfv_1_7, zf_1_7, zfv_1_8, zf_1_8, zk_9, zfv_9_0, zfv_9_1, zfv_9_2, zfv_9_3, zfv_9_4, zfv_9_5, zfv_9_6, zfv_9_7, zf_9_7, zfv_9_8, zf_9_8, zk_17, zfv_17_0, zfv_17_1, zfv_17_2, zfv_17_3, zfv_17_4, zfv_17_5, zfv_17_6, zfv_17_7, zf_17_7, zfv_17_8, zf_17_8, zk_2, zn_2, zk_3, zn_3, zk_4, zn_4, zk_5, zn_5, zk_6, zn_6, zk_7, zn_7, zk_8, zn_8, zk_10, zn_10, zk_11, zn_11, zk_12, zn_12, zk_13, zn_13, zk_14, zn_14, zk_15, zn_15, zk_16, zn_16, zk_18, zn_18, zk_19, zn_19, zk_20, zn_20, zk_21, zn_21, zk_22, zn_22, zk_23, zn_23, zk_24, zn_24, hcn, h1, hc, hz, g2, e3, hp, nI_1]
    · rw [zbp_f (fun hh => hp (hh r (by omega)))]
      unfold fso at hp
      rw [g2, hgc] at hp
      simp only [q1_0, q1_1i, q1_1r, q1_1n, q1_3, q1_4, q1_7, q1_10, q1_11, q1_12, q1_15, q1_16, q1_17, q1_18, q1_21, q1_22, q1_23, q1_26, q1_27, q1_30, q1_31, q1_32, q1_35, q1_36, q1_37i, q1_37r, q1_37n, q1_40, q1_43, q1_44, zNC, zcs_0, zcs_i, zcs_r, zcs_l, zpush_0, zpush_i, zpush_l, and_true, true_and, Nat.reduceLT, Nat.reduceLeDiff, Nat.reduceAdd, Nat.reduceMul, reduceIte, ite_true, ite_false, if_true, if_false, not_true_eq_false, not_false_eq_true, false_implies, true_implies, forall_const, implies_true, imp_self, and_self, false_and, and_false, ne_eq, zk_0, zfv_0_0, zfv_0_1, zfv_0_2, zfv_0_3, zfv_0_4, zfv_0_5, zfv_0_6, zf_0_6, zfv_0_7, zf_0_7, zk_25, zfv_25_0, zfv_25_1, zfv_25_2, zf_25_2, zk_26, zn_26, zk_27, zfv_27_0, zk_28, zn_28, zk_29, zfv_29_0, zfv_29_1, zfv_29_2, zfv_29_3, zf_29_3, zk_30, zn_30, zk_31, zn_31, zk_32, zn_32, zk_33, zn_33, zk_34, zfv_34_0, zfv_34_1, zf_34_1, zfv_34_2, zf_34_2, zfv_34_3, zf_34_3, zk_35, zn_35, zk_36, zfv_36_0, zfv_36_1, zf_36_1, zfv_36_2, zf_36_2, zfv_36_3, zf_36_3, zk_37, zn_37, zk_38, zfv_38_0, zfv_38_1, zf_38_1, zfv_38_2, zf_38_2, zfv_38_3, zf_38_3, zk_39, zn_39, zk_40, zfv_40_0, zfv_40_1, zf_40_1, zfv_40_2, zf_40_2, zfv_40_3, zf_40_3, zk_41, zn_41, zk_1, zfv_1_0, zfv_1_1, zfv_1_2, zfv_1_3, zfv_1_4, zfv_1_5, zfv_1_6, zfv_1_7, zf_1_7, zfv_1_8, zf_1_8, zk_9, zfv_9_0, zfv_9_1, zfv_9_2, zfv_9_3, zfv_9_4, zfv_9_5, zfv_9_6, zfv_9_7, zf_9_7, zfv_9_8, zf_9_8, zk_17, zfv_17_0, zfv_17_1, zfv_17_2, zfv_17_3, zfv_17_4, zfv_17_5, zfv_17_6, zfv_17_7, zf_17_7, zfv_17_8, zf_17_8, zk_2, zn_2, zk_3, zn_3, zk_4, zn_4, zk_5, zn_5, zk_6, zn_6, zk_7, zn_7, zk_8, zn_8, zk_10, zn_10, zk_11, zn_11, zk_12, zn_12, zk_13, zn_13, zk_14, zn_14, zk_15, zn_15, zk_16, zn_16, zk_18, zn_18, zk_19, zn_19, zk_20, zn_20, zk_21, zn_21, zk_22, zn_22, zk_23, zn_23, zk_24, zn_24, hcn, h1, hc, hz, g2, e3, hp]
      simp
theorem s_areSo (hh : M 1 7 = nI h) (h6 : h ≤ 6) (H : zKp M 1 h) (R : zRd M h c) : zQ 1 0 [.ref 29, .ref 1, .null] [] M Q ↔ Q (zI (zbp (∀ r, r < c → fso M r))) M := by
  refine Iff.trans ?_ (l_areSo hh h6 H R c 0 (by omega) (fun _ h => absurd h (Nat.not_lt_zero _)))
  simp only [q1_0, q1_1i, q1_1r, q1_1n, q1_3, q1_4, q1_7, q1_10, q1_11, q1_12, q1_15, q1_16, q1_17, q1_18, q1_21, q1_22, q1_23, q1_26, q1_27, q1_30, q1_31, q1_32, q1_35, q1_36, q1_37i, q1_37r, q1_37n, q1_40, q1_43, q1_44]
  exact Iff.rfl
noncomputable def fsf (M : zM) (p k c : Nat) (v : Nat) : Bool := @decide (∀ r, r < c → fso (zup M p k (nI v)) r) (Classical.propDecidable _)
theorem zup_zup (M : zM) (p k : Nat) (x y : Int32) : zup (zup M p k x) p k y = zup M p k y := by
  funext a
  unfold zup zrow
  split
  · rw [if_pos rfl]; funext i; unfold upd; split <;> rfl
  · rfl
theorem zup_id (M : zM) (p k : Nat) : zup M p k (M p k) = M := by
  funext a
  unfold zup zrow
  split
  · rename_i e; rw [e]; funext i; unfold upd; split
    · rename_i e2; rw [e2]
    · rfl
  · rfl
abbrev zPt (p : Nat) : Prop := p = 2 ∨ p = 5 ∨ p = 7
theorem l_setThatFits (hp : zPt p) (hk : k < 6) (hh : M 1 7 = nI h) (h6 : h ≤ 6) (b : Nat) (hb : b ≤ 10) (H : ∀ v, v < b → zKp (zup M p k (nI v)) 1 h) (R : zRd M h c) : ∀ d v x, v + d = b → (zQ 2 11 [.ref 29, .ref 1, .ref p, .int (nI k), .int (nI b), .int (M p k), .int (bset (fsf M p k c) v), .int (nI v)] [] (zup M p k x) Q ↔ Q (zI (bset (fsf M p k c) b)) M) := by
  have hc : (nI k).toNatClampNeg = k := nI_clamp (by omega)
  have hz := zin_nI (k := k) (n := 6) hk (by decide)
  intro d
  induction d with
  | zero =>
    intro v x hv
    obtain rfl : v = b := by omega
    rw [q2_11]
    rcases hp with rfl | rfl | rfl <;> simp only [q2_0, q2_1, q2_2, q2_3i, q2_3r, q2_3n, q2_5, q2_6i, q2_6r, q2_6n, q2_8, q2_9i, q2_9r, q2_9n, q2_13, q2_15, q2_18, q2_19, q2_20, q2_22, q2_23, q2_24, q2_25, q2_28, q2_31, q2_33, q2_34, q2_36, q2_37, q2_38i, q2_38r, q2_38n, q2_40i, q2_40r, q2_40n, q2_43, q2_46, q2_47, q2_48, q2_50, q2_51, q2_53, zNC, zcs_0, zcs_i, zcs_r, zcs_l, zpush_0, zpush_i, zpush_l, and_true, true_and, Nat.reduceLT, Nat.reduceLeDiff, Nat.reduceAdd, Nat.reduceMul, reduceIte, ite_true, ite_false, if_true, if_false, not_true_eq_false, not_false_eq_true, false_implies, true_implies, forall_const, implies_true, imp_self, and_self, false_and, and_false, ne_eq, zk_0, zfv_0_0, zfv_0_1, zfv_0_2, zfv_0_3, zfv_0_4, zfv_0_5, zfv_0_6, zf_0_6, zfv_0_7, zf_0_7, zk_25, zfv_25_0, zfv_25_1, zfv_25_2, zf_25_2, zk_26, zn_26, zk_27, zfv_27_0, zk_28, zn_28, zk_29, zfv_29_0, zfv_29_1, zfv_29_2, zfv_29_3, zf_29_3, zk_30, zn_30, zk_31, zn_31, zk_32, zn_32, zk_33, zn_33, zk_34, zfv_34_0, zfv_34_1, zf_34_1, zfv_34_2, zf_34_2, zfv_34_3, zf_34_3, zk_35, zn_35, zk_36, zfv_36_0, zfv_36_1, zf_36_1, zfv_36_2, zf_36_2, zfv_36_3, zf_36_3, zk_37, zn_37, zk_38, zfv_38_0, zfv_38_1, zf_38_1, zfv_38_2, zf_38_2, zfv_38_3, zf_38_3, zk_39, zn_39, zk_40, zfv_40_0, zfv_40_1, zf_40_1, zfv_40_2, zf_40_2, zfv_40_3, zf_40_3, zk_41, zn_41, zk_1, zfv_1_0, zfv_1_1, zfv_1_2, zfv_1_3, zfv_1_4, zfv_1_5, zfv_1_6, zfv_1_7, zf_1_7, zfv_1_8, zf_1_8, zk_9, zfv_9_0, zfv_9_1, zfv_9_2, zfv_9_3, zfv_9_4, zfv_9_5, zfv_9_6, zfv_9_7, zf_9_7, zfv_9_8, zf_9_8, zk_17, zfv_17_0, zfv_17_1, zfv_17_2, zfv_17_3, zfv_17_4, zfv_17_5, zfv_17_6, zfv_17_7, zf_17_7, zfv_17_8, zf_17_8, zk_2, zn_2, zk_3, zn_3, zk_4, zn_4, zk_5, zn_5, zk_6, zn_6, zk_7, zn_7, zk_8, zn_8, zk_10, zn_10, zk_11, zn_11, zk_12, zn_12, zk_13, zn_13, zk_14, zn_14, zk_15, zn_15, zk_16, zn_16, zk_18, zn_18, zk_19, zn_19, zk_20, zn_20, zk_21, zn_21, zk_22, zn_22, zk_23, zn_23, zk_24, zn_24, i_le_refl, hc, hz, zup_zup, zup_id]
  | succ d ih =>
    intro v x hv
    have h1 : ¬ nI b ≤ nI v := nI_ge (by omega) (by omega)
    have hp1 : (1 : Nat) ≠ p := by rcases hp with rfl | rfl | rfl <;> omega
    have hp2 : (29 : Nat) ≠ p := by rcases hp with rfl | rfl | rfl <;> omega
    have hp3 : (30 : Nat) ≠ p := by rcases hp with rfl | rfl | rfl <;> omega
    have e1 : ∀ Q' : zR → zM → Prop, zQ 1 0 [.ref 29, .ref 1, .null] [] (zup M p k (nI v)) Q' ↔ Q' (zI (zbp (∀ r, r < c → fso (zup M p k (nI v)) r))) (zup M p k (nI v)) := fun Q' => s_areSo (by rw [show zup M p k (nI v) 1 = M 1 from zrow_ne _ _ hp1]; exact hh) h6 (H v (by omega)) ⟨R.1, by rw [show zup M p k (nI v) 29 = M 29 from zrow_ne _ _ hp2]; exact R.2.1, by rw [show zup M p k (nI v) 30 = M 30 from zrow_ne _ _ hp3]; exact R.2.2⟩
    have ih' := ih (v + 1) (nI v) (by omega)
    rw [q2_11]
    rw [← ih']
    simp only [bset]
    by_cases hf : ∀ r, r < c → fso (zup M p k (nI v)) r
    · have hf2 : fsf M p k c v = true := by unfold fsf; exact @decide_eq_true _ (Classical.propDecidable _) hf
      rw [if_pos hf2]
      rw [zbp_t hf] at e1
      rcases hp with rfl | rfl | rfl <;> simp only [q2_0, q2_1, q2_2, q2_3i, q2_3r, q2_3n, q2_5, q2_6i, q2_6r, q2_6n, q2_8, q2_9i, q2_9r, q2_9n, q2_13, q2_15, q2_18, q2_19, q2_20, q2_22, q2_23, q2_24, q2_25, q2_28, q2_31, q2_33, q2_34, q2_36, q2_37, q2_38i, q2_38r, q2_38n, q2_40i, q2_40r, q2_40n, q2_43, q2_46, q2_47, q2_48, q2_50, q2_51, q2_53, zNC, zcs_0, zcs_i, zcs_r, zcs_l, zpush_0, zpush_i, zpush_l, and_true, true_and, Nat.reduceLT, Nat.reduceLeDiff, Nat.reduceAdd, Nat.reduceMul, reduceIte, ite_true, ite_false, if_true, if_false, not_true_eq_false, not_false_eq_true, false_implies, true_implies, forall_const, implies_true, imp_self, and_self, false_and, and_false, ne_eq, zk_0, zfv_0_0, zfv_0_1, zfv_0_2, zfv_0_3, zfv_0_4, zfv_0_5, zfv_0_6, zf_0_6, zfv_0_7, zf_0_7, zk_25, zfv_25_0, zfv_25_1, zfv_25_2, zf_25_2, zk_26, zn_26, zk_27, zfv_27_0, zk_28, zn_28, zk_29, zfv_29_0, zfv_29_1, zfv_29_2, zfv_29_3, zf_29_3, zk_30, zn_30, zk_31, zn_31, zk_32, zn_32, zk_33, zn_33, zk_34, zfv_34_0, zfv_34_1, zf_34_1, zfv_34_2, zf_34_2, zfv_34_3, zf_34_3, zk_35, zn_35, zk_36, zfv_36_0, zfv_36_1, zf_36_1, zfv_36_2, zf_36_2, zfv_36_3, zf_36_3, zk_37, zn_37, zk_38, zfv_38_0, zfv_38_1, zf_38_1, zfv_38_2, zf_38_2, zfv_38_3, zf_38_3, zk_39, zn_39, zk_40, zfv_40_0, zfv_40_1, zf_40_1, zfv_40_2, zf_40_2, zfv_40_3, zf_40_3, zk_41, zn_41, zk_1, zfv_1_0, zfv_1_1, zfv_1_2, zfv_1_3, zfv_1_4, zfv_1_5, zfv_1_6, zfv_1_7, zf_1_7, zfv_1_8, zf_1_8, zk_9, zfv_9_0, zfv_9_1, zfv_9_2, zfv_9_3, zfv_9_4, zfv_9_5, zfv_9_6, zfv_9_7, zf_9_7, zfv_9_8, zf_9_8, zk_17, zfv_17_0, zfv_17_1, zfv_17_2, zfv_17_3, zfv_17_4, zfv_17_5, zfv_17_6, zfv_17_7, zf_17_7, zfv_17_8, zf_17_8, zk_2, zn_2, zk_3, zn_3, zk_4, zn_4, zk_5, zn_5, zk_6, zn_6, zk_7, zn_7, zk_8, zn_8, zk_10, zn_10, zk_11, zn_11, zk_12, zn_12, zk_13, zn_13, zk_14, zn_14, zk_15, zn_15, zk_16, zn_16, zk_18, zn_18, zk_19, zn_19, zk_20, zn_20, zk_21, zn_21, zk_22, zn_22, zk_23, zn_23, zk_24, zn_24, h1, hc, hz, zup_zup, e1, nI_1] <;> simp
    · have hf2 : ¬ fsf M p k c v = true := by unfold fsf; exact fun h => hf (@of_decide_eq_true _ (Classical.propDecidable _) h)
      rw [if_neg hf2]
      rw [zbp_f hf] at e1
      rcases hp with rfl | rfl | rfl <;> simp only [q2_0, q2_1, q2_2, q2_3i, q2_3r, q2_3n, q2_5, q2_6i, q2_6r, q2_6n, q2_8, q2_9i, q2_9r, q2_9n, q2_13, q2_15, q2_18, q2_19, q2_20, q2_22, q2_23, q2_24, q2_25, q2_28, q2_31, q2_33, q2_34, q2_36, q2_37, q2_38i, q2_38r, q2_38n, q2_40i, q2_40r, q2_40n, q2_43, q2_46, q2_47, q2_48, q2_50, q2_51, q2_53, zNC, zcs_0, zcs_i, zcs_r, zcs_l, zpush_0, zpush_i, zpush_l, and_true, true_and, Nat.reduceLT, Nat.reduceLeDiff, Nat.reduceAdd, Nat.reduceMul, reduceIte, ite_true, ite_false, if_true, if_false, not_true_eq_false, not_false_eq_true, false_implies, true_implies, forall_const, implies_true, imp_self, and_self, false_and, and_false, ne_eq, zk_0, zfv_0_0, zfv_0_1, zfv_0_2, zfv_0_3, zfv_0_4, zfv_0_5, zfv_0_6, zf_0_6, zfv_0_7, zf_0_7, zk_25, zfv_25_0, zfv_25_1, zfv_25_2, zf_25_2, zk_26, zn_26, zk_27, zfv_27_0, zk_28, zn_28, zk_29, zfv_29_0, zfv_29_1, zfv_29_2, zfv_29_3, zf_29_3, zk_30, zn_30, zk_31, zn_31, zk_32, zn_32, zk_33, zn_33, zk_34, zfv_34_0, zfv_34_1, zf_34_1, zfv_34_2, zf_34_2, zfv_34_3, zf_34_3, zk_35, zn_35, zk_36, zfv_36_0, zfv_36_1, zf_36_1, zfv_36_2, zf_36_2, zfv_36_3, zf_36_3, zk_37, zn_37, zk_38, zfv_38_0, zfv_38_1, zf_38_1, zfv_38_2, zf_38_2, zfv_38_3, zf_38_3, zk_39, zn_39, zk_40, zfv_40_0, zfv_40_1, zf_40_1, zfv_40_2, zf_40_2, zfv_40_3, zf_40_3, zk_41, zn_41, zk_1, zfv_1_0, zfv_1_1, zfv_1_2, zfv_1_3, zfv_1_4, zfv_1_5, zfv_1_6, zfv_1_7, zf_1_7, zfv_1_8, zf_1_8, zk_9, zfv_9_0, zfv_9_1, zfv_9_2, zfv_9_3, zfv_9_4, zfv_9_5, zfv_9_6, zfv_9_7, zf_9_7, zfv_9_8, zf_9_8, zk_17, zfv_17_0, zfv_17_1, zfv_17_2, zfv_17_3, zfv_17_4, zfv_17_5, zfv_17_6, zfv_17_7, zf_17_7, zfv_17_8, zf_17_8, zk_2, zn_2, zk_3, zn_3, zk_4, zn_4, zk_5, zn_5, zk_6, zn_6, zk_7, zn_7, zk_8, zn_8, zk_10, zn_10, zk_11, zn_11, zk_12, zn_12, zk_13, zn_13, zk_14, zn_14, zk_15, zn_15, zk_16, zn_16, zk_18, zn_18, zk_19, zn_19, zk_20, zn_20, zk_21, zn_21, zk_22, zn_22, zk_23, zn_23, zk_24, zn_24, h1, hc, hz, zup_zup, e1, nI_1] <;> simp
theorem s_setThatFits (hp : zPt p) (hk : k < 6) (hh : M 1 7 = nI h) (h6 : h ≤ 6) (b : Nat) (hb : b ≤ 10) (H : ∀ v, v < b → zKp (zup M p k (nI v)) 1 h) (R : zRd M h c) : zQ 2 0 [.ref 29, .ref 1, .ref p, .int (nI k), .int (nI b), .null, .null, .null] [] M Q ↔ Q (zI (bset (fsf M p k c) b)) M := by
  have hc : (nI k).toNatClampNeg = k := nI_clamp (by omega)
  have hz := zin_nI (k := k) (n := 6) hk (by decide)
  refine Iff.trans ?_ (l_setThatFits hp hk hh h6 b hb H R b 0 (M p k) (by omega))
  rw [zup_id]
  rcases hp with rfl | rfl | rfl <;> simp only [q2_0, q2_1, q2_2, q2_3i, q2_3r, q2_3n, q2_5, q2_6i, q2_6r, q2_6n, q2_8, q2_9i, q2_9r, q2_9n, q2_13, q2_15, q2_18, q2_19, q2_20, q2_22, q2_23, q2_24, q2_25, q2_28, q2_31, q2_33, q2_34, q2_36, q2_37, q2_38i, q2_38r, q2_38n, q2_40i, q2_40r, q2_40n, q2_43, q2_46, q2_47, q2_48, q2_50, q2_51, q2_53, zNC, zcs_0, zcs_i, zcs_r, zcs_l, zpush_0, zpush_i, zpush_l, and_true, true_and, Nat.reduceLT, Nat.reduceLeDiff, Nat.reduceAdd, Nat.reduceMul, reduceIte, ite_true, ite_false, if_true, if_false, not_true_eq_false, not_false_eq_true, false_implies, true_implies, forall_const, implies_true, imp_self, and_self, false_and, and_false, ne_eq, zk_0, zfv_0_0, zfv_0_1, zfv_0_2, zfv_0_3, zfv_0_4, zfv_0_5, zfv_0_6, zf_0_6, zfv_0_7, zf_0_7, zk_25, zfv_25_0, zfv_25_1, zfv_25_2, zf_25_2, zk_26, zn_26, zk_27, zfv_27_0, zk_28, zn_28, zk_29, zfv_29_0, zfv_29_1, zfv_29_2, zfv_29_3, zf_29_3, zk_30, zn_30, zk_31, zn_31, zk_32, zn_32, zk_33, zn_33, zk_34, zfv_34_0, zfv_34_1, zf_34_1, zfv_34_2, zf_34_2, zfv_34_3, zf_34_3, zk_35, zn_35, zk_36, zfv_36_0, zfv_36_1, zf_36_1, zfv_36_2, zf_36_2, zfv_36_3, zf_36_3, zk_37, zn_37, zk_38, zfv_38_0, zfv_38_1, zf_38_1, zfv_38_2, zf_38_2, zfv_38_3, zf_38_3, zk_39, zn_39, zk_40, zfv_40_0, zfv_40_1, zf_40_1, zfv_40_2, zf_40_2, zfv_40_3, zf_40_3, zk_41, zn_41, zk_1, zfv_1_0, zfv_1_1, zfv_1_2, zfv_1_3, zfv_1_4, zfv_1_5, zfv_1_6, zfv_1_7, zf_1_7, zfv_1_8, zf_1_8, zk_9, zfv_9_0, zfv_9_1, zfv_9_2, zfv_9_3, zfv_9_4, zfv_9_5, zfv_9_6, zfv_9_7, zf_9_7, zfv_9_8, zf_9_8, zk_17, zfv_17_0, zfv_17_1, zfv_17_2, zfv_17_3, zfv_17_4, zfv_17_5, zfv_17_6, zfv_17_7, zf_17_7, zfv_17_8, zf_17_8, zk_2, zn_2, zk_3, zn_3, zk_4, zn_4, zk_5, zn_5, zk_6, zn_6, zk_7, zn_7, zk_8, zn_8, zk_10, zn_10, zk_11, zn_11, zk_12, zn_12, zk_13, zn_13, zk_14, zn_14, zk_15, zn_15, zk_16, zn_16, zk_18, zn_18, zk_19, zn_19, zk_20, zn_20, zk_21, zn_21, zk_22, zn_22, zk_23, zn_23, zk_24, zn_24, hc, hz, bset, nI_0]
theorem s_add (hc8 : c < 8) (hcn : M 29 3 = nI c) {x y z : Int32} : zQ 0 0 [.ref 29, .int x, .int y, .int z] [] M Q ↔ Q (zI (nI c)) (zup (zup (zup (zup M 30 c x) 31 c y) 32 c z) 29 3 (nI (c + 1))) := by
  have hc : (nI c).toNatClampNeg = c := nI_clamp (by omega)
  have hz := zin_nI (k := c) (n := 8) hc8 (by decide)
  have e : nI (c + 1) - 1 = nI c := nI_pred c
  simp only [q0_0, q0_1, q0_4, q0_5, q0_8, q0_9, q0_10, q0_11, q0_14, q0_15, q0_18, q0_19, q0_20, q0_21, q0_24, q0_25, q0_28, q0_29, q0_30, q0_31, q0_32, q0_35, q0_36, q0_37, q0_40, q0_41, q0_44, q0_45, q0_46, zNC, zcs_0, zcs_i, zcs_r, zcs_l, zpush_0, zpush_i, zpush_l, and_true, true_and, Nat.reduceLT, Nat.reduceLeDiff, Nat.reduceAdd, Nat.reduceMul, reduceIte, ite_true, ite_false, if_true, if_false, not_true_eq_false, not_false_eq_true, false_implies, true_implies, forall_const, implies_true, imp_self, and_self, false_and, and_false, ne_eq, zk_0, zfv_0_0, zfv_0_1, zfv_0_2, zfv_0_3, zfv_0_4, zfv_0_5, zfv_0_6, zf_0_6, zfv_0_7, zf_0_7, zk_25, zfv_25_0, zfv_25_1, zfv_25_2, zf_25_2, zk_26, zn_26, zk_27, zfv_27_0, zk_28, zn_28, zk_29, zfv_29_0, zfv_29_1, zfv_29_2, zfv_29_3, zf_29_3, zk_30, zn_30, zk_31, zn_31, zk_32, zn_32, zk_33, zn_33, zk_34, zfv_34_0, zfv_34_1, zf_34_1, zfv_34_2, zf_34_2, zfv_34_3, zf_34_3, zk_35, zn_35, zk_36, zfv_36_0, zfv_36_1, zf_36_1, zfv_36_2, zf_36_2, zfv_36_3, zf_36_3, zk_37, zn_37, zk_38, zfv_38_0, zfv_38_1, zf_38_1, zfv_38_2, zf_38_2, zfv_38_3, zf_38_3, zk_39, zn_39, zk_40, zfv_40_0, zfv_40_1, zf_40_1, zfv_40_2, zf_40_2, zfv_40_3, zf_40_3, zk_41, zn_41, hcn, hc, hz, zup_app, nI_1, e]
  simp [e, hcn, hc, hz, zup_app, nI_1]
def fgd (a b : Nat) : Nat → Nat
  | 0 => 1
  | d + 1 => if d + 1 ≤ 1 then 1 else if a % (d + 1) = 0 ∧ b % (d + 1) = 0 then d + 1 else fgd a b d
theorem l_gd {a b : Nat} (ha : a < 10) (hb : b < 10) : ∀ d, d < 10 → (zQ 75 2 [.int (nI a), .int (nI b), .int (nI d)] [] M Q ↔ Q (zI (nI (fgd a b d))) M) := by
  intro d
  induction d with
  | zero =>
    intro _
    rw [q75_2]
    have h1 : nI 0 ≤ 1 := by decide
    simp only [q75_0, q75_1i, q75_1r, q75_1n, q75_3, q75_4, q75_7, q75_8, q75_9, q75_10, q75_13, q75_14, q75_15, q75_16, q75_19, q75_20, q75_21i, q75_21r, q75_21n, q75_24, q75_27, q75_28, zNC, zcs_0, zcs_i, zcs_r, zcs_l, zpush_0, zpush_i, zpush_l, and_true, true_and, Nat.reduceLT, Nat.reduceLeDiff, Nat.reduceAdd, Nat.reduceMul, reduceIte, ite_true, ite_false, if_true, if_false, not_true_eq_false, not_false_eq_true, false_implies, true_implies, forall_const, implies_true, imp_self, and_self, false_and, and_false, ne_eq, zk_0, zfv_0_0, zfv_0_1, zfv_0_2, zfv_0_3, zfv_0_4, zfv_0_5, zfv_0_6, zf_0_6, zfv_0_7, zf_0_7, zk_25, zfv_25_0, zfv_25_1, zfv_25_2, zf_25_2, zk_26, zn_26, zk_27, zfv_27_0, zk_28, zn_28, zk_29, zfv_29_0, zfv_29_1, zfv_29_2, zfv_29_3, zf_29_3, zk_30, zn_30, zk_31, zn_31, zk_32, zn_32, zk_33, zn_33, zk_34, zfv_34_0, zfv_34_1, zf_34_1, zfv_34_2, zf_34_2, zfv_34_3, zf_34_3, zk_35, zn_35, zk_36, zfv_36_0, zfv_36_1, zf_36_1, zfv_36_2, zf_36_2, zfv_36_3, zf_36_3, zk_37, zn_37, zk_38, zfv_38_0, zfv_38_1, zf_38_1, zfv_38_2, zf_38_2, zfv_38_3, zf_38_3, zk_39, zn_39, zk_40, zfv_40_0, zfv_40_1, zf_40_1, zfv_40_2, zf_40_2, zfv_40_3, zf_40_3, zk_41, zn_41, h1, fgd]
    exact Iff.rfl
  | succ d ih =>
    intro hd
    rw [q75_2]
    simp only [fgd]
    by_cases h1 : d + 1 ≤ 1
    · have h2 : nI (d + 1) ≤ 1 := nI_le (a := d + 1) (b := 1) h1 (by omega)
      simp only [q75_0, q75_1i, q75_1r, q75_1n, q75_3, q75_4, q75_7, q75_8, q75_9, q75_10, q75_13, q75_14, q75_15, q75_16, q75_19, q75_20, q75_21i, q75_21r, q75_21n, q75_24, q75_27, q75_28, zNC, zcs_0, zcs_i, zcs_r, zcs_l, zpush_0, zpush_i, zpush_l, and_true, true_and, Nat.reduceLT, Nat.reduceLeDiff, Nat.reduceAdd, Nat.reduceMul, reduceIte, ite_true, ite_false, if_true, if_false, not_true_eq_false, not_false_eq_true, false_implies, true_implies, forall_const, implies_true, imp_self, and_self, false_and, and_false, ne_eq, zk_0, zfv_0_0, zfv_0_1, zfv_0_2, zfv_0_3, zfv_0_4, zfv_0_5, zfv_0_6, zf_0_6, zfv_0_7, zf_0_7, zk_25, zfv_25_0, zfv_25_1, zfv_25_2, zf_25_2, zk_26, zn_26, zk_27, zfv_27_0, zk_28, zn_28, zk_29, zfv_29_0, zfv_29_1, zfv_29_2, zfv_29_3, zf_29_3, zk_30, zn_30, zk_31, zn_31, zk_32, zn_32, zk_33, zn_33, zk_34, zfv_34_0, zfv_34_1, zf_34_1, zfv_34_2, zf_34_2, zfv_34_3, zf_34_3, zk_35, zn_35, zk_36, zfv_36_0, zfv_36_1, zf_36_1, zfv_36_2, zf_36_2, zfv_36_3, zf_36_3, zk_37, zn_37, zk_38, zfv_38_0, zfv_38_1, zf_38_1, zfv_38_2, zf_38_2, zfv_38_3, zf_38_3, zk_39, zn_39, zk_40, zfv_40_0, zfv_40_1, zf_40_1, zfv_40_2, zf_40_2, zfv_40_3, zf_40_3, zk_41, zn_41, h1, h2]
      exact Iff.rfl
    · have h2 : ¬ nI (d + 1) ≤ 1 := nI_ge (a := 1) (b := d + 1) (by omega) (by omega)
      have h3 : ¬ nI (d + 1) = 0 := nI_ne0 (by omega) (by omega)
      have e1 : nI a - nI a / nI (d + 1) * nI (d + 1) = nI (a % (d + 1)) := pk_rem (by omega) (by omega) (by omega)
      have e2 : nI b - nI b / nI (d + 1) * nI (d + 1) = nI (b % (d + 1)) := pk_rem (by omega) (by omega) (by omega)
      have e3 : nI (a % (d + 1)) = 0 ↔ a % (d + 1) = 0 := nI_eq (a := a % (d + 1)) (b := 0) (by have := Nat.mod_lt a (show 0 < d + 1 by omega); omega) (by omega)
      have e4 : nI (b % (d + 1)) = 0 ↔ b % (d + 1) = 0 := nI_eq (a := b % (d + 1)) (b := 0) (by have := Nat.mod_lt b (show 0 < d + 1 by omega); omega) (by omega)
      have e5 : nI (d + 1) + -1 = nI d := pk_m1 d
      simp only [q75_0, q75_1i, q75_1r, q75_1n, q75_3, q75_4, q75_7, q75_8, q75_9, q75_10, q75_13, q75_14, q75_15, q75_16, q75_19, q75_20, q75_21i, q75_21r, q75_21n, q75_24, q75_27, q75_28, zNC, zcs_0, zcs_i, zcs_r, zcs_l, zpush_0, zpush_i, zpush_l, and_true, true_and, Nat.reduceLT, Nat.reduceLeDiff, Nat.reduceAdd, Nat.reduceMul, reduceIte, ite_true, ite_false, if_true, if_false, not_true_eq_false, not_false_eq_true, false_implies, true_implies, forall_const, implies_true, imp_self, and_self, false_and, and_false, ne_eq, zk_0, zfv_0_0, zfv_0_1, zfv_0_2, zfv_0_3, zfv_0_4, zfv_0_5, zfv_0_6, zf_0_6, zfv_0_7, zf_0_7, zk_25, zfv_25_0, zfv_25_1, zfv_25_2, zf_25_2, zk_26, zn_26, zk_27, zfv_27_0, zk_28, zn_28, zk_29, zfv_29_0, zfv_29_1, zfv_29_2, zfv_29_3, zf_29_3, zk_30, zn_30, zk_31, zn_31, zk_32, zn_32, zk_33, zn_33, zk_34, zfv_34_0, zfv_34_1, zf_34_1, zfv_34_2, zf_34_2, zfv_34_3, zf_34_3, zk_35, zn_35, zk_36, zfv_36_0, zfv_36_1, zf_36_1, zfv_36_2, zf_36_2, zfv_36_3, zf_36_3, zk_37, zn_37, zk_38, zfv_38_0, zfv_38_1, zf_38_1, zfv_38_2, zf_38_2, zfv_38_3, zf_38_3, zk_39, zn_39, zk_40, zfv_40_0, zfv_40_1, zf_40_1, zfv_40_2, zf_40_2, zfv_40_3, zf_40_3, zk_41, zn_41, h1, h2, h3, e1, e2, e3, e4, e5, ih (by omega)]
      by_cases c1 : a % (d + 1) = 0 <;> by_cases c2 : b % (d + 1) = 0 <;> simp [c1, c2]
theorem s_gd {a b : Nat} (ha : a < 10) (hb : b < 10) : zQ 75 0 [.int (nI a), .int (nI b), .null] [] M Q ↔ Q (zI (nI (fgd a b a))) M := by
  refine Iff.trans ?_ (l_gd ha hb a ha)
  simp only [q75_0, q75_1i, q75_1r, q75_1n, q75_3, q75_4, q75_7, q75_8, q75_9, q75_10, q75_13, q75_14, q75_15, q75_16, q75_19, q75_20, q75_21i, q75_21r, q75_21n, q75_24, q75_27, q75_28]
end RD
