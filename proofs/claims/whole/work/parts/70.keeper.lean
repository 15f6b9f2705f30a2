-- KEEPING: the class reads the row off its table
section IV
variable {M M' N : zM} {h y lw c k t a b n m d w g j gl : Nat} {Q : zR → zM → Prop} {x x1 x2 x3 ch : Int32} {L : Nat → Nat → Nat} {r : List Nat}
theorem s_fom (hh : M 1 7 = nI h) (h6 : h ≤ 6) (hk : k < h) (hw : w < 64) : zQ 6 0 [.ref 27, .ref 1, .int (nI k), .int (nI w), .null, .null] [] M Q ↔ Q (zI (fho M k w h 0)) M := by
  have e := l_firstOfMost (Q := Q) hh h6 hk hw h 0 .null (by omega)
  rw [← e]
  simp only [q6_0, q6_1i, q6_1r, q6_1n, q6_5, q6_6, q6_9, q6_12, q6_13, q6_14, q6_15, q6_17, q6_18, q6_21i, q6_21r, q6_21n, q6_23, q6_25, q6_26, q6_29, q6_31, q6_32, q6_35, q6_36, q6_37, q6_40, q6_42, q6_43i, q6_43r, q6_43n, q6_46, q6_49, q6_51, nI_0]
theorem l_keeperFor (T : JT M h y lw) (hN : ∀ e, e ≠ 28 → N e = M e) (hTb : ∀ w, w < 2 ^ h → N 28 w = tv (Bt h (LW M h) (h - fpop 6 w) w)) (hgl : gl < h) : ∀ d k w (p : Nat × List Nat) (ch : Int32), k + d = gl + 1 → Bt h (LW M h) (h - k) w = some p → fpop 6 w = k → w < 2 ^ h → (zQ 5 9 [.ref 27, .int (nI gl), .ref 1, .int (nI w), .int ch, .int (nI k)] [] N Q ↔ Q (zI (if d = 0 then ch else nI (p.2.getD (d - 1) 0))) N) := by
  have h6 := T.2.2.2.2.2.2.1
  have h64 : 2 ^ h ≤ 2 ^ 6 := Nat.pow_le_pow_right (by omega) h6
  intro d
  induction d with
  | zero =>
    intro k w p ch hk hp hpop hw
    have h1 : nI gl < nI k := nI_lt (by omega) (by omega)
    rw [if_pos rfl, q5_9]
    simp only [q5_0, q5_1i, q5_1r, q5_1n, q5_2, q5_4i, q5_4r, q5_4n, q5_6, q5_7i, q5_7r, q5_7n, q5_11, q5_12, q5_15, q5_16, q5_17, q5_19, q5_20, q5_23i, q5_23r, q5_23n, q5_25, q5_27, q5_29, q5_32, q5_34, q5_35, q5_36, q5_37, q5_39, q5_40, q5_41i, q5_41r, q5_41n, q5_42i, q5_42r, q5_42n, q5_45, q5_48, q5_50, zNC, zcs_0, zcs_i, zcs_r, zcs_l, zpush_0, zpush_i, zpush_l, and_true, true_and, Nat.reduceLT, Nat.reduceLeDiff, Nat.reduceAdd, Nat.reduceMul, reduceIte, ite_true, ite_false, if_true, if_false, not_true_eq_false, not_false_eq_true, false_implies, true_implies, forall_const, implies_true, imp_self, and_self, false_and, and_false, ne_eq, zk_0, zfv_0_0, zfv_0_1, zfv_0_2, zfv_0_3, zfv_0_4, zfv_0_5, zfv_0_6, zf_0_6, zfv_0_7, zf_0_7, zk_25, zfv_25_0, zfv_25_1, zfv_25_2, zf_25_2, zk_26, zn_26, zk_27, zfv_27_0, zk_28, zn_28, zk_29, zfv_29_0, zfv_29_1, zfv_29_2, zfv_29_3, zf_29_3, zk_30, zn_30, zk_31, zn_31, zk_32, zn_32, zk_33, zn_33, zk_34, zfv_34_0, zfv_34_1, zf_34_1, zfv_34_2, zf_34_2, zfv_34_3, zf_34_3, zk_35, zn_35, zk_36, zfv_36_0, zfv_36_1, zf_36_1, zfv_36_2, zf_36_2, zfv_36_3, zf_36_3, zk_37, zn_37, zk_38, zfv_38_0, zfv_38_1, zf_38_1, zfv_38_2, zf_38_2, zfv_38_3, zf_38_3, zk_39, zn_39, zk_40, zfv_40_0, zfv_40_1, zf_40_1, zfv_40_2, zf_40_2, zfv_40_3, zf_40_3, zk_41, zn_41, zk_1, zfv_1_0, zfv_1_1, zfv_1_2, zfv_1_3, zfv_1_4, zfv_1_5, zfv_1_6, zfv_1_7, zf_1_7, zfv_1_8, zf_1_8, zk_9, zfv_9_0, zfv_9_1, zfv_9_2, zfv_9_3, zfv_9_4, zfv_9_5, zfv_9_6, zfv_9_7, zf_9_7, zfv_9_8, zf_9_8, zk_17, zfv_17_0, zfv_17_1, zfv_17_2, zfv_17_3, zfv_17_4, zfv_17_5, zfv_17_6, zfv_17_7, zf_17_7, zfv_17_8, zf_17_8, zk_2, zn_2, zk_3, zn_3, zk_4, zn_4, zk_5, zn_5, zk_6, zn_6, zk_7, zn_7, zk_8, zn_8, zk_10, zn_10, zk_11, zn_11, zk_12, zn_12, zk_13, zn_13, zk_14, zn_14, zk_15, zn_15, zk_16, zn_16, zk_18, zn_18, zk_19, zn_19, zk_20, zn_20, zk_21, zn_21, zk_22, zn_22, zk_23, zn_23, zk_24, zn_24, h1]
  | succ d ih =>
    intro k w p ch hk hp hpop hw
    have h1 : ¬ nI gl < nI k := nI_nlt (by omega) (by omega)
    obtain ⟨d', hd'⟩ : ∃ d', k + (d' + 1) = h := ⟨h - k - 1, by omega⟩
    have ed : h - k = d' + 1 := by omega
    rw [ed, Bt_Fn] at hp
    obtain ⟨g, hg, f1, f2⟩ := Bn_at h p.1 p.2 hp
    have hT : ∀ g, g < h → ¬ w.testBit g = true → N 28 (w ||| 2 ^ g) = tv (Bt h (LW M h) d' (w ||| 2 ^ g)) := fun g hg hb => by
      obtain ⟨p1, p2⟩ := pop_set w (by omega) g (by omega) hb
      rw [hTb _ (or_lt2 h h6 w (by omega) hw g (by omega) hg), p1, hpop, show h - (k + 1) = d' by omega]
    have hfo : fho N k w h 0 = nI g := fho_at (f := Fn h (LW M h) d' w) (p := p) (fun g hg => flb_tv T hN hw hpop hd' hT hg) (by rw [hTb w hw, hpop, ed, Bt_Fn, hp]) (fun g hg q hq => by have := Fn_bd (LW_99 T) hq; omega) hg f1 f2 h 0 (by omega) (by omega)
    have hh : N 1 7 = nI h := by rw [hN 1 (by decide)]; exact T.1
    have e1 : ∀ Q' : zR → zM → Prop, _ := fun Q' => s_fom (M := N) (Q := Q') hh h6 (show k < h by omega) (show w < 64 by omega)
    rw [hfo] at e1
    have g9 : ¬ nI g = -9 := fun e => by
      have t1 : (nI g).toInt = g := nI_toInt (by omega)
      rw [e] at t1
      simp only [zt_m9] at t1
      omega
    have hor := bf_or w (by omega) g (by omega)
    unfold Fn at f1
    split at f1
    · cases f1
    · rename_i hc
      cases hx : Bt h (LW M h) d' (w ||| 2 ^ g) with
      | none => rw [hx] at f1; cases f1
      | some q =>
        rw [hx] at f1
        have eb : p.2 = g :: q.2 := by
          have := Option.some.inj f1
          rw [← congrArg Prod.snd this]
        have hb : ¬ w.testBit g = true := fun e => hc (Or.inr e)
        obtain ⟨p1, p2⟩ := pop_set w (by omega) g (by omega) hb
        have ih' := ih (k + 1) (w ||| 2 ^ g) q (nI g) (by omega) (by rw [show h - (k + 1) = d' by omega]; exact hx) (by omega) (or_lt2 h h6 w (by omega) hw g (by omega) hg)
        have er : (if d = 0 then nI g else nI (q.2.getD (d - 1) 0)) = nI (p.2.getD d 0) := by
          rw [eb]
          cases d with
          | zero => rfl
          | succ d => rfl
        rw [er] at ih'
        rw [if_neg (by omega), Nat.add_sub_cancel, ← ih', q5_9]
        simp only [q5_0, q5_1i, q5_1r, q5_1n, q5_2, q5_4i, q5_4r, q5_4n, q5_6, q5_7i, q5_7r, q5_7n, q5_11, q5_12, q5_15, q5_16, q5_17, q5_19, q5_20, q5_23i, q5_23r, q5_23n, q5_25, q5_27, q5_29, q5_32, q5_34, q5_35, q5_36, q5_37, q5_39, q5_40, q5_41i, q5_41r, q5_41n, q5_42i, q5_42r, q5_42n, q5_45, q5_48, q5_50, zNC, zcs_0, zcs_i, zcs_r, zcs_l, zpush_0, zpush_i, zpush_l, and_true, true_and, Nat.reduceLT, Nat.reduceLeDiff, Nat.reduceAdd, Nat.reduceMul, reduceIte, ite_true, ite_false, if_true, if_false, not_true_eq_false, not_false_eq_true, false_implies, true_implies, forall_const, implies_true, imp_self, and_self, false_and, and_false, ne_eq, zk_0, zfv_0_0, zfv_0_1, zfv_0_2, zfv_0_3, zfv_0_4, zfv_0_5, zfv_0_6, zf_0_6, zfv_0_7, zf_0_7, zk_25, zfv_25_0, zfv_25_1, zfv_25_2, zf_25_2, zk_26, zn_26, zk_27, zfv_27_0, zk_28, zn_28, zk_29, zfv_29_0, zfv_29_1, zfv_29_2, zfv_29_3, zf_29_3, zk_30, zn_30, zk_31, zn_31, zk_32, zn_32, zk_33, zn_33, zk_34, zfv_34_0, zfv_34_1, zf_34_1, zfv_34_2, zf_34_2, zfv_34_3, zf_34_3, zk_35, zn_35, zk_36, zfv_36_0, zfv_36_1, zf_36_1, zfv_36_2, zf_36_2, zfv_36_3, zf_36_3, zk_37, zn_37, zk_38, zfv_38_0, zfv_38_1, zf_38_1, zfv_38_2, zf_38_2, zfv_38_3, zf_38_3, zk_39, zn_39, zk_40, zfv_40_0, zfv_40_1, zf_40_1, zfv_40_2, zf_40_2, zfv_40_3, zf_40_3, zk_41, zn_41, zk_1, zfv_1_0, zfv_1_1, zfv_1_2, zfv_1_3, zfv_1_4, zfv_1_5, zfv_1_6, zfv_1_7, zf_1_7, zfv_1_8, zf_1_8, zk_9, zfv_9_0, zfv_9_1, zfv_9_2, zfv_9_3, zfv_9_4, zfv_9_5, zfv_9_6, zfv_9_7, zf_9_7, zfv_9_8, zf_9_8, zk_17, zfv_17_0, zfv_17_1, zfv_17_2, zfv_17_3, zfv_17_4, zfv_17_5, zfv_17_6, zfv_17_7, zf_17_7, zfv_17_8, zf_17_8, zk_2, zn_2, zk_3, zn_3, zk_4, zn_4, zk_5, zn_5, zk_6, zn_6, zk_7, zn_7, zk_8, zn_8, zk_10, zn_10, zk_11, zn_11, zk_12, zn_12, zk_13, zn_13, zk_14, zn_14, zk_15, zn_15, zk_16, zn_16, zk_18, zn_18, zk_19, zn_19, zk_20, zn_20, zk_21, zn_21, zk_22, zn_22, zk_23, zn_23, zk_24, zn_24, h1, e1, g9, hor.1, nI_1]
theorem s_keeperFor (T : JT M h y lw) (hN : ∀ e, e ≠ 28 → N e = M e) (hTb : ∀ w, w < 2 ^ h → N 28 w = tv (Bt h (LW M h) (h - fpop 6 w) w)) (hgl : gl < h) {p : Nat × List Nat} (hp : Bt h (LW M h) h 0 = some p) : zQ 5 0 [.ref 27, .int (nI gl), .ref 1, .null, .null, .null] [] N Q ↔ Q (zI (nI (p.2.getD gl 0))) N := by
  have e := l_keeperFor (Q := Q) T hN hTb hgl (gl + 1) 0 0 p (-9) (by omega) hp rfl (Nat.two_pow_pos h)
  rw [if_neg (by omega), Nat.add_sub_cancel] at e
  rw [← e]
  simp only [q5_0, q5_1i, q5_1r, q5_1n, q5_2, q5_4i, q5_4r, q5_4n, q5_6, q5_7i, q5_7r, q5_7n, q5_11, q5_12, q5_15, q5_16, q5_17, q5_19, q5_20, q5_23i, q5_23r, q5_23n, q5_25, q5_27, q5_29, q5_32, q5_34, q5_35, q5_36, q5_37, q5_39, q5_40, q5_41i, q5_41r, q5_41n, q5_42i, q5_42r, q5_42n, q5_45, q5_48, q5_50, nI_0]
end IV
