-- KEEPING: the reference's best row
section IV
variable {M M' N : zM} {h y lw c k t a b n m d w g j gl : Nat} {Q : zR → zM → Prop} {x x1 x2 x3 ch mo it : Int32} {L : Nat → Nat → Nat} {r : List Nat} {q : Nat → Int32}
def smm (F : Nat → Nat) : Nat → Nat
  | 0 => 0
  | n + 1 => smm F n + F n
theorem smm_s (F : Nat → Nat) : ∀ n, smm F (n + 1) = F 0 + smm (fun i => F (i + 1)) n := by
  intro n
  induction n with
  | zero => simp [smm]
  | succ n ih =>
    have e : smm F (n + 1 + 1) = smm F (n + 1) + F (n + 1) := rfl
    have e2 : smm (fun i => F (i + 1)) (n + 1) = smm (fun i => F (i + 1)) n + F (n + 1) := rfl
    rw [e, ih, e2]
    omega
theorem Vl_smm (l : List Nat) : ∀ k, Vl L k l = smm (fun i => L (k + i) (l.getD i 0)) l.length := by
  induction l with
  | nil => intro k; rfl
  | cons g l ih =>
    intro k
    show L k g + Vl L (k + 1) l = smm _ (l.length + 1)
    rw [smm_s, ih (k + 1)]
    show _ = L (k + 0) g + _
    congr 1
    congr 1
    funext i
    rw [show k + (i + 1) = k + 1 + i by omega]
    rfl
theorem smm_bd {F : Nat → Nat} (hF : ∀ i, F i ≤ 99) : ∀ n, smm F n ≤ 99 * n := by
  intro n
  induction n with
  | zero => exact Nat.le_refl _
  | succ n ih =>
    have := hF n
    show smm F n + F n ≤ _
    omega
/-- a memory that is the town's but for 48, 56, 57, 28 -/
def KB (M K : zM) : Prop := (∀ e, e ≠ 48 → e ≠ 56 → e ≠ 57 → e ≠ 28 → K e = M e)
theorem KB_life (T : JT M h y lw) (B : KB M N) (hr : kvr h r) (hk : k < h) : fmlf (KM N r h) k = nI (LW M h k (r.getD k 0)) ∧ 0 ≤ fmr (KM N r h) k := by
  have h6 := T.2.2.2.2.2.2.1
  have hg := hr.2 k hk
  have G := T.2.2.2.2.2.2.2.2.2 k hk
  have G2 := T.2.2.2.2.2.2.2.2.2 _ hg
  have mk : fmk (KM N r h) k = r.getD k 0 := by
    unfold fmk
    rw [KM_at hk]
    exact nI_clamp (by omega)
  have ke : ∀ e, e ≠ 48 → e ≠ 56 → e ≠ 57 → e ≠ 28 → KM N r h e = M e := fun e e1 e2 e3 e4 => (KM_ne e1).trans (B e e1 e2 e3 e4)
  have e2 : fmr (KM N r h) k = frate (M 2 k) (M 5 k) (M 6 (r.getD k 0)) := by
    unfold fmr
    rw [mk, ke 43 (by decide) (by decide) (by decide) (by decide), ke 46 (by decide) (by decide) (by decide) (by decide), ke 47 (by decide) (by decide) (by decide) (by decide), G.1.1, G.1.2.2.2.1, G2.1.2.2.2.2.1]
  refine ⟨?_, ?_⟩
  · rw [← (fl_val T hk hg).1]
    unfold fmlf fl
    rw [e2, ke 44 (by decide) (by decide) (by decide) (by decide), G.1.2.1]
    show flife (M 3 k) (fml (KM N r h) k) _ = _
    have e3 : fml (KM N r h) k = fml M k := by unfold fml; rw [ke 42 (by decide) (by decide) (by decide) (by decide)]
    rw [e3, JT_ml T hk]
  · rw [e2]
    obtain ⟨v, hv, e⟩ := JT_rate T hk hg
    rw [e]
    exact nI_pos' (by omega)
theorem KB_sum (T : JT M h y lw) (B : KB M N) (hr : kvr h r) : ∀ n, n ≤ h → lsm (KM N r h) n = nI (smm (fun i => LW M h (0 + i) (r.getD i 0)) n) := by
  intro n
  induction n with
  | zero => intro _; rfl
  | succ n ih =>
    intro hn
    simp only [lsm, smm]
    rw [ih (by omega), (KB_life T B hr (show n < h by omega)).1, Nat.zero_add]
    exact nI_add _ _
theorem KB_lives (T : JT M h y lw) (B : KB M N) (hr : kvr h r) : zQ 125 0 [.ref 42, .null, .null] [] (KM N r h) Q ↔ Q (zI (nI (Vl (LW M h) 0 r))) (KM N r h) := by
  have h6 := T.2.2.2.2.2.2.1
  have hm : KM N r h 42 1 = nI h := by rw [KM_ne (by decide), B 42 (by decide) (by decide) (by decide) (by decide)]; exact T.2.1
  rw [s_lives hm h6 (fun k hk => ⟨r.getD k 0, hr.2 k hk, KM_at hk⟩) (fun k hk => (KB_life T B hr hk).2), KB_sum T B hr h (Nat.le_refl h), Vl_smm, hr.1]
theorem Vl_bd (T : JT M h y lw) (hr : kvr h r) : Vl (LW M h) 0 r ≤ 594 := by
  have h6 := T.2.2.2.2.2.2.1
  rw [Vl_smm, hr.1]
  have := smm_bd (F := fun i => LW M h (0 + i) (r.getD i 0)) (fun i => LW_99 T _ _) h
  omega
def qs (N : zM) (h : Nat) (s : Option (Nat × List Nat)) : Nat → Int32 := match s with
  | none => N 57
  | some p => fun i => if i < h then nI (p.2.getD i 0) else N 57 i
def mst (s : Option (Nat × List Nat)) : Int32 := match s with
  | none => -9
  | some p => nI p.1
def qk (q : Nat → Int32) (r : List Nat) (k : Nat) : Nat → Int32 := fun i => if i < k then nI (r.getD i 0) else q i
theorem KM_57 {v : Int32} : zup (KM (zrow N 57 q) r h) 57 k v = KM (zrow N 57 (upd q k v)) r h := by
  funext e i
  rw [zup_app]
  by_cases c : e = 57
  · subst c
    rw [if_pos rfl, KM_ne (by decide), KM_ne (by decide), zrow_self, zrow_self]
    rfl
  · rw [if_neg c]
    by_cases c2 : e = 48
    · subst c2; rfl
    · rw [KM_ne c2, KM_ne c2, zrow_ne _ _ c, zrow_ne _ _ c]
theorem l_kbU (hm : N 42 1 = nI h) (h6 : h ≤ 6) (hlt : mo < it) {x2 : Int32} : ∀ d k, k + d = h → (zQ 129 64 [.ref 42, .int mo, .int x2, .int it, .int (nI k)] [] (KM (zrow N 57 (qk q r k)) r h) Q ↔ zQ 129 108 [.ref 42, .int mo, .int x2, .int it, .int (nI h)] [] (KM (zrow N 57 (qk q r h)) r h) Q) := by
  intro d
  induction d with
  | zero =>
    intro k hk
    obtain rfl : k = h := by omega
    have e1 : KM (zrow N 57 (qk q r k)) r k 42 1 = nI k := hm
    rw [q129_64]
    simp only [q129_0, q129_1i, q129_1r, q129_1n, q129_3, q129_4, q129_7, q129_10, q129_11, q129_14, q129_15, q129_16, q129_19, q129_20, q129_21, q129_22, q129_23, q129_26, q129_27, q129_28, q129_29i, q129_29r, q129_29n, q129_32, q129_35, q129_37i, q129_37r, q129_37n, q129_38, q129_39i, q129_39r, q129_39n, q129_41, q129_44, q129_45, q129_48, q129_51, q129_52, q129_55, q129_58, q129_60i, q129_60r, q129_60n, q129_61, q129_62i, q129_62r, q129_62n, q129_66, q129_67, q129_70, q129_73, q129_74, q129_77, q129_79, q129_80, q129_81, q129_84, q129_85, q129_88, q129_90, q129_91, q129_94, q129_95, q129_98, q129_100, q129_101, q129_102i, q129_102r, q129_102n, q129_105, q129_109, q129_110, q129_113, q129_114, q129_117, q129_118i, q129_118r, q129_118n, q129_119, q129_120, q129_123i, q129_123r, q129_123n, q129_124, q129_127, q129_128i, q129_128r, q129_128n, q129_130, q129_131, q129_134, q129_137, q129_138, q129_141, q129_142, q129_143, q129_146, q129_147, q129_148, q129_149i, q129_149r, q129_149n, q129_152, q129_155, q129_156, zNC, zcs_0, zcs_i, zcs_r, zcs_l, zpush_0, zpush_i, zpush_l, and_true, true_and, Nat.reduceLT, Nat.reduceLeDiff, Nat.reduceAdd, Nat.reduceMul, reduceIte, ite_true, ite_false, if_true, if_false, not_true_eq_false, not_false_eq_true, false_implies, true_implies, forall_const, implies_true, imp_self, and_self, false_and, and_false, ne_eq, zk_42, zfv_42_0, zf_42_0, zfv_42_1, zf_42_1, zfv_42_2, zf_42_2, zfv_42_3, zfv_42_4, zfv_42_5, zfv_42_6, zfv_42_7, zfv_42_8, zfv_42_9, zf_42_9, zfv_42_10, zf_42_10, zfv_42_11, zf_42_11, zfv_42_12, zfv_42_13, zfv_42_14, zfv_42_15, zfv_42_16, zfv_42_17, zfv_42_18, zf_42_18, zfv_42_19, zf_42_19, zfv_42_20, zfv_42_21, zfv_42_22, zfv_42_23, zf_42_23, zfv_42_24, zfv_42_25, zfv_42_26, zfv_42_27, zfv_42_28, zfv_42_29, zfv_42_30, zfv_42_31, zf_42_31, zk_43, zn_43, zk_44, zn_44, zk_45, zn_45, zk_46, zn_46, zk_47, zn_47, zk_48, zn_48, zk_49, zn_49, zk_50, zn_50, zk_51, zn_51, zk_52, zn_52, zk_53, zn_53, zk_54, zn_54, zk_55, zn_55, zk_56, zn_56, zk_57, zn_57, zk_58, zn_58, zk_59, zn_59, zk_60, zn_60, zk_61, zn_61, zk_62, zn_62, zk_63, zn_63, zk_64, zn_64, e1, i_le_refl]
  | succ d ih =>
    intro k hk
    have h1 : ¬ nI h ≤ nI k := nI_ge (by omega) (by omega)
    have hc : (nI k).toNatClampNeg = k := nI_clamp (by omega)
    have hz := zin_nI (k := k) (n := 6) (by omega) (by decide)
    have e1 : KM (zrow N 57 (qk q r k)) r h 42 1 = nI h := hm
    have a1 := KM_at (N := zrow N 57 (qk q r k)) (r := r) (show k < h by omega)
    have hlt2 : ¬ it ≤ mo := by simp only [fa_lt, fa_le] at *; omega
    have eu : upd (qk q r k) k (nI (r.getD k 0)) = qk q r (k + 1) := by
      funext i
      unfold upd qk
      by_cases c : i = k
      · subst c; rw [if_pos rfl, if_pos (by omega)]
      · rw [if_neg c]
        have e1 : (i < k) = (i < k + 1) := by simp; omega
        simp only [e1]
    have ih' := ih (k + 1) (by omega)
    rw [← ih', q129_64]
    simp only [q129_0, q129_1i, q129_1r, q129_1n, q129_3, q129_4, q129_7, q129_10, q129_11, q129_14, q129_15, q129_16, q129_19, q129_20, q129_21, q129_22, q129_23, q129_26, q129_27, q129_28, q129_29i, q129_29r, q129_29n, q129_32, q129_35, q129_37i, q129_37r, q129_37n, q129_38, q129_39i, q129_39r, q129_39n, q129_41, q129_44, q129_45, q129_48, q129_51, q129_52, q129_55, q129_58, q129_60i, q129_60r, q129_60n, q129_61, q129_62i, q129_62r, q129_62n, q129_66, q129_67, q129_70, q129_73, q129_74, q129_77, q129_79, q129_80, q129_81, q129_84, q129_85, q129_88, q129_90, q129_91, q129_94, q129_95, q129_98, q129_100, q129_101, q129_102i, q129_102r, q129_102n, q129_105, q129_109, q129_110, q129_113, q129_114, q129_117, q129_118i, q129_118r, q129_118n, q129_119, q129_120, q129_123i, q129_123r, q129_123n, q129_124, q129_127, q129_128i, q129_128r, q129_128n, q129_130, q129_131, q129_134, q129_137, q129_138, q129_141, q129_142, q129_143, q129_146, q129_147, q129_148, q129_149i, q129_149r, q129_149n, q129_152, q129_155, q129_156, zNC, zcs_0, zcs_i, zcs_r, zcs_l, zpush_0, zpush_i, zpush_l, and_true, true_and, Nat.reduceLT, Nat.reduceLeDiff, Nat.reduceAdd, Nat.reduceMul, reduceIte, ite_true, ite_false, if_true, if_false, not_true_eq_false, not_false_eq_true, false_implies, true_implies, forall_const, implies_true, imp_self, and_self, false_and, and_false, ne_eq, zk_42, zfv_42_0, zf_42_0, zfv_42_1, zf_42_1, zfv_42_2, zf_42_2, zfv_42_3, zfv_42_4, zfv_42_5, zfv_42_6, zfv_42_7, zfv_42_8, zfv_42_9, zf_42_9, zfv_42_10, zf_42_10, zfv_42_11, zf_42_11, zfv_42_12, zfv_42_13, zfv_42_14, zfv_42_15, zfv_42_16, zfv_42_17, zfv_42_18, zf_42_18, zfv_42_19, zf_42_19, zfv_42_20, zfv_42_21, zfv_42_22, zfv_42_23, zf_42_23, zfv_42_24, zfv_42_25, zfv_42_26, zfv_42_27, zfv_42_28, zfv_42_29, zfv_42_30, zfv_42_31, zf_42_31, zk_43, zn_43, zk_44, zn_44, zk_45, zn_45, zk_46, zn_46, zk_47, zn_47, zk_48, zn_48, zk_49, zn_49, zk_50, zn_50, zk_51, zn_51, zk_52, zn_52, zk_53, zn_53, zk_54, zn_54, zk_55, zn_55, zk_56, zn_56, zk_57, zn_57, zk_58, zn_58, zk_59, zn_59, zk_60, zn_60, zk_61, zn_61, zk_62, zn_62, zk_63, zn_63, zk_64, zn_64, e1, h1, hlt2, hc, hz, a1, KM_57, eu, nI_1]
theorem l_kbN (hm : N 42 1 = nI h) (h6 : h ≤ 6) (hle : it ≤ mo) {x2 : Int32} : ∀ d k, k + d = h → (zQ 129 64 [.ref 42, .int mo, .int x2, .int it, .int (nI k)] [] (KM (zrow N 57 q) r h) Q ↔ zQ 129 108 [.ref 42, .int mo, .int x2, .int it, .int (nI h)] [] (KM (zrow N 57 q) r h) Q) := by
  intro d
  induction d with
  | zero =>
    intro k hk
    obtain rfl : k = h := by omega
    have e1 : KM (zrow N 57 q) r k 42 1 = nI k := hm
    rw [q129_64]
    simp only [q129_0, q129_1i, q129_1r, q129_1n, q129_3, q129_4, q129_7, q129_10, q129_11, q129_14, q129_15, q129_16, q129_19, q129_20, q129_21, q129_22, q129_23, q129_26, q129_27, q129_28, q129_29i, q129_29r, q129_29n, q129_32, q129_35, q129_37i, q129_37r, q129_37n, q129_38, q129_39i, q129_39r, q129_39n, q129_41, q129_44, q129_45, q129_48, q129_51, q129_52, q129_55, q129_58, q129_60i, q129_60r, q129_60n, q129_61, q129_62i, q129_62r, q129_62n, q129_66, q129_67, q129_70, q129_73, q129_74, q129_77, q129_79, q129_80, q129_81, q129_84, q129_85, q129_88, q129_90, q129_91, q129_94, q129_95, q129_98, q129_100, q129_101, q129_102i, q129_102r, q129_102n, q129_105, q129_109, q129_110, q129_113, q129_114, q129_117, q129_118i, q129_118r, q129_118n, q129_119, q129_120, q129_123i, q129_123r, q129_123n, q129_124, q129_127, q129_128i, q129_128r, q129_128n, q129_130, q129_131, q129_134, q129_137, q129_138, q129_141, q129_142, q129_143, q129_146, q129_147, q129_148, q129_149i, q129_149r, q129_149n, q129_152, q129_155, q129_156, zNC, zcs_0, zcs_i, zcs_r, zcs_l, zpush_0, zpush_i, zpush_l, and_true, true_and, Nat.reduceLT, Nat.reduceLeDiff, Nat.reduceAdd, Nat.reduceMul, reduceIte, ite_true, ite_false, if_true, if_false, not_true_eq_false, not_false_eq_true, false_implies, true_implies, forall_const, implies_true, imp_self, and_self, false_and, and_false, ne_eq, zk_42, zfv_42_0, zf_42_0, zfv_42_1, zf_42_1, zfv_42_2, zf_42_2, zfv_42_3, zfv_42_4, zfv_42_5, zfv_42_6, zfv_42_7, zfv_42_8, zfv_42_9, zf_42_9, zfv_42_10, zf_42_10, zfv_42_11, zf_42_11, zfv_42_12, zfv_42_13, zfv_42_14, zfv_42_15, zfv_42_16, zfv_42_17, zfv_42_18, zf_42_18, zfv_42_19, zf_42_19, zfv_42_20, zfv_42_21, zfv_42_22, zfv_42_23, zf_42_23, zfv_42_24, zfv_42_25, zfv_42_26, zfv_42_27, zfv_42_28, zfv_42_29, zfv_42_30, zfv_42_31, zf_42_31, zk_43, zn_43, zk_44, zn_44, zk_45, zn_45, zk_46, zn_46, zk_47, zn_47, zk_48, zn_48, zk_49, zn_49, zk_50, zn_50, zk_51, zn_51, zk_52, zn_52, zk_53, zn_53, zk_54, zn_54, zk_55, zn_55, zk_56, zn_56, zk_57, zn_57, zk_58, zn_58, zk_59, zn_59, zk_60, zn_60, zk_61, zn_61, zk_62, zn_62, zk_63, zn_63, zk_64, zn_64, e1, i_le_refl]
  | succ d ih =>
    intro k hk
    have h1 : ¬ nI h ≤ nI k := nI_ge (by omega) (by omega)
    have hc : (nI k).toNatClampNeg = k := nI_clamp (by omega)
    have hz := zin_nI (k := k) (n := 6) (by omega) (by decide)
    have e1 : KM (zrow N 57 q) r h 42 1 = nI h := hm
    have a1 : KM (zrow N 57 q) r h 57 k = q k := by rw [KM_ne (by decide), zrow_self]
    have eu : upd q k (q k) = q := by
      funext i
      unfold upd
      split
      · rename_i c; rw [c]
      · rfl
    have ih' := ih (k + 1) (by omega)
    rw [← ih', q129_64]
    simp only [q129_0, q129_1i, q129_1r, q129_1n, q129_3, q129_4, q129_7, q129_10, q129_11, q129_14, q129_15, q129_16, q129_19, q129_20, q129_21, q129_22, q129_23, q129_26, q129_27, q129_28, q129_29i, q129_29r, q129_29n, q129_32, q129_35, q129_37i, q129_37r, q129_37n, q129_38, q129_39i, q129_39r, q129_39n, q129_41, q129_44, q129_45, q129_48, q129_51, q129_52, q129_55, q129_58, q129_60i, q129_60r, q129_60n, q129_61, q129_62i, q129_62r, q129_62n, q129_66, q129_67, q129_70, q129_73, q129_74, q129_77, q129_79, q129_80, q129_81, q129_84, q129_85, q129_88, q129_90, q129_91, q129_94, q129_95, q129_98, q129_100, q129_101, q129_102i, q129_102r, q129_102n, q129_105, q129_109, q129_110, q129_113, q129_114, q129_117, q129_118i, q129_118r, q129_118n, q129_119, q129_120, q129_123i, q129_123r, q129_123n, q129_124, q129_127, q129_128i, q129_128r, q129_128n, q129_130, q129_131, q129_134, q129_137, q129_138, q129_141, q129_142, q129_143, q129_146, q129_147, q129_148, q129_149i, q129_149r, q129_149n, q129_152, q129_155, q129_156, zNC, zcs_0, zcs_i, zcs_r, zcs_l, zpush_0, zpush_i, zpush_l, and_true, true_and, Nat.reduceLT, Nat.reduceLeDiff, Nat.reduceAdd, Nat.reduceMul, reduceIte, ite_true, ite_false, if_true, if_false, not_true_eq_false, not_false_eq_true, false_implies, true_implies, forall_const, implies_true, imp_self, and_self, false_and, and_false, ne_eq, zk_42, zfv_42_0, zf_42_0, zfv_42_1, zf_42_1, zfv_42_2, zf_42_2, zfv_42_3, zfv_42_4, zfv_42_5, zfv_42_6, zfv_42_7, zfv_42_8, zfv_42_9, zf_42_9, zfv_42_10, zf_42_10, zfv_42_11, zf_42_11, zfv_42_12, zfv_42_13, zfv_42_14, zfv_42_15, zfv_42_16, zfv_42_17, zfv_42_18, zf_42_18, zfv_42_19, zf_42_19, zfv_42_20, zfv_42_21, zfv_42_22, zfv_42_23, zf_42_23, zfv_42_24, zfv_42_25, zfv_42_26, zfv_42_27, zfv_42_28, zfv_42_29, zfv_42_30, zfv_42_31, zf_42_31, zk_43, zn_43, zk_44, zn_44, zk_45, zn_45, zk_46, zn_46, zk_47, zn_47, zk_48, zn_48, zk_49, zn_49, zk_50, zn_50, zk_51, zn_51, zk_52, zn_52, zk_53, zn_53, zk_54, zn_54, zk_55, zn_55, zk_56, zn_56, zk_57, zn_57, zk_58, zn_58, zk_59, zn_59, zk_60, zn_60, zk_61, zn_61, zk_62, zn_62, zk_63, zn_63, zk_64, zn_64, e1, h1, hle, hc, hz, a1, KM_57, eu, nI_1]
theorem mg_some_bd (s : Option (Nat × List Nat)) (hs : ∀ p, s = some p → p.1 ≤ 594) (hr : Vl L 0 r ≤ 594) : ∀ p, kst h (Vl L 0) s r = some p → p.1 ≤ 594 := by
  intro p hp
  unfold kst at hp
  split at hp
  · cases s with
    | none => cases hp; exact hr
    | some q =>
      simp only [mg] at hp
      split at hp
      · cases hp; exact hr
      · cases hp; exact hs _ rfl
  · exact hs _ hp
theorem mst_9 (s : Option (Nat × List Nat)) (hs : ∀ p, s = some p → p.1 ≤ 594) : (-9 : Int32) ≤ mst s := by
  cases s with
  | none => exact i_le_refl _
  | some p =>
    have hp := hs p rfl
    have t1 : (nI p.1).toInt = p.1 := nI_toInt (by omega)
    show (-9 : Int32) ≤ nI p.1
    rw [fa_le, zt_m9, t1]
    omega
theorem best_row (T : JT M h y lw) (B : KB M N) (hr : kvr h r) (s : Option (Nat × List Nat)) (v3 v4 : Value) (hs : ∀ p, s = some p → p.1 ≤ 594) (K : ∀ v3 v4 : Value, zQ 129 119 [.ref 42, .int (mst (kst h (Vl (LW M h) 0) s r)), .int 1, v3, v4] [] (KM (zrow N 57 (qs N h (kst h (Vl (LW M h) 0) s r))) r h) Q) : zQ 129 40 [.ref 42, .int (mst s), .int 1, v3, v4] [] (KM (zrow N 57 (qs N h s)) r h) Q := by
  have h6 := T.2.2.2.2.2.2.1
  have hm : N 42 1 = nI h := by rw [B 42 (by decide) (by decide) (by decide) (by decide)]; exact T.2.1
  have n10 : ¬ (1 : Int32) = 0 := by decide
  have B' : KB M (zrow N 57 (qs N h s)) := fun e e1 e2 e3 e4 => (zrow_ne _ _ e3).trans (B e e1 e2 e3 e4)
  have e1 : ∀ Q' : zR → zM → Prop, _ := fun Q' => s_noneOwn (M := KM (zrow N 57 (qs N h s)) r h) (Q := Q') hm h6 hr (fun i hi => KM_at hi)
  have e2 : ∀ Q' : zR → zM → Prop, _ := fun Q' => KB_lives (Q := Q') T B' hr
  have hv := Vl_bd T hr
  have i0 : nI 0 = 0 := rfl
  have q0 : qk (qs N h s) r 0 = qs N h s := by funext i; unfold qk; rw [if_neg (by omega)]
  by_cases c : kder h r = true
  · rw [zbp_t c] at e1
    by_cases hlt : mst s < nI (Vl (LW M h) 0 r)
    · have ek : kst h (Vl (LW M h) 0) s r = some (Vl (LW M h) 0 r, r) := by
        unfold kst
        rw [if_pos c]
        cases s with
        | none => rfl
        | some p =>
          have hp := hs p rfl
          have : p.1 < Vl (LW M h) 0 r := (nI_ltI (by omega) (by omega)).mp hlt
          simp only [mg]
          rw [if_pos this]
      have eq : qs N h (some (Vl (LW M h) 0 r, r)) = qk (qs N h s) r h := by
        funext i
        unfold qk qs
        by_cases ci : i < h
        · simp only [if_pos ci]
        · simp only [if_neg ci]
          cases s with
          | none => rfl
          | some p => simp only [if_neg ci]
      rw [ek, eq] at K
      have e3 := l_kbU (N := N) (r := r) (q := qs N h s) (Q := Q) (mo := mst s) (it := nI (Vl (LW M h) 0 r)) hm h6 hlt (x2 := 1) h 0 (by omega)
      rw [q0, i0] at e3
      have hlt2 : ¬ nI (Vl (LW M h) 0 r) ≤ mst s := by simp only [fa_lt, fa_le] at *; omega
      have K' := fun v3 v4 => K v3 v4
      have em : mst (some (Vl (LW M h) 0 r, r)) = nI (Vl (LW M h) 0 r) := rfl
      rw [em] at K'
      rw [q129_40]
      simp only [q129_0, q129_1i, q129_1r, q129_1n, q129_3, q129_4, q129_7, q129_10, q129_11, q129_14, q129_15, q129_16, q129_19, q129_20, q129_21, q129_22, q129_23, q129_26, q129_27, q129_28, q129_29i, q129_29r, q129_29n, q129_32, q129_35, q129_37i, q129_37r, q129_37n, q129_38, q129_39i, q129_39r, q129_39n, q129_41, q129_44, q129_45, q129_48, q129_51, q129_52, q129_55, q129_58, q129_60i, q129_60r, q129_60n, q129_61, q129_62i, q129_62r, q129_62n, q129_66, q129_67, q129_70, q129_73, q129_74, q129_77, q129_79, q129_80, q129_81, q129_84, q129_85, q129_88, q129_90, q129_91, q129_94, q129_95, q129_98, q129_100, q129_101, q129_102i, q129_102r, q129_102n, q129_105, q129_109, q129_110, q129_113, q129_114, q129_117, q129_118i, q129_118r, q129_118n, q129_120, q129_123i, q129_123r, q129_123n, q129_124, q129_127, q129_128i, q129_128r, q129_128n, q129_130, q129_131, q129_134, q129_137, q129_138, q129_141, q129_142, q129_143, q129_146, q129_147, q129_148, q129_149i, q129_149r, q129_149n, q129_152, q129_155, q129_156, zNC, zcs_0, zcs_i, zcs_r, zcs_l, zpush_0, zpush_i, zpush_l, and_true, true_and, Nat.reduceLT, Nat.reduceLeDiff, Nat.reduceAdd, Nat.reduceMul, reduceIte, ite_true, ite_false, if_true, if_false, not_true_eq_false, not_false_eq_true, false_implies, true_implies, forall_const, implies_true, imp_self, and_self, false_and, and_false, ne_eq, zk_42, zfv_42_0, zf_42_0, zfv_42_1, zf_42_1, zfv_42_2, zf_42_2, zfv_42_3, zfv_42_4, zfv_42_5, zfv_42_6, zfv_42_7, zfv_42_8, zfv_42_9, zf_42_9, zfv_42_10, zf_42_10, zfv_42_11, zf_42_11, zfv_42_12, zfv_42_13, zfv_42_14, zfv_42_15, zfv_42_16, zfv_42_17, zfv_42_18, zf_42_18, zfv_42_19, zf_42_19, zfv_42_20, zfv_42_21, zfv_42_22, zfv_42_23, zf_42_23, zfv_42_24, zfv_42_25, zfv_42_26, zfv_42_27, zfv_42_28, zfv_42_29, zfv_42_30, zfv_42_31, zf_42_31, zk_43, zn_43, zk_44, zn_44, zk_45, zn_45, zk_46, zn_46, zk_47, zn_47, zk_48, zn_48, zk_49, zn_49, zk_50, zn_50, zk_51, zn_51, zk_52, zn_52, zk_53, zn_53, zk_54, zn_54, zk_55, zn_55, zk_56, zn_56, zk_57, zn_57, zk_58, zn_58, zk_59, zn_59, zk_60, zn_60, zk_61, zn_61, zk_62, zn_62, zk_63, zn_63, zk_64, zn_64, n10, e1, e2, e3]
      rw [q129_108]
      simp only [q129_0, q129_1i, q129_1r, q129_1n, q129_3, q129_4, q129_7, q129_10, q129_11, q129_14, q129_15, q129_16, q129_19, q129_20, q129_21, q129_22, q129_23, q129_26, q129_27, q129_28, q129_29i, q129_29r, q129_29n, q129_32, q129_35, q129_37i, q129_37r, q129_37n, q129_38, q129_39i, q129_39r, q129_39n, q129_41, q129_44, q129_45, q129_48, q129_51, q129_52, q129_55, q129_58, q129_60i, q129_60r, q129_60n, q129_61, q129_62i, q129_62r, q129_62n, q129_66, q129_67, q129_70, q129_73, q129_74, q129_77, q129_79, q129_80, q129_81, q129_84, q129_85, q129_88, q129_90, q129_91, q129_94, q129_95, q129_98, q129_100, q129_101, q129_102i, q129_102r, q129_102n, q129_105, q129_109, q129_110, q129_113, q129_114, q129_117, q129_118i, q129_118r, q129_118n, q129_120, q129_123i, q129_123r, q129_123n, q129_124, q129_127, q129_128i, q129_128r, q129_128n, q129_130, q129_131, q129_134, q129_137, q129_138, q129_141, q129_142, q129_143, q129_146, q129_147, q129_148, q129_149i, q129_149r, q129_149n, q129_152, q129_155, q129_156, zNC, zcs_0, zcs_i, zcs_r, zcs_l, zpush_0, zpush_i, zpush_l, and_true, true_and, Nat.reduceLT, Nat.reduceLeDiff, Nat.reduceAdd, Nat.reduceMul, reduceIte, ite_true, ite_false, if_true, if_false, not_true_eq_false, not_false_eq_true, false_implies, true_implies, forall_const, implies_true, imp_self, and_self, false_and, and_false, ne_eq, zk_42, zfv_42_0, zf_42_0, zfv_42_1, zf_42_1, zfv_42_2, zf_42_2, zfv_42_3, zfv_42_4, zfv_42_5, zfv_42_6, zfv_42_7, zfv_42_8, zfv_42_9, zf_42_9, zfv_42_10, zf_42_10, zfv_42_11, zf_42_11, zfv_42_12, zfv_42_13, zfv_42_14, zfv_42_15, zfv_42_16, zfv_42_17, zfv_42_18, zf_42_18, zfv_42_19, zf_42_19, zfv_42_20, zfv_42_21, zfv_42_22, zfv_42_23, zf_42_23, zfv_42_24, zfv_42_25, zfv_42_26, zfv_42_27, zfv_42_28, zfv_42_29, zfv_42_30, zfv_42_31, zf_42_31, zk_43, zn_43, zk_44, zn_44, zk_45, zn_45, zk_46, zn_46, zk_47, zn_47, zk_48, zn_48, zk_49, zn_49, zk_50, zn_50, zk_51, zn_51, zk_52, zn_52, zk_53, zn_53, zk_54, zn_54, zk_55, zn_55, zk_56, zn_56, zk_57, zn_57, zk_58, zn_58, zk_59, zn_59, zk_60, zn_60, zk_61, zn_61, zk_62, zn_62, zk_63, zn_63, zk_64, zn_64, hlt2]
      exact K' _ _
    · have ek : kst h (Vl (LW M h) 0) s r = s := by
        unfold kst
        rw [if_pos c]
        cases s with
        | none =>
          have t1 : (nI (Vl (LW M h) 0 r)).toInt = Vl (LW M h) 0 r := nI_toInt (by omega)
          exact absurd (show (-9 : Int32) < nI (Vl (LW M h) 0 r) by rw [fa_lt, zt_m9, t1]; omega) hlt
        | some p =>
          have hp := hs p rfl
          have : ¬ p.1 < Vl (LW M h) 0 r := fun e => hlt ((nI_ltI (by omega) (by omega)).mpr e)
          simp only [mg]
          rw [if_neg this]
      rw [ek] at K
      have hle : nI (Vl (LW M h) 0 r) ≤ mst s := by simp only [fa_lt, fa_le] at *; omega
      have e3 := l_kbN (N := N) (r := r) (q := qs N h s) (Q := Q) (mo := mst s) (it := nI (Vl (LW M h) 0 r)) hm h6 hle (x2 := 1) h 0 (by omega)
      rw [i0] at e3
      rw [q129_40]
      simp only [q129_0, q129_1i, q129_1r, q129_1n, q129_3, q129_4, q129_7, q129_10, q129_11, q129_14, q129_15, q129_16, q129_19, q129_20, q129_21, q129_22, q129_23, q129_26, q129_27, q129_28, q129_29i, q129_29r, q129_29n, q129_32, q129_35, q129_37i, q129_37r, q129_37n, q129_38, q129_39i, q129_39r, q129_39n, q129_41, q129_44, q129_45, q129_48, q129_51, q129_52, q129_55, q129_58, q129_60i, q129_60r, q129_60n, q129_61, q129_62i, q129_62r, q129_62n, q129_66, q129_67, q129_70, q129_73, q129_74, q129_77, q129_79, q129_80, q129_81, q129_84, q129_85, q129_88, q129_90, q129_91, q129_94, q129_95, q129_98, q129_100, q129_101, q129_102i, q129_102r, q129_102n, q129_105, q129_109, q129_110, q129_113, q129_114, q129_117, q129_118i, q129_118r, q129_118n, q129_120, q129_123i, q129_123r, q129_123n, q129_124, q129_127, q129_128i, q129_128r, q129_128n, q129_130, q129_131, q129_134, q129_137, q129_138, q129_141, q129_142, q129_143, q129_146, q129_147, q129_148, q129_149i, q129_149r, q129_149n, q129_152, q129_155, q129_156, zNC, zcs_0, zcs_i, zcs_r, zcs_l, zpush_0, zpush_i, zpush_l, and_true, true_and, Nat.reduceLT, Nat.reduceLeDiff, Nat.reduceAdd, Nat.reduceMul, reduceIte, ite_true, ite_false, if_true, if_false, not_true_eq_false, not_false_eq_true, false_implies, true_implies, forall_const, implies_true, imp_self, and_self, false_and, and_false, ne_eq, zk_42, zfv_42_0, zf_42_0, zfv_42_1, zf_42_1, zfv_42_2, zf_42_2, zfv_42_3, zfv_42_4, zfv_42_5, zfv_42_6, zfv_42_7, zfv_42_8, zfv_42_9, zf_42_9, zfv_42_10, zf_42_10, zfv_42_11, zf_42_11, zfv_42_12, zfv_42_13, zfv_42_14, zfv_42_15, zfv_42_16, zfv_42_17, zfv_42_18, zf_42_18, zfv_42_19, zf_42_19, zfv_42_20, zfv_42_21, zfv_42_22, zfv_42_23, zf_42_23, zfv_42_24, zfv_42_25, zfv_42_26, zfv_42_27, zfv_42_28, zfv_42_29, zfv_42_30, zfv_42_31, zf_42_31, zk_43, zn_43, zk_44, zn_44, zk_45, zn_45, zk_46, zn_46, zk_47, zn_47, zk_48, zn_48, zk_49, zn_49, zk_50, zn_50, zk_51, zn_51, zk_52, zn_52, zk_53, zn_53, zk_54, zn_54, zk_55, zn_55, zk_56, zn_56, zk_57, zn_57, zk_58, zn_58, zk_59, zn_59, zk_60, zn_60, zk_61, zn_61, zk_62, zn_62, zk_63, zn_63, zk_64, zn_64, n10, e1, e2, e3]
      rw [q129_108]
      simp only [q129_0, q129_1i, q129_1r, q129_1n, q129_3, q129_4, q129_7, q129_10, q129_11, q129_14, q129_15, q129_16, q129_19, q129_20, q129_21, q129_22, q129_23, q129_26, q129_27, q129_28, q129_29i, q129_29r, q129_29n, q129_32, q129_35, q129_37i, q129_37r, q129_37n, q129_38, q129_39i, q129_39r, q129_39n, q129_41, q129_44, q129_45, q129_48, q129_51, q129_52, q129_55, q129_58, q129_60i, q129_60r, q129_60n, q129_61, q129_62i, q129_62r, q129_62n, q129_66, q129_67, q129_70, q129_73, q129_74, q129_77, q129_79, q129_80, q129_81, q129_84, q129_85, q129_88, q129_90, q129_91, q129_94, q129_95, q129_98, q129_100, q129_101, q129_102i, q129_102r, q129_102n, q129_105, q129_109, q129_110, q129_113, q129_114, q129_117, q129_118i, q129_118r, q129_118n, q129_120, q129_123i, q129_123r, q129_123n, q129_124, q129_127, q129_128i, q129_128r, q129_128n, q129_130, q129_131, q129_134, q129_137, q129_138, q129_141, q129_142, q129_143, q129_146, q129_147, q129_148, q129_149i, q129_149r, q129_149n, q129_152, q129_155, q129_156, zNC, zcs_0, zcs_i, zcs_r, zcs_l, zpush_0, zpush_i, zpush_l, and_true, true_and, Nat.reduceLT, Nat.reduceLeDiff, Nat.reduceAdd, Nat.reduceMul, reduceIte, ite_true, ite_false, if_true, if_false, not_true_eq_false, not_false_eq_true, false_implies, true_implies, forall_const, implies_true, imp_self, and_self, false_and, and_false, ne_eq, zk_42, zfv_42_0, zf_42_0, zfv_42_1, zf_42_1, zfv_42_2, zf_42_2, zfv_42_3, zfv_42_4, zfv_42_5, zfv_42_6, zfv_42_7, zfv_42_8, zfv_42_9, zf_42_9, zfv_42_10, zf_42_10, zfv_42_11, zf_42_11, zfv_42_12, zfv_42_13, zfv_42_14, zfv_42_15, zfv_42_16, zfv_42_17, zfv_42_18, zf_42_18, zfv_42_19, zf_42_19, zfv_42_20, zfv_42_21, zfv_42_22, zfv_42_23, zf_42_23, zfv_42_24, zfv_42_25, zfv_42_26, zfv_42_27, zfv_42_28, zfv_42_29, zfv_42_30, zfv_42_31, zf_42_31, zk_43, zn_43, zk_44, zn_44, zk_45, zn_45, zk_46, zn_46, zk_47, zn_47, zk_48, zn_48, zk_49, zn_49, zk_50, zn_50, zk_51, zn_51, zk_52, zn_52, zk_53, zn_53, zk_54, zn_54, zk_55, zn_55, zk_56, zn_56, zk_57, zn_57, zk_58, zn_58, zk_59, zn_59, zk_60, zn_60, zk_61, zn_61, zk_62, zn_62, zk_63, zn_63, zk_64, zn_64, hle]
      exact K _ _
  · rw [zbp_f c] at e1
    have ek : kst h (Vl (LW M h) 0) s r = s := by
      unfold kst
      rw [if_neg c]
    rw [ek] at K
    have hle := mst_9 s hs
    have e3 := l_kbN (N := N) (r := r) (q := qs N h s) (Q := Q) (mo := mst s) (it := -9) hm h6 hle (x2 := 1) h 0 (by omega)
    rw [i0] at e3
    rw [q129_40]
    simp only [q129_0, q129_1i, q129_1r, q129_1n, q129_3, q129_4, q129_7, q129_10, q129_11, q129_14, q129_15, q129_16, q129_19, q129_20, q129_21, q129_22, q129_23, q129_26, q129_27, q129_28, q129_29i, q129_29r, q129_29n, q129_32, q129_35, q129_37i, q129_37r, q129_37n, q129_38, q129_39i, q129_39r, q129_39n, q129_41, q129_44, q129_45, q129_48, q129_51, q129_52, q129_55, q129_58, q129_60i, q129_60r, q129_60n, q129_61, q129_62i, q129_62r, q129_62n, q129_66, q129_67, q129_70, q129_73, q129_74, q129_77, q129_79, q129_80, q129_81, q129_84, q129_85, q129_88, q129_90, q129_91, q129_94, q129_95, q129_98, q129_100, q129_101, q129_102i, q129_102r, q129_102n, q129_105, q129_109, q129_110, q129_113, q129_114, q129_117, q129_118i, q129_118r, q129_118n, q129_120, q129_123i, q129_123r, q129_123n, q129_124, q129_127, q129_128i, q129_128r, q129_128n, q129_130, q129_131, q129_134, q129_137, q129_138, q129_141, q129_142, q129_143, q129_146, q129_147, q129_148, q129_149i, q129_149r, q129_149n, q129_152, q129_155, q129_156, zNC, zcs_0, zcs_i, zcs_r, zcs_l, zpush_0, zpush_i, zpush_l, and_true, true_and, Nat.reduceLT, Nat.reduceLeDiff, Nat.reduceAdd, Nat.reduceMul, reduceIte, ite_true, ite_false, if_true, if_false, not_true_eq_false, not_false_eq_true, false_implies, true_implies, forall_const, implies_true, imp_self, and_self, false_and, and_false, ne_eq, zk_42, zfv_42_0, zf_42_0, zfv_42_1, zf_42_1, zfv_42_2, zf_42_2, zfv_42_3, zfv_42_4, zfv_42_5, zfv_42_6, zfv_42_7, zfv_42_8, zfv_42_9, zf_42_9, zfv_42_10, zf_42_10, zfv_42_11, zf_42_11, zfv_42_12, zfv_42_13, zfv_42_14, zfv_42_15, zfv_42_16, zfv_42_17, zfv_42_18, zf_42_18, zfv_42_19, zf_42_19, zfv_42_20, zfv_42_21, zfv_42_22, zfv_42_23, zf_42_23, zfv_42_24, zfv_42_25, zfv_42_26, zfv_42_27, zfv_42_28, zfv_42_29, zfv_42_30, zfv_42_31, zf_42_31, zk_43, zn_43, zk_44, zn_44, zk_45, zn_45, zk_46, zn_46, zk_47, zn_47, zk_48, zn_48, zk_49, zn_49, zk_50, zn_50, zk_51, zn_51, zk_52, zn_52, zk_53, zn_53, zk_54, zn_54, zk_55, zn_55, zk_56, zn_56, zk_57, zn_57, zk_58, zn_58, zk_59, zn_59, zk_60, zn_60, zk_61, zn_61, zk_62, zn_62, zk_63, zn_63, zk_64, zn_64, n10, e1, e3]
    rw [q129_108]
    simp only [q129_0, q129_1i, q129_1r, q129_1n, q129_3, q129_4, q129_7, q129_10, q129_11, q129_14, q129_15, q129_16, q129_19, q129_20, q129_21, q129_22, q129_23, q129_26, q129_27, q129_28, q129_29i, q129_29r, q129_29n, q129_32, q129_35, q129_37i, q129_37r, q129_37n, q129_38, q129_39i, q129_39r, q129_39n, q129_41, q129_44, q129_45, q129_48, q129_51, q129_52, q129_55, q129_58, q129_60i, q129_60r, q129_60n, q129_61, q129_62i, q129_62r, q129_62n, q129_66, q129_67, q129_70, q129_73, q129_74, q129_77, q129_79, q129_80, q129_81, q129_84, q129_85, q129_88, q129_90, q129_91, q129_94, q129_95, q129_98, q129_100, q129_101, q129_102i, q129_102r, q129_102n, q129_105, q129_109, q129_110, q129_113, q129_114, q129_117, q129_118i, q129_118r, q129_118n, q129_120, q129_123i, q129_123r, q129_123n, q129_124, q129_127, q129_128i, q129_128r, q129_128n, q129_130, q129_131, q129_134, q129_137, q129_138, q129_141, q129_142, q129_143, q129_146, q129_147, q129_148, q129_149i, q129_149r, q129_149n, q129_152, q129_155, q129_156, zNC, zcs_0, zcs_i, zcs_r, zcs_l, zpush_0, zpush_i, zpush_l, and_true, true_and, Nat.reduceLT, Nat.reduceLeDiff, Nat.reduceAdd, Nat.reduceMul, reduceIte, ite_true, ite_false, if_true, if_false, not_true_eq_false, not_false_eq_true, false_implies, true_implies, forall_const, implies_true, imp_self, and_self, false_and, and_false, ne_eq, zk_42, zfv_42_0, zf_42_0, zfv_42_1, zf_42_1, zfv_42_2, zf_42_2, zfv_42_3, zfv_42_4, zfv_42_5, zfv_42_6, zfv_42_7, zfv_42_8, zfv_42_9, zf_42_9, zfv_42_10, zf_42_10, zfv_42_11, zf_42_11, zfv_42_12, zfv_42_13, zfv_42_14, zfv_42_15, zfv_42_16, zfv_42_17, zfv_42_18, zf_42_18, zfv_42_19, zf_42_19, zfv_42_20, zfv_42_21, zfv_42_22, zfv_42_23, zf_42_23, zfv_42_24, zfv_42_25, zfv_42_26, zfv_42_27, zfv_42_28, zfv_42_29, zfv_42_30, zfv_42_31, zf_42_31, zk_43, zn_43, zk_44, zn_44, zk_45, zn_45, zk_46, zn_46, zk_47, zn_47, zk_48, zn_48, zk_49, zn_49, zk_50, zn_50, zk_51, zn_51, zk_52, zn_52, zk_53, zn_53, zk_54, zn_54, zk_55, zn_55, zk_56, zn_56, zk_57, zn_57, zk_58, zn_58, zk_59, zn_59, zk_60, zn_60, zk_61, zn_61, zk_62, zn_62, zk_63, zn_63, zk_64, zn_64, hle]
    exact K _ _
theorem next_none (hm : N 42 1 = nI h) (h2 : 2 ≤ h) (h6 : h ≤ 6) (hr : kvr h r) (e : knx h r = none) {v3 v4 : Value} : zQ 129 119 [.ref 42, .int mo, .int 1, v3, v4] [] (KM N r h) Q ↔ zQ 129 127 [.ref 42, .int mo, .int 0, v3, v4] [] (KM N r h) Q := by
  have e1 : ∀ Q' : zR → zM → Prop, _ := fun Q' => s_next (N := N) (Q := Q') hm h2 h6 hr
  rw [e] at e1
  rw [q129_119]
  simp only [q129_0, q129_1i, q129_1r, q129_1n, q129_3, q129_4, q129_7, q129_10, q129_11, q129_14, q129_15, q129_16, q129_19, q129_20, q129_21, q129_22, q129_23, q129_26, q129_27, q129_28, q129_29i, q129_29r, q129_29n, q129_32, q129_35, q129_37i, q129_37r, q129_37n, q129_38, q129_39i, q129_39r, q129_39n, q129_41, q129_44, q129_45, q129_48, q129_51, q129_52, q129_55, q129_58, q129_60i, q129_60r, q129_60n, q129_61, q129_62i, q129_62r, q129_62n, q129_66, q129_67, q129_70, q129_73, q129_74, q129_77, q129_79, q129_80, q129_81, q129_84, q129_85, q129_88, q129_90, q129_91, q129_94, q129_95, q129_98, q129_100, q129_101, q129_102i, q129_102r, q129_102n, q129_105, q129_109, q129_110, q129_113, q129_114, q129_117, q129_118i, q129_118r, q129_118n, q129_120, q129_123i, q129_123r, q129_123n, q129_124, q129_128i, q129_128r, q129_128n, q129_130, q129_131, q129_134, q129_137, q129_138, q129_141, q129_142, q129_143, q129_146, q129_147, q129_148, q129_149i, q129_149r, q129_149n, q129_152, q129_155, q129_156, zNC, zcs_0, zcs_i, zcs_r, zcs_l, zpush_0, zpush_i, zpush_l, and_true, true_and, Nat.reduceLT, Nat.reduceLeDiff, Nat.reduceAdd, Nat.reduceMul, reduceIte, ite_true, ite_false, if_true, if_false, not_true_eq_false, not_false_eq_true, false_implies, true_implies, forall_const, implies_true, imp_self, and_self, false_and, and_false, ne_eq, zk_42, zfv_42_0, zf_42_0, zfv_42_1, zf_42_1, zfv_42_2, zf_42_2, zfv_42_3, zfv_42_4, zfv_42_5, zfv_42_6, zfv_42_7, zfv_42_8, zfv_42_9, zf_42_9, zfv_42_10, zf_42_10, zfv_42_11, zf_42_11, zfv_42_12, zfv_42_13, zfv_42_14, zfv_42_15, zfv_42_16, zfv_42_17, zfv_42_18, zf_42_18, zfv_42_19, zf_42_19, zfv_42_20, zfv_42_21, zfv_42_22, zfv_42_23, zf_42_23, zfv_42_24, zfv_42_25, zfv_42_26, zfv_42_27, zfv_42_28, zfv_42_29, zfv_42_30, zfv_42_31, zf_42_31, zk_43, zn_43, zk_44, zn_44, zk_45, zn_45, zk_46, zn_46, zk_47, zn_47, zk_48, zn_48, zk_49, zn_49, zk_50, zn_50, zk_51, zn_51, zk_52, zn_52, zk_53, zn_53, zk_54, zn_54, zk_55, zn_55, zk_56, zn_56, zk_57, zn_57, zk_58, zn_58, zk_59, zn_59, zk_60, zn_60, zk_61, zn_61, zk_62, zn_62, zk_63, zn_63, zk_64, zn_64, e1]
  rw [q129_40]
  simp only [q129_0, q129_1i, q129_1r, q129_1n, q129_3, q129_4, q129_7, q129_10, q129_11, q129_14, q129_15, q129_16, q129_19, q129_20, q129_21, q129_22, q129_23, q129_26, q129_27, q129_28, q129_29i, q129_29r, q129_29n, q129_32, q129_35, q129_37i, q129_37r, q129_37n, q129_38, q129_39i, q129_39r, q129_39n, q129_41, q129_44, q129_45, q129_48, q129_51, q129_52, q129_55, q129_58, q129_60i, q129_60r, q129_60n, q129_61, q129_62i, q129_62r, q129_62n, q129_66, q129_67, q129_70, q129_73, q129_74, q129_77, q129_79, q129_80, q129_81, q129_84, q129_85, q129_88, q129_90, q129_91, q129_94, q129_95, q129_98, q129_100, q129_101, q129_102i, q129_102r, q129_102n, q129_105, q129_109, q129_110, q129_113, q129_114, q129_117, q129_118i, q129_118r, q129_118n, q129_120, q129_123i, q129_123r, q129_123n, q129_124, q129_128i, q129_128r, q129_128n, q129_130, q129_131, q129_134, q129_137, q129_138, q129_141, q129_142, q129_143, q129_146, q129_147, q129_148, q129_149i, q129_149r, q129_149n, q129_152, q129_155, q129_156, zNC, zcs_0, zcs_i, zcs_r, zcs_l, zpush_0, zpush_i, zpush_l, and_true, true_and, Nat.reduceLT, Nat.reduceLeDiff, Nat.reduceAdd, Nat.reduceMul, reduceIte, ite_true, ite_false, if_true, if_false, not_true_eq_false, not_false_eq_true, false_implies, true_implies, forall_const, implies_true, imp_self, and_self, false_and, and_false, ne_eq, zk_42, zfv_42_0, zf_42_0, zfv_42_1, zf_42_1, zfv_42_2, zf_42_2, zfv_42_3, zfv_42_4, zfv_42_5, zfv_42_6, zfv_42_7, zfv_42_8, zfv_42_9, zf_42_9, zfv_42_10, zf_42_10, zfv_42_11, zf_42_11, zfv_42_12, zfv_42_13, zfv_42_14, zfv_42_15, zfv_42_16, zfv_42_17, zfv_42_18, zf_42_18, zfv_42_19, zf_42_19, zfv_42_20, zfv_42_21, zfv_42_22, zfv_42_23, zf_42_23, zfv_42_24, zfv_42_25, zfv_42_26, zfv_42_27, zfv_42_28, zfv_42_29, zfv_42_30, zfv_42_31, zf_42_31, zk_43, zn_43, zk_44, zn_44, zk_45, zn_45, zk_46, zn_46, zk_47, zn_47, zk_48, zn_48, zk_49, zn_49, zk_50, zn_50, zk_51, zn_51, zk_52, zn_52, zk_53, zn_53, zk_54, zn_54, zk_55, zn_55, zk_56, zn_56, zk_57, zn_57, zk_58, zn_58, zk_59, zn_59, zk_60, zn_60, zk_61, zn_61, zk_62, zn_62, zk_63, zn_63, zk_64, zn_64]
theorem next_some (hm : N 42 1 = nI h) (h2 : 2 ≤ h) (h6 : h ≤ 6) (hr : kvr h r) {r' : List Nat} (e : knx h r = some r') {v3 v4 : Value} : zQ 129 119 [.ref 42, .int mo, .int 1, v3, v4] [] (KM N r h) Q ↔ zQ 129 40 [.ref 42, .int mo, .int 1, v3, v4] [] (KM N r' h) Q := by
  have e1 : ∀ Q' : zR → zM → Prop, _ := fun Q' => s_next (N := N) (Q := Q') hm h2 h6 hr
  rw [e] at e1
  rw [q129_119]
  simp only [q129_0, q129_1i, q129_1r, q129_1n, q129_3, q129_4, q129_7, q129_10, q129_11, q129_14, q129_15, q129_16, q129_19, q129_20, q129_21, q129_22, q129_23, q129_26, q129_27, q129_28, q129_29i, q129_29r, q129_29n, q129_32, q129_35, q129_37i, q129_37r, q129_37n, q129_38, q129_39i, q129_39r, q129_39n, q129_41, q129_44, q129_45, q129_48, q129_51, q129_52, q129_55, q129_58, q129_60i, q129_60r, q129_60n, q129_61, q129_62i, q129_62r, q129_62n, q129_66, q129_67, q129_70, q129_73, q129_74, q129_77, q129_79, q129_80, q129_81, q129_84, q129_85, q129_88, q129_90, q129_91, q129_94, q129_95, q129_98, q129_100, q129_101, q129_102i, q129_102r, q129_102n, q129_105, q129_109, q129_110, q129_113, q129_114, q129_117, q129_118i, q129_118r, q129_118n, q129_120, q129_123i, q129_123r, q129_123n, q129_124, q129_128i, q129_128r, q129_128n, q129_130, q129_131, q129_134, q129_137, q129_138, q129_141, q129_142, q129_143, q129_146, q129_147, q129_148, q129_149i, q129_149r, q129_149n, q129_152, q129_155, q129_156, zNC, zcs_0, zcs_i, zcs_r, zcs_l, zpush_0, zpush_i, zpush_l, and_true, true_and, Nat.reduceLT, Nat.reduceLeDiff, Nat.reduceAdd, Nat.reduceMul, reduceIte, ite_true, ite_false, if_true, if_false, not_true_eq_false, not_false_eq_true, false_implies, true_implies, forall_const, implies_true, imp_self, and_self, false_and, and_false, ne_eq, zk_42, zfv_42_0, zf_42_0, zfv_42_1, zf_42_1, zfv_42_2, zf_42_2, zfv_42_3, zfv_42_4, zfv_42_5, zfv_42_6, zfv_42_7, zfv_42_8, zfv_42_9, zf_42_9, zfv_42_10, zf_42_10, zfv_42_11, zf_42_11, zfv_42_12, zfv_42_13, zfv_42_14, zfv_42_15, zfv_42_16, zfv_42_17, zfv_42_18, zf_42_18, zfv_42_19, zf_42_19, zfv_42_20, zfv_42_21, zfv_42_22, zfv_42_23, zf_42_23, zfv_42_24, zfv_42_25, zfv_42_26, zfv_42_27, zfv_42_28, zfv_42_29, zfv_42_30, zfv_42_31, zf_42_31, zk_43, zn_43, zk_44, zn_44, zk_45, zn_45, zk_46, zn_46, zk_47, zn_47, zk_48, zn_48, zk_49, zn_49, zk_50, zn_50, zk_51, zn_51, zk_52, zn_52, zk_53, zn_53, zk_54, zn_54, zk_55, zn_55, zk_56, zn_56, zk_57, zn_57, zk_58, zn_58, zk_59, zn_59, zk_60, zn_60, zk_61, zn_61, zk_62, zn_62, zk_63, zn_63, zk_64, zn_64, e1]
theorem l_best (T : JT M h y lw) (h2 : 2 ≤ h) (B : KB M N) {s' : Option (Nat × List Nat)} (hQ : ∀ (r' : List Nat) (v3 v4 : Value), kvr h r' → zQ 129 127 [.ref 42, .int (mst s'), .int 0, v3, v4] [] (KM (zrow N 57 (qs N h s')) r' h) Q) : ∀ n (r : List Nat) (s : Option (Nat × List Nat)) (v3 v4 : Value), kvr h r → kends h n r = true → (∀ p, s = some p → p.1 ≤ 594) → (kits h n r).foldl (kst h (Vl (LW M h) 0)) s = s' → zQ 129 40 [.ref 42, .int (mst s), .int 1, v3, v4] [] (KM (zrow N 57 (qs N h s)) r h) Q := by
  have h6 := T.2.2.2.2.2.2.1
  have hm : N 42 1 = nI h := by rw [B 42 (by decide) (by decide) (by decide) (by decide)]; exact T.2.1
  have hm' : ∀ q, zrow N 57 q 42 1 = nI h := fun q => hm
  intro n
  induction n with
  | zero =>
    intro r s v3 v4 hr he hs hf
    have hn : knx h r = none := by
      have : (knx h r).isNone = true := he
      exact Option.isNone_iff_eq_none.mp this
    have hf2 : kst h (Vl (LW M h) 0) s r = s' := hf
    refine best_row T B hr s v3 v4 hs (fun v3 v4 => ?_)
    rw [hf2, next_none (hm' _) h2 h6 hr hn]
    exact hQ r v3 v4 hr
  | succ n ih =>
    intro r s v3 v4 hr he hs hf
    refine best_row T B hr s v3 v4 hs (fun v3 v4 => ?_)
    cases hn : knx h r with
    | none =>
      have hf2 : kst h (Vl (LW M h) 0) s r = s' := by
        simp only [kits, hn] at hf
        exact hf
      rw [hf2, next_none (hm' _) h2 h6 hr hn]
      exact hQ r v3 v4 hr
    | some r' =>
      rw [next_some (hm' _) h2 h6 hr hn]
      refine ih r' _ v3 v4 (knx_vr hr hn) ?_ (mg_some_bd s hs (Vl_bd T hr)) ?_
      · simp only [kends, hn] at he
        exact he
      · simp only [kits, hn] at hf
        exact hf
end IV
