-- the fixed world as the kit's cells
def rv (q : Nat → Nat) : Value → Value
  | .ref c => .ref (q c)
  | v => v
theorem rv_cat (q : Nat → Nat) (v : Value) : (rv q v).category = v.category := by cases v <;> rfl
theorem rv_nn {q : Nat → Nat} {v : Value} (h : v ≠ .null) : rv q v ≠ .null := by cases v <;> simp_all [rv]
theorem rv_cs (q : Nat → Nat) (r : List Value) : ((r.map (rv q)).map fun v => v.category).sum = zcs r := by
  unfold zcs
  rw [List.map_map]
  congr 1
  apply List.map_congr_left
  intro v _
  exact rv_cat q v
section ZW
variable (q : Nat → Nat) (cI cZ cS : ClassId)
def zE (M : zM) (c : Nat) : va_E :=
  if zk c = 7 then .inl (cI, zn c, .inl (M c)) else if zk c = 8 then .inl (cZ, zn c, .inl (M c))
  else if zk c = 9 then .inl (cS, zn c, .inr (.inr (.inr (.inr (fun i => (zf c i).map q)))))
  else .inr (zk c, (List.range (zn c)).map fun k => rv q (zfv c k M))
def zW (M : zM) : va_W := (List.range zNC).map fun c => (q c, zE q cI cZ cS M c)
abbrev ztys : List (ClassId × FieldType) := [(cI, .int), (cZ, .boolean), (cS, .object RX2)]
theorem zW_at (M : zM) {c : Nat} (h : c < zNC) : (zW q cI cZ cS M)[c]? = some (q c, zE q cI cZ cS M c) := by
  simp [zW, h]
theorem zW_inv {M : zM} {i : Nat} {x : Nat × va_E} (h : (zW q cI cZ cS M)[i]? = some x) : i < zNC ∧ x = (q i, zE q cI cZ cS M i) := by
  have hi : i < zNC := by
    have := z_len h
    simpa [zW] using this
  rw [zW_at q cI cZ cS M hi] at h
  exact ⟨hi, (Option.some.inj h).symm⟩
theorem zE_congr {M M' : zM} {c : Nat} (h : M' c = M c) : zE q cI cZ cS M' c = zE q cI cZ cS M c := by
  unfold zE zfv
  rw [h]
theorem zW_set {M M' : zM} {c : Nat} {e : va_E} (h : ∀ a, a ≠ c → M' a = M a) (he : zE q cI cZ cS M' c = e) : (zW q cI cZ cS M).set c (q c, e) = zW q cI cZ cS M' := by
  apply List.ext_getElem?
  intro i
  by_cases hi : i < zNC
  · rw [zW_at q cI cZ cS M' hi, List.getElem?_set]
    by_cases e1 : c = i
    · subst e1
      rw [if_pos rfl, if_pos (by simp [zW]; exact hi), he]
    · rw [if_neg e1, zW_at q cI cZ cS M hi, zE_congr q cI cZ cS (h i (Ne.symm e1))]
  · rw [List.getElem?_eq_none (by simp [zW]; omega), List.getElem?_eq_none (by simp [zW]; omega)]
theorem zD_any {A : Nat → Prop} {M M' : zM} (h : va_D A (zW q cI cZ cS M)) : va_D A (zW q cI cZ cS M') := by
  refine ⟨fun i j x y hx hy he => ?_, fun k x hx => ?_⟩
  · obtain ⟨hi, rfl⟩ := zW_inv q cI cZ cS hx
    obtain ⟨hj, rfl⟩ := zW_inv q cI cZ cS hy
    exact h.1 i j _ _ (zW_at q cI cZ cS M hi) (zW_at q cI cZ cS M hj) he
  · obtain ⟨hk, rfl⟩ := zW_inv q cI cZ cS hx
    have := h.2 k _ (zW_at q cI cZ cS M hk)
    exact this
theorem zE_int {M : zM} {c : Nat} (h : zk c = 7) : zE q cI cZ cS M c = .inl (cI, zn c, .inl (M c)) := by simp [zE, h]
theorem zE_bool {M : zM} {c : Nat} (h : zk c = 8) : zE q cI cZ cS M c = .inl (cZ, zn c, .inl (M c)) := by simp [zE, h]
theorem zE_arr {M : zM} {c : Nat} (h : zk c = 9) : zE q cI cZ cS M c = .inl (cS, zn c, .inr (.inr (.inr (.inr (fun i => (zf c i).map q))))) := by simp [zE, h]
theorem zE_obj {M : zM} {c ci : Nat} (h : zk c = ci) (h7 : ci < 7) : zE q cI cZ cS M c = .inr (ci, (List.range (zn c)).map fun k => rv q (zfv c k M)) := by
  unfold zE
  rw [if_neg (by omega), if_neg (by omega), if_neg (by omega), h]
theorem zrow_self (M : zM) (c : Nat) (f : Nat → Int32) : zrow M c f c = f := if_pos rfl
theorem zrow_ne (M : zM) {c a : Nat} (f : Nat → Int32) (h : a ≠ c) : zrow M c f a = M a := if_neg h
end ZW
theorem zn_obj : ∀ c, c < zNC → zk c < 7 → zn c = zvN (zk c) := by decide +kernel
-- locals
def zH (q : Nat → Nat) (ls : Array Slot) (n : Nat) (L : List Value) : Prop := L.length = n ∧ lv_has ls n [] ∧ ∀ (i : Nat) (v : Value), L[i]? = some v → v ≠ .null → ls[i]? = some (.val (rv q v))
def zlv (q : Nat → Nat) (L : List Value) : List (Nat × Value) := (List.range L.length).filterMap fun i => match (L[i]? : Option Value) with
  | some Value.null => none
  | some v => some (i, rv q v)
  | none => none
theorem zlv_mem {q : Nat → Nat} {L : List Value} {i : Nat} {v : Value} (h : L[i]? = some v) (hn : v ≠ .null) : (i, rv q v) ∈ zlv q L := by
  refine List.mem_filterMap.mpr ⟨i, List.mem_range.mpr (z_len h), ?_⟩
  rw [h]
  cases v <;> first | rfl | exact absurd rfl hn
theorem zlv_inv {q : Nat → Nat} {L : List Value} {x : Nat × Value} (h : x ∈ zlv q L) : ∃ v, L[x.1]? = some v ∧ v ≠ .null ∧ x.2 = rv q v := by
  obtain ⟨i, -, hi⟩ := List.mem_filterMap.mp h
  revert hi
  split
  · intro hi; cases hi
  · rename_i v hne e
    intro hi
    cases hi
    exact ⟨v, e, fun h => hne h, rfl⟩
  · intro hi; cases hi
theorem zH_has {q : Nat → Nat} {ls : Array Slot} {n : Nat} {L : List Value} (h : zH q ls n L) : lv_has ls n (zlv q L) := by
  refine ⟨h.2.1.1, h.2.1.2.1, fun x hx => ?_⟩
  obtain ⟨v, h1, h2, h3⟩ := zlv_inv hx
  rw [h3]
  exact h.2.2 _ _ h1 h2
theorem zH_of {q : Nat → Nat} {ls : Array Slot} {n : Nat} {L : List Value} {lv : List (Nat × Value)} (h : lv_has ls n lv) (hL : L.length = n) (hm : ∀ (i : Nat) (v : Value), L[i]? = some v → v ≠ .null → (i, rv q v) ∈ lv) : zH q ls n L :=
  ⟨hL, ⟨h.1, h.2.1, fun _ h => nomatch h⟩, fun i v h1 h2 => h.2.2 _ (hm i v h1 h2)⟩
theorem zpre_of {L : List Value} {k i : Nat} {v : Value} (h : zpre L k = true) (hi : L[i]? = some v) (e : i + 1 = k) : (v.category == 2) = false := by
  subst e
  simp only [zpre, hi] at h
  simpa using h
theorem zH_set1 {q : Nat → Nat} {ls' : Array Slot} {n k : Nat} {L : List Value} {w : Value} {lv' : List (Nat × Value)} (hL : L.length = n) (hp : zpre L k = true) (hk : k < n)
    (h : lv_has ls' n lv') (e : (k, rv q w) :: (zlv q L).filter (fun x => !(x.1 == k) && !(x.1 + 1 == k && x.2.category == 2)) = lv') : zH q ls' n (L.set k w) := by
  refine zH_of h (by rw [List.length_set]; exact hL) fun i v hi hv => ?_
  rw [← e]
  rw [List.getElem?_set] at hi
  by_cases ei : k = i
  · subst ei
    rw [if_pos rfl, if_pos (by omega)] at hi
    cases hi
    exact List.mem_cons_self
  · rw [if_neg ei] at hi
    refine List.mem_cons_of_mem _ (List.mem_filter.mpr ⟨zlv_mem hi hv, ?_⟩)
    have h1 : (i == k) = false := by simp; exact fun h => ei h.symm
    simp only [h1, rv_cat]
    by_cases e2 : i + 1 = k
    · rw [zpre_of hp hi e2]; simp
    · have : (i + 1 == k) = false := by simp; exact e2
      simp [this]
theorem zH_set2 {q : Nat → Nat} {ls' : Array Slot} {n k : Nat} {L : List Value} {w : Value} {lv' : List (Nat × Value)} (hL : L.length = n) (hp : zpre L k = true) (hk : k + 1 < n)
    (h : lv_has ls' n lv') (e : (k, rv q w) :: (zlv q L).filter (fun x => !(x.1 == k) && (!(x.1 == k + 1) && !(x.1 + 1 == k && x.2.category == 2))) = lv') : zH q ls' n ((L.set k w).set (k + 1) .null) := by
  refine zH_of h (by rw [List.length_set, List.length_set]; exact hL) fun i v hi hv => ?_
  rw [← e]
  rw [List.getElem?_set] at hi
  by_cases e1 : k + 1 = i
  · subst e1
    rw [if_pos rfl, if_pos (by rw [List.length_set]; omega)] at hi
    cases hi
    exact absurd rfl hv
  rw [if_neg e1, List.getElem?_set] at hi
  by_cases ei : k = i
  · subst ei
    rw [if_pos rfl, if_pos (by omega)] at hi
    cases hi
    exact List.mem_cons_self
  · rw [if_neg ei] at hi
    refine List.mem_cons_of_mem _ (List.mem_filter.mpr ⟨zlv_mem hi hv, ?_⟩)
    have h1 : (i == k) = false := by simp; exact fun h => ei h.symm
    have h2 : (i == k + 1) = false := by simp; exact fun h => e1 h.symm
    simp only [h1, h2, rv_cat]
    by_cases e2 : i + 1 = k
    · rw [zpre_of hp hi e2]; simp
    · have : (i + 1 == k) = false := by simp; exact e2
      simp [this]
theorem zexp_sl (q : Nat → Nat) (vs : List Value) : (zexp vs).length = (lg_sl (vs.map (rv q))).length := by
  induction vs with
  | nil => rfl
  | cons v vs ih =>
    have e1 : zexp (v :: vs) = (if v.category = 2 then [v, .null] else [v]) ++ zexp vs := by simp [zexp]
    have e2 : lg_sl ((v :: vs).map (rv q)) = (if (rv q v).category = 2 then [.val (rv q v), .second] else [.val (rv q v)]) ++ lg_sl (vs.map (rv q)) := by simp [lg_sl]
    rw [e1, e2, List.length_append, List.length_append, ih, rv_cat]
    split <;> rfl
theorem zexp_args (q : Nat → Nat) : ∀ (vs : List Value) (d i : Nat) (v : Value), (zexp vs)[i]? = some v → v ≠ .null → (d + i, rv q v) ∈ lv_args d (vs.map (rv q)) := by
  intro vs
  induction vs with
  | nil => intro d i v h; simp [zexp] at h
  | cons w vs ih =>
    intro d i v h hn
    have e1 : zexp (w :: vs) = (if w.category = 2 then [w, .null] else [w]) ++ zexp vs := by simp [zexp]
    rw [e1] at h
    show _ ∈ (d, rv q w) :: lv_args (if (rv q w).category = 2 then d + 2 else d + 1) (vs.map (rv q))
    rw [rv_cat]
    by_cases hc : w.category = 2
    · rw [if_pos hc] at h ⊢
      match i, h with
      | 0, h => cases h; exact List.mem_cons_self
      | 1, h => cases h; exact absurd rfl hn
      | i + 2, h =>
        have := ih (d + 2) i v (by simpa using h) hn
        rw [show d + 2 + i = d + (i + 2) by omega] at this
        exact List.mem_cons_of_mem _ this
    · rw [if_neg hc] at h ⊢
      match i, h with
      | 0, h => cases h; exact List.mem_cons_self
      | i + 1, h =>
        have := ih (d + 1) i v (by simpa using h) hn
        rw [show d + 1 + i = d + (i + 1) by omega] at this
        exact List.mem_cons_of_mem _ this
theorem zH_entry {q : Nat → Nat} {vs : List Value} {n : Nat} (h : (zexp vs).length ≤ n) : zH q ((lg_sl (vs.map (rv q)) ++ List.replicate (n - (lg_sl (vs.map (rv q))).length) Slot.unset).toArray) n (zent n vs) := by
  refine zH_of (lv_entry (vs.map (rv q)) (n := n) (by rw [← zexp_sl]; exact h)) (by simp [zent]; omega) fun i v hi hv => ?_
  unfold zent at hi
  by_cases hl : i < (zexp vs).length
  · rw [List.getElem?_append_left hl] at hi
    have := zexp_args q vs 0 i v hi hv
    rw [Nat.zero_add] at this
    exact this
  · rw [List.getElem?_append_right (by omega), List.getElem?_replicate] at hi
    split at hi
    · cases hi; exact absurd rfl hv
    · cases hi
theorem zin_vp {i : Int32} {n : Nat} (h : zin i n = true) : vp_in i n := by
  unfold zin at h
  unfold vp_in
  simp only [Bool.not_eq_true', Bool.or_eq_false_iff, decide_eq_false_iff_not] at h
  exact fun h2 => h2.elim h.1 h.2
