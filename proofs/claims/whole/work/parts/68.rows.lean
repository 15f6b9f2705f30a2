-- KEEPING: the rows one after another, as lists
section PU
variable {h d w n m k g a b : Nat} {L : Nat → Nat → Nat} {V : List Nat → Nat} {r r' : List Nat}
def ksw (r : List Nat) (a b : Nat) : List Nat := (r.set a (r.getD b 0)).set b (r.getD a 0)
def kfa (r : List Nat) : Nat → Option Nat
  | 0 => none
  | n + 1 => if r.getD (n + 1) 0 < r.getD n 0 then kfa r n else some n
def kfb (r : List Nat) (x : Nat) : Nat → Nat
  | 0 => 0
  | n + 1 => if r.getD n 0 < x then kfb r x n else n
def krv : Nat → Nat → Nat → List Nat → List Nat
  | 0, _, _, r => r
  | f + 1, lo, hi, r => if lo < hi then krv f (lo + 1) (hi - 1) (ksw r lo hi) else r
def knx (h : Nat) (r : List Nat) : Option (List Nat) := match kfa r (h - 1) with
  | none => none
  | some a => some (krv h (a + 1) (h - 1) (ksw r a (kfb r (r.getD a 0) h)))
def kits (h : Nat) : Nat → List Nat → List (List Nat)
  | 0, r => [r]
  | n + 1, r => match knx h r with
    | none => [r]
    | some r' => r :: kits h n r'
def kends (h : Nat) : Nat → List Nat → Bool
  | 0, r => (knx h r).isNone
  | n + 1, r => match knx h r with
    | none => true
    | some r' => kends h n r'
def kder (h : Nat) (r : List Nat) : Bool := (List.range h).all (fun k => !(r.getD k 0 == k))
theorem rows_2 : (kits 2 720 (List.range 2)).filter (kder 2) = En 2 2 0 ∧ kends 2 720 (List.range 2) = true ∧ (En 2 2 0).length = 1 := by decide +kernel
theorem rows_3 : (kits 3 720 (List.range 3)).filter (kder 3) = En 3 3 0 ∧ kends 3 720 (List.range 3) = true ∧ (En 3 3 0).length = 2 := by decide +kernel
theorem rows_4 : (kits 4 720 (List.range 4)).filter (kder 4) = En 4 4 0 ∧ kends 4 720 (List.range 4) = true ∧ (En 4 4 0).length = 9 := by decide +kernel
theorem rows_5 : (kits 5 720 (List.range 5)).filter (kder 5) = En 5 5 0 ∧ kends 5 720 (List.range 5) = true ∧ (En 5 5 0).length = 44 := by decide +kernel
theorem rows_6 : (kits 6 720 (List.range 6)).filter (kder 6) = En 6 6 0 ∧ kends 6 720 (List.range 6) = true ∧ (En 6 6 0).length = 265 := by decide +kernel
theorem rows_h (h2 : 2 ≤ h) (h6 : h ≤ 6) : (kits h 720 (List.range h)).filter (kder h) = En h h 0 ∧ kends h 720 (List.range h) = true ∧ 0 < (En h h 0).length := by
  have : h = 2 ∨ h = 3 ∨ h = 4 ∨ h = 5 ∨ h = 6 := by omega
  rcases this with rfl | rfl | rfl | rfl | rfl
  · obtain ⟨a, b, c⟩ := rows_2; exact ⟨a, b, by rw [c]; decide⟩
  · obtain ⟨a, b, c⟩ := rows_3; exact ⟨a, b, by rw [c]; decide⟩
  · obtain ⟨a, b, c⟩ := rows_4; exact ⟨a, b, by rw [c]; decide⟩
  · obtain ⟨a, b, c⟩ := rows_5; exact ⟨a, b, by rw [c]; decide⟩
  · obtain ⟨a, b, c⟩ := rows_6; exact ⟨a, b, by rw [c]; decide⟩
theorem bs_some (l : List (List Nat)) (hl : 0 < l.length) : ∃ p, bs V l = some p := by
  cases l with
  | nil => simp at hl
  | cons r l =>
    have e : bs V (r :: l) = mg (some (V r, r)) (bs V l) := bs_append (V := V) [r] l
    rw [e]
    cases bs V l with
    | none => exact ⟨_, rfl⟩
    | some q =>
      simp only [mg]
      split
      · exact ⟨_, rfl⟩
      · exact ⟨_, rfl⟩
/-- the reference's state behind a list of rows -/
def kst (h : Nat) (V : List Nat → Nat) (s : Option (Nat × List Nat)) (r : List Nat) : Option (Nat × List Nat) := if kder h r = true then mg s (some (V r, r)) else s
theorem kst_bs (l : List (List Nat)) : ∀ s, l.foldl (kst h V) s = mg s (bs V (l.filter (kder h))) := by
  induction l with
  | nil => intro s; exact (mg_none s).symm
  | cons r l ih =>
    intro s
    simp only [List.foldl_cons]
    rw [ih]
    unfold kst
    by_cases c : kder h r = true
    · rw [if_pos c, List.filter_cons_of_pos c]
      have e : bs V (r :: l.filter (kder h)) = mg (some (V r, r)) (bs V (l.filter (kder h))) := bs_append (V := V) [r] _
      rw [e, mg_assoc]
    · rw [if_neg c, List.filter_cons_of_neg c]
theorem rows_best (h2 : 2 ≤ h) (h6 : h ≤ 6) : (kits h 720 (List.range h)).foldl (kst h (Vl L 0)) none = Bt h L h 0 ∧ ∃ p, Bt h L h 0 = some p := by
  obtain ⟨e1, -, e3⟩ := rows_h h2 h6
  have e := bs_En (L := L) (h := h) h 0 (Nat.le_refl h)
  rw [Nat.sub_self] at e
  rw [kst_bs, e1, none_mg, e]
  refine ⟨rfl, ?_⟩
  rw [← e]
  exact bs_some _ e3
/-- rows of h houses -/
def kvr (h : Nat) (r : List Nat) : Prop := r.length = h ∧ ∀ i, i < h → r.getD i 0 < h
theorem ksw_at (hr : r.length = h) (ha : a < h) (hb : b < h) (i : Nat) : (ksw r a b).getD i 0 = if i = b then r.getD a 0 else if i = a then r.getD b 0 else r.getD i 0 := by
  unfold ksw
  simp only [List.getD_eq_getElem?_getD, List.getElem?_set, List.length_set, hr]
  by_cases c1 : i = b
  · subst c1
    simp [hb]
  · by_cases c2 : i = a
    · subst c2
      simp [c1, Ne.symm c1, ha]
    · simp [c1, c2, Ne.symm c1, Ne.symm c2]
theorem ksw_vr (hr : kvr h r) (ha : a < h) (hb : b < h) : kvr h (ksw r a b) := by
  refine ⟨by unfold ksw; simp [hr.1], fun i hi => ?_⟩
  rw [ksw_at hr.1 ha hb]
  split
  · exact hr.2 a ha
  · split
    · exact hr.2 b hb
    · exact hr.2 i hi
theorem krv_vr : ∀ f lo hi r, kvr h r → hi < h → kvr h (krv f lo hi r) := by
  intro f
  induction f with
  | zero => intro lo hi r hr _; exact hr
  | succ f ih =>
    intro lo hi r hr hh
    simp only [krv]
    split
    · exact ih _ _ _ (ksw_vr hr (by omega) hh) (by omega)
    · exact hr
theorem kfa_lt2 : ∀ n a, kfa r n = some a → a < n ∧ ¬ r.getD (a + 1) 0 < r.getD a 0 := by
  intro n
  induction n with
  | zero => intro a e; cases e
  | succ n ih =>
    intro a e
    simp only [kfa] at e
    split at e
    · have := ih a e
      exact ⟨by omega, this.2⟩
    · rename_i hn
      cases e
      exact ⟨by omega, hn⟩
theorem kfb_gt (ha : ¬ r.getD (a + 1) 0 < r.getD a 0) : ∀ n, a + 1 < n → a + 1 ≤ kfb r (r.getD a 0) n ∧ kfb r (r.getD a 0) n < n := by
  intro n
  induction n with
  | zero => intro h; omega
  | succ n ih =>
    intro hn
    simp only [kfb]
    by_cases c : r.getD n 0 < r.getD a 0
    · rw [if_pos c]
      by_cases e : n = a + 1
      · subst e; exact absurd c ha
      · have := ih (by omega)
        omega
    · rw [if_neg c]; omega
theorem knx_vr (hr : kvr h r) (e : knx h r = some r') : kvr h r' := by
  unfold knx at e
  cases hf : kfa r (h - 1) with
  | none => rw [hf] at e; cases e
  | some a =>
    rw [hf] at e
    cases e
    obtain ⟨h1, h2⟩ := kfa_lt2 _ _ hf
    have h3 := kfb_gt h2 h (by omega)
    exact krv_vr _ _ _ _ (ksw_vr hr (by omega) (by omega)) (by omega)
theorem range_vr : kvr h (List.range h) := by
  refine ⟨List.length_range, fun i hi => ?_⟩
  simp [List.getD_eq_getElem?_getD, hi]
theorem range_at (hi : n < h) : (List.range h).getD n 0 = n := by
  simp [List.getD_eq_getElem?_getD, hi]
end PU
