-- KEEPING: rows in their order and the table over sets, without a machine
section PU
variable {h d w n m k g a b : Nat} {L : Nat → Nat → Nat} {V : List Nat → Nat} {f : Nat → Option (Nat × List Nat)}
def mg (x y : Option (Nat × List Nat)) : Option (Nat × List Nat) := match x with
  | none => y
  | some p => match y with
    | none => some p
    | some q => if p.1 < q.1 then some q else some p
theorem mg_none (x : Option (Nat × List Nat)) : mg x none = x := by cases x <;> rfl
theorem none_mg (x : Option (Nat × List Nat)) : mg none x = x := rfl
theorem mg_assoc (x y z : Option (Nat × List Nat)) : mg (mg x y) z = mg x (mg y z) := by
  cases x with
  | none => rfl
  | some p =>
    cases y with
    | none => rfl
    | some q =>
      cases z with
      | none => rw [mg_none, mg_none]
      | some r =>
        simp only [mg]
        by_cases h1 : p.1 < q.1
        · by_cases h2 : q.1 < r.1
          · simp only [if_pos h1, if_pos h2, if_pos (show p.1 < r.1 by omega)]
          · simp only [if_pos h1, if_neg h2]
        · by_cases h2 : q.1 < r.1
          · simp only [if_neg h1, if_pos h2]
          · simp only [if_neg h1, if_neg h2, if_neg (show ¬ p.1 < r.1 by omega)]
def Bn (f : Nat → Option (Nat × List Nat)) : Nat → Option (Nat × List Nat)
  | 0 => none
  | n + 1 => mg (Bn f n) (f n)
def Bt (h : Nat) (L : Nat → Nat → Nat) : Nat → Nat → Option (Nat × List Nat)
  | 0, _ => some (0, [])
  | d + 1, w => Bn (fun n => if n = h - (d + 1) ∨ w.testBit n = true then none else (Bt h L d (w ||| 2 ^ n)).map (fun p => (p.1 + L (h - (d + 1)) n, n :: p.2))) h
def En (h : Nat) : Nat → Nat → List (List Nat)
  | 0, _ => [[]]
  | d + 1, w => (List.range h).flatMap (fun n => if n = h - (d + 1) ∨ w.testBit n = true then [] else (En h d (w ||| 2 ^ n)).map (fun r => n :: r))
def Vl (L : Nat → Nat → Nat) : Nat → List Nat → Nat
  | _, [] => 0
  | k, g :: r => L k g + Vl L (k + 1) r
def bs (V : List Nat → Nat) (l : List (List Nat)) : Option (Nat × List Nat) := l.foldl (fun s r => mg s (some (V r, r))) none
theorem fold_mg (l : List (List Nat)) : ∀ s, l.foldl (fun s r => mg s (some (V r, r))) s = mg s (bs V l) := by
  induction l with
  | nil => intro s; exact (mg_none s).symm
  | cons r l ih =>
    intro s
    unfold bs
    simp only [List.foldl_cons]
    rw [ih, ih (mg none (some (V r, r))), none_mg, mg_assoc]
theorem bs_append (l1 l2 : List (List Nat)) : bs V (l1 ++ l2) = mg (bs V l1) (bs V l2) := by
  rw [← fold_mg]
  unfold bs
  rw [List.foldl_append]
theorem mg_map (g c : Nat) (x y : Option (Nat × List Nat)) : (mg x y).map (fun p => (p.1 + c, g :: p.2)) = mg (x.map (fun p => (p.1 + c, g :: p.2))) (y.map (fun p => (p.1 + c, g :: p.2))) := by
  cases x with
  | none => rfl
  | some p =>
    cases y with
    | none => rfl
    | some q =>
      simp only [mg, Option.map_some]
      by_cases h1 : p.1 < q.1
      · rw [if_pos h1, if_pos (show p.1 + c < q.1 + c by omega)]; rfl
      · rw [if_neg h1, if_neg (show ¬ p.1 + c < q.1 + c by omega)]; rfl
theorem bs_map (k g : Nat) (l : List (List Nat)) : bs (Vl L k) (l.map (fun r => g :: r)) = (bs (Vl L (k + 1)) l).map (fun p => (p.1 + L k g, g :: p.2)) := by
  induction l with
  | nil => rfl
  | cons r l ih =>
    have e1 : ∀ (V : List Nat → Nat) (r : List Nat) (l : List (List Nat)), bs V (r :: l) = mg (some (V r, r)) (bs V l) := fun V r l => by
      have := bs_append (V := V) [r] l
      exact this
    rw [List.map_cons, e1, e1, ih, mg_map]
    congr 1
    show some (L k g + Vl L (k + 1) r, g :: r) = some (Vl L (k + 1) r + L k g, g :: r)
    rw [Nat.add_comm]
theorem bs_flat (F : Nat → List (List Nat)) : ∀ n, bs V ((List.range n).flatMap F) = Bn (fun i => bs V (F i)) n := by
  intro n
  induction n with
  | zero => rfl
  | succ n ih =>
    rw [List.range_succ, List.flatMap_append, bs_append, ih]
    simp only [List.flatMap_cons, List.flatMap_nil, List.append_nil, Bn]
theorem bs_En : ∀ d w, d ≤ h → bs (Vl L (h - d)) (En h d w) = Bt h L d w := by
  intro d
  induction d with
  | zero => intro w _; rfl
  | succ d ih =>
    intro w hd
    simp only [En, Bt]
    rw [bs_flat]
    congr 1
    funext n
    by_cases c : n = h - (d + 1) ∨ w.testBit n = true
    · rw [if_pos c, if_pos c]; rfl
    · rw [if_neg c, if_neg c, bs_map, show h - (d + 1) + 1 = h - d by omega, ih _ (by omega)]
theorem Bn_at : ∀ n m b, Bn f n = some (m, b) → ∃ g, g < n ∧ f g = some (m, b) ∧ ∀ g', g' < g → ∀ m' b', f g' = some (m', b') → m' < m := by
  intro n
  induction n with
  | zero => intro m b h; cases h
  | succ n ih =>
    intro m b h
    simp only [Bn] at h
    cases hx : Bn f n with
    | none =>
      rw [hx, none_mg] at h
      have nn : ∀ n, Bn f n = none → ∀ g, g < n → f g = none := by
        intro n
        induction n with
        | zero => intro _ g hg; omega
        | succ n ih2 =>
          intro h2 g hg
          simp only [Bn] at h2
          cases hy : Bn f n with
          | none =>
            rw [hy, none_mg] at h2
            by_cases e : g = n
            · rw [e]; exact h2
            · exact ih2 hy g (by omega)
          | some p =>
            rw [hy] at h2
            cases hz : f n with
            | none => rw [hz, mg_none] at h2; cases h2
            | some q =>
              rw [hz] at h2
              simp only [mg] at h2
              split at h2 <;> cases h2
      exact ⟨n, by omega, h, fun g' hg' m' b' e => by rw [nn n hx g' hg'] at e; cases e⟩
    | some p =>
      obtain ⟨p1, p2⟩ := p
      obtain ⟨g, hg, h1, h2⟩ := ih p1 p2 hx
      rw [hx] at h
      cases hz : f n with
      | none =>
        rw [hz, mg_none] at h
        cases h
        exact ⟨g, by omega, h1, h2⟩
      | some q =>
        rw [hz] at h
        simp only [mg] at h
        split at h
        · rename_i hlt
          cases h
          have all : ∀ n p1 p2, Bn f n = some (p1, p2) → ∀ g, g < n → ∀ m' b', f g = some (m', b') → m' ≤ p1 := by
            intro n
            induction n with
            | zero => intro p1 p2 _ g hg; omega
            | succ n ih2 =>
              intro p1 p2 h3 g hg m' b' e
              simp only [Bn] at h3
              cases hy : Bn f n with
              | none =>
                rw [hy, none_mg] at h3
                by_cases eg : g = n
                · rw [eg, h3] at e; cases e; exact Nat.le_refl _
                · have nn : ∀ n, Bn f n = none → ∀ g, g < n → f g = none := by
                    intro n
                    induction n with
                    | zero => intro _ g hg; omega
                    | succ n ih4 =>
                      intro h2 g hg
                      simp only [Bn] at h2
                      cases hy : Bn f n with
                      | none =>
                        rw [hy, none_mg] at h2
                        by_cases e : g = n
                        · rw [e]; exact h2
                        · exact ih4 hy g (by omega)
                      | some p =>
                        rw [hy] at h2
                        cases hz : f n with
                        | none => rw [hz, mg_none] at h2; cases h2
                        | some q =>
                          rw [hz] at h2
                          simp only [mg] at h2
                          split at h2 <;> cases h2
                  rw [nn n hy g (by omega)] at e
                  cases e
              | some p =>
                obtain ⟨q1, q2⟩ := p
                rw [hy] at h3
                cases hz : f n with
                | none =>
                  rw [hz, mg_none] at h3
                  cases h3
                  by_cases eg : g = n
                  · rw [eg, hz] at e; cases e
                  · exact ih2 _ _ hy g (by omega) m' b' e
                | some r =>
                  rw [hz] at h3
                  simp only [mg] at h3
                  by_cases eg : g = n
                  · rw [eg, hz] at e
                    cases e
                    split at h3
                    · cases h3; exact Nat.le_refl _
                    · rename_i hnl; cases h3; omega
                  · have := ih2 _ _ hy g (by omega) m' b' e
                    split at h3
                    · rename_i hl; cases h3; simp only at hl; omega
                    · cases h3; exact this
          exact ⟨n, by omega, hz, fun g' hg' m' b' e => by
            have := all n _ _ hx g' hg' m' b' e
            simp only at hlt
            omega⟩
        · cases h
          exact ⟨g, by omega, h1, h2⟩
theorem Bt_bd (hL : ∀ k g, L k g ≤ 99) : ∀ d w m b, Bt h L d w = some (m, b) → m ≤ 99 * d := by
  intro d
  induction d with
  | zero => intro w m b e; cases e; exact Nat.le_refl _
  | succ d ih =>
    intro w m b e
    simp only [Bt] at e
    obtain ⟨g, hg, h1, -⟩ := Bn_at h m b e
    split at h1
    · cases h1
    · cases hx : Bt h L d (w ||| 2 ^ g) with
      | none => rw [hx] at h1; cases h1
      | some p =>
        rw [hx] at h1
        cases h1
        have h2 := ih _ p.1 p.2 hx
        have h3 := hL (h - (d + 1)) g
        omega
end PU
