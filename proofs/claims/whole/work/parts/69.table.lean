-- KEEPING: the class's table is the best over the rows that are left
section IV
variable {M M' N : zM} {h y lw c k t a b n m d w g j : Nat} {Q : zR → zM → Prop} {x : Int32} {L : Nat → Nat → Nat} {f : Nat → Option (Nat × List Nat)}
def LW (M : zM) (h k g : Nat) : Nat := if k < h ∧ g < h then (fl M 1 k g).toNatClampNeg else 0
theorem flife_0 : ∀ s, s < 100 → ∀ r, r < 14 → (flife (nI s) 0 (nI r) = nI (flife (nI s) 0 (nI r)).toNatClampNeg ∧ (flife (nI s) 0 (nI r)).toNatClampNeg ≤ 99) := by decide +kernel
theorem fl_val (T : JT M h y lw) (hk : k < h) (hg : g < h) : fl M 1 k g = nI (LW M h k g) ∧ LW M h k g ≤ 99 := by
  have G := T.2.2.2.2.2.2.2.2.2 k hk
  obtain ⟨r, hr, er⟩ := JT_rate T hk hg
  obtain ⟨s, f, hs, hf, es, -⟩ := G.2.2.1
  unfold LW
  rw [if_pos ⟨hk, hg⟩]
  have e : fl M 1 k g = flife (nI s) (M 8 k) (nI r) := by
    show flife (M 3 k) (M 8 k) (frate (M 2 k) (M 5 k) (M 6 g)) = _
    rw [es, er]
  rw [e]
  by_cases hl : M 8 k = 0
  · rw [hl]
    exact flife_0 s (by omega) r (by omega)
  · unfold flife
    by_cases h0 : 0 < nI s
    · rw [if_pos h0, if_neg (fun e => hl e.1)]
      decide
    · rw [if_neg h0]
      decide
theorem LW_99 (T : JT M h y lw) (k g : Nat) : LW M h k g ≤ 99 := by
  by_cases c : k < h ∧ g < h
  · exact (fl_val T c.1 c.2).2
  · unfold LW
    rw [if_neg c]
    omega
def tv : Option (Nat × List Nat) → Int32
  | none => -1
  | some p => nI p.1
theorem tv_ne {p : Nat × List Nat} (hp : p.1 < 2 ^ 31) : ¬ tv (some p) = -1 := fun e => by
  have t1 : (nI p.1).toInt = p.1 := nI_toInt hp
  have e2 : nI p.1 = -1 := e
  rw [e2] at t1
  simp only [zt_m1] at t1
  omega
theorem tv_mg {u v : Option (Nat × List Nat)} (hu : ∀ p, u = some p → p.1 < 2 ^ 31) (hv : ∀ p, v = some p → p.1 < 2 ^ 31) : (if tv u < tv v then tv v else tv u) = tv (mg u v) := by
  cases u with
  | none =>
    cases v with
    | none => rfl
    | some q =>
      have : (-1 : Int32) < nI q.1 := by
        have t1 : (nI q.1).toInt = q.1 := nI_toInt (hv q rfl)
        rw [fa_lt, zt_m1, t1]
        omega
      show (if (-1 : Int32) < nI q.1 then nI q.1 else -1) = nI q.1
      rw [if_pos this]
  | some p =>
    cases v with
    | none =>
      have : ¬ nI p.1 < (-1 : Int32) := by
        have t1 : (nI p.1).toInt = p.1 := nI_toInt (hu p rfl)
        rw [fa_lt, zt_m1, t1]
        omega
      show (if nI p.1 < (-1 : Int32) then -1 else nI p.1) = nI p.1
      rw [if_neg this]
    | some q =>
      show (if nI p.1 < nI q.1 then nI q.1 else nI p.1) = tv (if p.1 < q.1 then some q else some p)
      have e := nI_ltI (hu p rfl) (hv q rfl)
      by_cases c : p.1 < q.1
      · rw [if_pos (e.mpr c), if_pos c]; rfl
      · rw [if_neg (mt e.mp c), if_neg c]; rfl
/-- what house n gives behind the taken houses w -/
def Fn (h : Nat) (L : Nat → Nat → Nat) (d w n : Nat) : Option (Nat × List Nat) := if n = h - (d + 1) ∨ w.testBit n = true then none else (Bt h L d (w ||| 2 ^ n)).map (fun p => (p.1 + L (h - (d + 1)) n, n :: p.2))
theorem Bt_Fn : Bt h L (d + 1) w = Bn (Fn h L d w) h := rfl
theorem Fn_bd (hL : ∀ k g, L k g ≤ 99) {p : Nat × List Nat} (e : Fn h L d w n = some p) : p.1 ≤ 99 * (d + 1) := by
  unfold Fn at e
  split at e
  · cases e
  · cases hx : Bt h L d (w ||| 2 ^ n) with
    | none => rw [hx] at e; cases e
    | some q =>
      rw [hx] at e
      cases e
      have h2 := Bt_bd hL d _ q.1 q.2 hx
      have h3 := hL (h - (d + 1)) n
      show q.1 + L (h - (d + 1)) n ≤ _
      omega
theorem Bn_bd (hL : ∀ k g, L k g ≤ 99) {p : Nat × List Nat} (e : Bn (Fn h L d w) n = some p) : p.1 ≤ 99 * (d + 1) := by
  obtain ⟨g, -, h1, -⟩ := Bn_at n p.1 p.2 e
  exact Fn_bd hL h1
theorem pop_al : ∀ h, h ≤ 6 → fpop 6 (2 ^ h - 1) = h := by decide +kernel
theorem pop_set : ∀ w, w < 64 → ∀ g, g < 6 → ¬ w.testBit g = true → (fpop 6 (w ||| 2 ^ g) = fpop 6 w + 1 ∧ w < w ||| 2 ^ g) := by decide +kernel
theorem or_lt2 : ∀ h, h ≤ 6 → ∀ w, w < 64 → w < 2 ^ h → ∀ g, g < 6 → g < h → w ||| 2 ^ g < 2 ^ h := by decide +kernel
/-- the table holds the best behind w for all sets that are larger -/
theorem flb_tv (T : JT M h y lw) (hN : ∀ e, e ≠ 28 → N e = M e) (hw : w < 2 ^ h) (hk : fpop 6 w = k) (hd : k + (d + 1) = h) (hT : ∀ g, g < h → ¬ w.testBit g = true → N 28 (w ||| 2 ^ g) = tv (Bt h (LW M h) d (w ||| 2 ^ g))) (hg : g < h) : flb N k g w = tv (Fn h (LW M h) d w g) := by
  have h6 := T.2.2.2.2.2.2.1
  have ek : h - (d + 1) = k := by omega
  unfold flb Fn
  rw [ek]
  by_cases c : g = k ∨ w.testBit g = true
  · rw [if_pos c, if_pos c]; rfl
  · rw [if_neg c, if_neg c, hT g hg (fun e => c (Or.inr e))]
    have efl : fl N 1 k g = nI (LW M h k g) := by
      rw [← (fl_val T (show k < h by omega) hg).1]
      unfold fl
      rw [hN (1 + 2) (by decide), hN (1 + 7) (by decide), hN (1 + 1) (by decide), hN (1 + 4) (by decide), hN (1 + 5) (by decide)]
    cases hx : Bt h (LW M h) d (w ||| 2 ^ g) with
    | none =>
      rw [show tv none = -1 from rfl, if_pos rfl]
      rfl
    | some p =>
      have hb := Bt_bd (LW_99 T) d _ p.1 p.2 hx
      rw [if_neg (tv_ne (by omega)), efl]
      show nI p.1 + nI (LW M h k g) = nI (p.1 + LW M h k g)
      exact nI_add _ _
theorem fmx_tv (T : JT M h y lw) (hN : ∀ e, e ≠ 28 → N e = M e) (hw : w < 2 ^ h) (hk : fpop 6 w = k) (hd : k + (d + 1) = h) (hT : ∀ g, g < h → ¬ w.testBit g = true → N 28 (w ||| 2 ^ g) = tv (Bt h (LW M h) d (w ||| 2 ^ g))) : ∀ n, n ≤ h → fmx N k w n = tv (Bn (Fn h (LW M h) d w) n) := by
  intro n
  have h6 := T.2.2.2.2.2.2.1
  induction n with
  | zero => intro _; rfl
  | succ n ih =>
    intro hn
    simp only [fmx, Bn]
    rw [ih (by omega), flb_tv T hN hw hk hd hT (show n < h by omega)]
    exact tv_mg (fun p hp => by have := Bn_bd (LW_99 T) hp; omega) (fun p hp => by have := Fn_bd (LW_99 T) hp; omega)
theorem weigh_tbl (T : JT M h y lw) (h2 : 0 < h) : ∀ j, j ≤ 2 ^ h - 1 → ∀ w, 2 ^ h - 1 - j ≤ w → w < 2 ^ h → WN M h (2 ^ h - 1) j 28 w = tv (Bt h (LW M h) (h - fpop 6 w) w) := by
  have h6 := T.2.2.2.2.2.2.1
  have hp : 0 < 2 ^ h := Nat.two_pow_pos h
  have h64 : 2 ^ h ≤ 2 ^ 6 := Nat.pow_le_pow_right (by omega) h6
  intro j
  induction j with
  | zero =>
    intro _ w h1 hw
    obtain rfl : w = 2 ^ h - 1 := by omega
    rw [pop_al h h6, Nat.sub_self]
    show zup M 28 (2 ^ h - 1) 0 28 (2 ^ h - 1) = _
    rw [zup_app, if_pos rfl, if_pos rfl]
    rfl
  | succ j ih =>
    intro hj w h1 hw
    have ih' := ih (by omega)
    simp only [WN]
    rw [zup_app, if_pos rfl]
    by_cases e : w = 2 ^ h - 1 - 1 - j
    · rw [if_pos e, ← e]
      have hk := pop_lt h h6 w (by omega) (by omega)
      obtain ⟨d, hd⟩ : ∃ d, fpop 6 w + (d + 1) = h := ⟨h - fpop 6 w - 1, by omega⟩
      have ed : h - fpop 6 w = d + 1 := by omega
      rw [ed, Bt_Fn]
      refine fmx_tv T (fun e he => WN_ne M h _ he j) hw rfl hd (fun g hg hb => ?_) h (Nat.le_refl h)
      obtain ⟨p1, p2⟩ := pop_set w (by omega) g (by omega) hb
      rw [ih' (w ||| 2 ^ g) (by omega) (or_lt2 h h6 w (by omega) hw g (by omega) hg), p1, show h - (fpop 6 w + 1) = d by omega]
    · rw [if_neg e]
      exact ih' w (by omega) hw
theorem fho_at {p : Nat × List Nat} (hF : ∀ g, g < h → flb N k g w = tv (f g)) (hT : N 28 w = tv (some p)) (hb : ∀ g, g < h → ∀ q, f g = some q → q.1 < 2 ^ 31) (hg : g < h) (h1 : f g = some p) (h2 : ∀ g', g' < g → ∀ m' b', f g' = some (m', b') → m' < p.1) : ∀ d e, e + d = h → e ≤ g → fho N k w d e = nI g := by
  have hp := hb g hg p h1
  intro d
  induction d with
  | zero => intro e he hg2; omega
  | succ d ih =>
    intro e he hg2
    simp only [fho]
    rw [hF e (by omega)]
    by_cases c : e = g
    · subst c
      rw [h1, if_pos ⟨tv_ne hp, hT.symm⟩]
    · rw [if_neg]
      · exact ih (e + 1) (by omega) (by omega)
      · rintro ⟨n1, n2⟩
        cases hx : f e with
        | none => rw [hx] at n1; exact n1 rfl
        | some q =>
          rw [hx, hT] at n2
          have hq := hb e (by omega) q hx
          have h3 := h2 e (by omega) q.1 q.2 hx
          have n3 : nI q.1 = nI p.1 := n2
          have := (nI_eq hq hp).mp n3
          omega
end IV
