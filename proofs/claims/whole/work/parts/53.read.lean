-- SEE: the class reads a text into the draft
section IV
variable {M M' : zM} {h y lw c k t a b o n r p m j : Nat} {Q : zR → zM → Prop} {x : Int32} {G : Nat → Int32}
def okj (G : Nat → Int32) (k j : Nat) : Prop := if j = 0 then G (2 + 7 * k) = 59 else if j = 1 then 0 ≤ fknd (G (3 + 7 * k)) else if j = 2 then 0 ≤ fdig (G (4 + 7 * k))
  else if j = 3 then 0 ≤ fdig (G (5 + 7 * k)) ∧ 0 < 10 * fdig (G (4 + 7 * k)) + fdig (G (5 + 7 * k)) else if j = 4 then 0 ≤ fdig (G (6 + 7 * k))
  else if j = 5 then 0 ≤ fdig (G (7 + 7 * k)) ∧ fdig (G (7 + 7 * k)) < 4 else 0 ≤ fdig (G (8 + 7 * k)) ∧ fdig (G (8 + 7 * k)) < fdig (G 1)
/-- code p is taken, if all before it are -/
def okc (G : Nat → Int32) (p : Nat) : Prop := if p = 0 then G 0 = 115 else if p = 1 then 2 ≤ fdig (G 1) ∧ fdig (G 1) ≤ 6 else nI ((p - 2) / 7) < fdig (G 1) ∧ okj G ((p - 2) / 7) ((p - 2) % 7)
def DM (M : zM) (G : Nat → Int32) (p : Nat) : zM := fun a i =>
  if a = 9 then (if i = 7 ∧ 2 ≤ p then fdig (G 1) else M 9 i) else if a = 10 then (if 3 + 7 * i < p then fknd (G (3 + 7 * i)) else M 10 i)
  else if a = 12 then (if 5 + 7 * i < p then 10 * fdig (G (4 + 7 * i)) + fdig (G (5 + 7 * i)) else if 4 + 7 * i < p then 10 * fdig (G (4 + 7 * i)) else M 12 i)
  else if a = 13 then (if 6 + 7 * i < p then fdig (G (6 + 7 * i)) else M 13 i) else if a = 14 then (if 7 + 7 * i < p then fdig (G (7 + 7 * i)) else M 14 i)
  else if a = 15 then (if 8 + 7 * i < p then fdig (G (8 + 7 * i)) else M 15 i) else M a i
theorem DM_o (ha : a < 9 ∨ 15 < a) : DM M G p a = M a := by
  funext i
  unfold DM
  rw [if_neg (by omega), if_neg (by omega), if_neg (by omega), if_neg (by omega), if_neg (by omega), if_neg (by omega)]
theorem DM_0 : DM M G 0 = M := by
  funext a i
  unfold DM
  repeat' split
  all_goals first | omega | (subst_vars; rfl)
theorem DM_1 : DM M G 1 = M := by
  funext a i
  unfold DM
  repeat' split
  all_goals first | omega | (subst_vars; rfl)
theorem DM_2 : zup M 9 7 (fdig (G 1)) = DM M G 2 := by
  funext a i
  unfold DM
  rw [zup_app]
  repeat' split
  all_goals first | omega | (subst_vars; rfl) | simp_all
theorem DM_s0 : DM M G (2 + 7 * k) = DM M G (3 + 7 * k) := by
  funext a i
  unfold DM
  repeat' split
  all_goals first | omega | rfl
theorem DM_s1 : zup (DM M G (3 + 7 * k)) 10 k (fknd (G (3 + 7 * k))) = DM M G (4 + 7 * k) := by
  funext a i
  rw [zup_app]
  unfold DM
  by_cases e : i = k
  · subst e
    repeat' split
    all_goals first | omega | rfl | simp_all
  · repeat' split
    all_goals first | omega | rfl | simp_all
theorem DM_s2 : zup (DM M G (4 + 7 * k)) 12 k (10 * fdig (G (4 + 7 * k))) = DM M G (5 + 7 * k) := by
  funext a i
  rw [zup_app]
  unfold DM
  by_cases e : i = k
  · subst e
    repeat' split
    all_goals first | omega | rfl | simp_all
  · repeat' split
    all_goals first | omega | rfl | simp_all
theorem DM_a3 : DM M G (5 + 7 * k) 12 k = 10 * fdig (G (4 + 7 * k)) := by
  unfold DM
  rw [if_neg (by omega), if_neg (by omega), if_pos rfl, if_neg (by omega), if_pos (by omega)]
theorem DM_s3 : zup (DM M G (5 + 7 * k)) 12 k (10 * fdig (G (4 + 7 * k)) + fdig (G (5 + 7 * k))) = DM M G (6 + 7 * k) := by
  funext a i
  rw [zup_app]
  unfold DM
  by_cases e : i = k
  · subst e
    repeat' split
    all_goals first | omega | rfl | simp_all
  · repeat' split
    all_goals first | omega | rfl | simp_all
theorem DM_s4 : zup (DM M G (6 + 7 * k)) 13 k (fdig (G (6 + 7 * k))) = DM M G (7 + 7 * k) := by
  funext a i
  rw [zup_app]
  unfold DM
  by_cases e : i = k
  · subst e
    repeat' split
    all_goals first | omega | rfl | simp_all
  · repeat' split
    all_goals first | omega | rfl | simp_all
theorem DM_s5 : zup (DM M G (7 + 7 * k)) 14 k (fdig (G (7 + 7 * k))) = DM M G (8 + 7 * k) := by
  funext a i
  rw [zup_app]
  unfold DM
  by_cases e : i = k
  · subst e
    repeat' split
    all_goals first | omega | rfl | simp_all
  · repeat' split
    all_goals first | omega | rfl | simp_all
theorem DM_s6 : zup (DM M G (8 + 7 * k)) 15 k (fdig (G (8 + 7 * k))) = DM M G (2 + 7 * (k + 1)) := by
  funext a i
  rw [zup_app]
  unfold DM
  by_cases e : i = k
  · subst e
    repeat' split
    all_goals first | omega | rfl | simp_all
  · repeat' split
    all_goals first | omega | rfl | simp_all
theorem DM_h (hp : 2 ≤ p) : DM M G p 9 7 = fdig (G 1) := by
  unfold DM
  rw [if_pos rfl, if_pos ⟨rfl, hp⟩]
theorem zb_zbp {P : Prop} [Decidable P] : zb1 P = zbp P := by
  by_cases e : P
  · rw [zb1_t e, zbp_t e]
  · rw [zb1_f e, zbp_f e]
/-- one code is taken, or not; the draft behind it -/
theorem t_step (hp : p < 1000) (H6 : 2 ≤ p → h ≤ 6 ∧ fdig (G 1) = nI h) : ∃ N : zM, (∀ a, a < 9 ∨ 15 < a → N a = M a) ∧ (okc G p → N = DM M G (p + 1)) ∧ ∀ Q' : zR → zM → Prop, zQ 20 0 [.ref 9, .int (nI p), .int (G p), .null] [] (DM M G p) Q' ↔ Q' (zI (zbp (okc G p))) N := by
  by_cases p0 : p = 0
  · subst p0
    refine ⟨DM M G 1, fun a ha => DM_o ha, fun _ => rfl, fun Q' => ?_⟩
    rw [DM_0, DM_1, nI_0]
    have e : okc G 0 = (G 0 = 115) := rfl
    rw [e, ← zb_zbp]
    exact s_take0
  by_cases p1 : p = 1
  · subst p1
    refine ⟨DM M G 2, fun a ha => DM_o ha, fun _ => rfl, fun Q' => ?_⟩
    rw [← DM_2, DM_1]
    have e : okc G 1 = (2 ≤ fdig (G 1) ∧ fdig (G 1) ≤ 6) := rfl
    rw [e, ← zb_zbp]
    exact s_take1
  have hp2 : 2 ≤ p := by omega
  obtain ⟨h6, hG⟩ := H6 hp2
  have hH : DM M G p 9 7 = nI h := (DM_h hp2).trans hG
  have eo : okc G p = (nI ((p - 2) / 7) < fdig (G 1) ∧ okj G ((p - 2) / 7) ((p - 2) % 7)) := by unfold okc; rw [if_neg p0, if_neg p1]
  by_cases hk : (p - 2) / 7 < h
  · refine ⟨DM M G (p + 1), fun a ha => DM_o ha, fun _ => rfl, fun Q' => ?_⟩
    have eo2 : okc G p = okj G ((p - 2) / 7) ((p - 2) % 7) := by
      rw [eo, hG]
      exact propext ⟨fun e => e.2, fun e => ⟨nI_lt hk (by omega), e⟩⟩
    rw [eo2]
    generalize ek : (p - 2) / 7 = k at *
    have hk6 : k < 6 := by omega
    have hj : (p - 2) % 7 = 0 ∨ (p - 2) % 7 = 1 ∨ (p - 2) % 7 = 2 ∨ (p - 2) % 7 = 3 ∨ (p - 2) % 7 = 4 ∨ (p - 2) % 7 = 5 ∨ (p - 2) % 7 = 6 := by omega
    rcases hj with ej | ej | ej | ej | ej | ej | ej
    · obtain rfl : p = 2 + 7 * k := by omega
      rw [ej, show okj G k 0 = (G (2 + 7 * k) = 59) from rfl, ← zb_zbp, show 2 + 7 * k + 1 = 3 + 7 * k by omega, ← DM_s0]
      exact s_takeN hp2 hp hH (by omega) h6 (fun Q' => by rw [ek, ej]; exact s_code0 hk6)
    · obtain rfl : p = 3 + 7 * k := by omega
      rw [ej, show okj G k 1 = (0 ≤ fknd (G (3 + 7 * k))) from rfl, ← zb_zbp, show 3 + 7 * k + 1 = 4 + 7 * k by omega, ← DM_s1]
      exact s_takeN hp2 hp hH (by omega) h6 (fun Q' => by rw [ek, ej]; exact s_code1 hk6)
    · obtain rfl : p = 4 + 7 * k := by omega
      rw [ej, show okj G k 2 = (0 ≤ fdig (G (4 + 7 * k))) from rfl, ← zb_zbp, show 4 + 7 * k + 1 = 5 + 7 * k by omega, ← DM_s2]
      exact s_takeN hp2 hp hH (by omega) h6 (fun Q' => by rw [ek, ej]; exact s_code2 hk6)
    · obtain rfl : p = 5 + 7 * k := by omega
      rw [ej, show okj G k 3 = (0 ≤ fdig (G (5 + 7 * k)) ∧ 0 < 10 * fdig (G (4 + 7 * k)) + fdig (G (5 + 7 * k))) from rfl, ← zb_zbp, show 5 + 7 * k + 1 = 6 + 7 * k by omega, ← DM_s3]
      exact s_takeN hp2 hp hH (by omega) h6 (fun Q' => by
        have := s_code3 (M := DM M G (5 + 7 * k)) (Q := Q') (x := G (5 + 7 * k)) hk6
        rw [DM_a3] at this
        rw [ek, ej]; exact this)
    · obtain rfl : p = 6 + 7 * k := by omega
      rw [ej, show okj G k 4 = (0 ≤ fdig (G (6 + 7 * k))) from rfl, ← zb_zbp, show 6 + 7 * k + 1 = 7 + 7 * k by omega, ← DM_s4]
      exact s_takeN hp2 hp hH (by omega) h6 (fun Q' => by rw [ek, ej]; exact s_code4 hk6)
    · obtain rfl : p = 7 + 7 * k := by omega
      rw [ej, show okj G k 5 = (0 ≤ fdig (G (7 + 7 * k)) ∧ fdig (G (7 + 7 * k)) < 4) from rfl, ← zb_zbp, show 7 + 7 * k + 1 = 8 + 7 * k by omega, ← DM_s5]
      exact s_takeN hp2 hp hH (by omega) h6 (fun Q' => by rw [ek, ej]; exact s_code5 hk6)
    · obtain rfl : p = 8 + 7 * k := by omega
      rw [ej, show okj G k 6 = (0 ≤ fdig (G (8 + 7 * k)) ∧ fdig (G (8 + 7 * k)) < fdig (G 1)) from rfl, ← zb_zbp, show 8 + 7 * k + 1 = 2 + 7 * (k + 1) by omega, ← DM_s6]
      exact s_takeN hp2 hp hH (by omega) h6 (fun Q' => by
        have := s_code6 (M := DM M G (8 + 7 * k)) (Q := Q') (x := G (8 + 7 * k)) hk6
        rw [DM_h (by omega)] at this
        rw [ek, ej]; exact this)
  · refine ⟨DM M G p, fun a ha => DM_o ha, fun e => ?_, fun Q' => ?_⟩
    · rw [eo, hG] at e
      exact absurd ((nI_ltI (by omega) (by omega)).mp e.1) hk
    · have : ¬ okc G p := fun e => by
        rw [eo, hG] at e
        exact absurd ((nI_ltI (by omega) (by omega)).mp e.1) hk
      rw [zbp_f this]
      exact s_takeN_no hp2 hp hH hk h6
end IV
