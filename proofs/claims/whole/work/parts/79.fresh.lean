-- the fresh world
def M0 : zM := fun c => if c = 61 then upd (upd (upd (upd (fun _ => 0) 0 (-1)) 1 (-1)) 2 (-1)) 3 (-1) else fun _ => 0
theorem M0_0 {c : Nat} (h : c ≠ 61) (j : Nat) : M0 c j = 0 := by unfold M0; rw [if_neg h]
theorem M0_61 : ∀ k, k < 4 → M0 61 k = -1 := by decide
theorem zV_0 : zV M0 := by
  refine ⟨0, 0, 0, 0, ⟨rfl, rfl, rfl, rfl, rfl, Or.inl rfl, by decide, by decide, by decide, fun k hk => absurd hk (Nat.not_lt_zero _)⟩, ⟨by decide, rfl, rfl, fun r hr => absurd hr (Nat.not_lt_zero _)⟩, fun k hk => Or.inl ⟨?_, M0_61 k hk⟩, rfl, rfl⟩
  exact M0_0 (by omega) 1
/-- the addresses behind both constructors -/
def zq (q0 : Nat) (u5 : Nat → Nat) (q6 : Nat) (u6 : Nat → Nat) : Nat → Nat := fun c => if c < 42 then (if c = 0 then q0 else u5 c) else (if c = 42 then q6 else u6 (c - 42))
section FW
variable {q0 q6 : Nat} {u5 u6 : Nat → Nat} {cI cZ cS : ClassId}
theorem zE_33 : zE (zq q0 u5 q6 u6) cI cZ cS M0 33 = .inl (cS, 4, .inr (.inr (.inr (.inr (va_up (va_up (va_up (va_up (fun _ => none) 0 (some (u5 34))) 1 (some (u5 36))) 2 (some (u5 38))) 3 (some (u5 40))))))) := by
  rw [zE_arr (zq q0 u5 q6 u6) cI cZ cS (c := 33) rfl]
  have e : (fun i => (zf 33 i).map (zq q0 u5 q6 u6)) = va_up (va_up (va_up (va_up (fun _ => none) 0 (some (u5 34))) 1 (some (u5 36))) 2 (some (u5 38))) 3 (some (u5 40)) := by
    funext i
    match i with
    | 0 => rfl
    | 1 => rfl
    | 2 => rfl
    | 3 => rfl
    | i + 4 =>
      unfold va_up
      rw [if_neg (by omega), if_neg (by omega), if_neg (by omega), if_neg (by omega)]
      rfl
  rw [e]
  rfl
set_option maxRecDepth 100000 in
set_option maxHeartbeats 4000000 in
theorem zW_of : ∀ k, k < zNC → (w_X5 cI cZ cS q0 u5 ++ w_X6 cI cZ q6 u6)[k]? = some (zq q0 u5 q6 u6 k, zE (zq q0 u5 q6 u6) cI cZ cS M0 k) := by
  intro k hk
  match k, hk with
  | 0, _ => rfl
  | 1, _ => rfl
  | 2, _ => rfl
  | 3, _ => rfl
  | 4, _ => rfl
  | 5, _ => rfl
  | 6, _ => rfl
  | 7, _ => rfl
  | 8, _ => rfl
  | 9, _ => rfl
  | 10, _ => rfl
  | 11, _ => rfl
  | 12, _ => rfl
  | 13, _ => rfl
  | 14, _ => rfl
  | 15, _ => rfl
  | 16, _ => rfl
  | 17, _ => rfl
  | 18, _ => rfl
  | 19, _ => rfl
  | 20, _ => rfl
  | 21, _ => rfl
  | 22, _ => rfl
  | 23, _ => rfl
  | 24, _ => rfl
  | 25, _ => rfl
  | 26, _ => rfl
  | 27, _ => rfl
  | 28, _ => rfl
  | 29, _ => rfl
  | 30, _ => rfl
  | 31, _ => rfl
  | 32, _ => rfl
  | 33, _ => rw [zE_33]; rfl
  | 34, _ => rfl
  | 35, _ => rfl
  | 36, _ => rfl
  | 37, _ => rfl
  | 38, _ => rfl
  | 39, _ => rfl
  | 40, _ => rfl
  | 41, _ => rfl
  | 42, _ => rfl
  | 43, _ => rfl
  | 44, _ => rfl
  | 45, _ => rfl
  | 46, _ => rfl
  | 47, _ => rfl
  | 48, _ => rfl
  | 49, _ => rfl
  | 50, _ => rfl
  | 51, _ => rfl
  | 52, _ => rfl
  | 53, _ => rfl
  | 54, _ => rfl
  | 55, _ => rfl
  | 56, _ => rfl
  | 57, _ => rfl
  | 58, _ => rfl
  | 59, _ => rfl
  | 60, _ => rfl
  | 61, _ => rfl
  | 62, _ => rfl
  | 63, _ => rfl
  | 64, _ => rfl
  | k + 65, h => exact absurd h (by show ¬ k + 65 < 65; omega)
theorem zW_inv2 {k : Nat} {x : Nat × va_E} (h : (zW (zq q0 u5 q6 u6) cI cZ cS M0)[k]? = some x) : (w_X5 cI cZ cS q0 u5 ++ w_X6 cI cZ q6 u6)[k]? = some x := by
  obtain ⟨hk, rfl⟩ := zW_inv _ _ _ _ h
  exact zW_of k hk
theorem zP_start {D : va_G} {H : Heap} (h : va_P D vwCl (w_X5 cI cZ cS q0 u5 ++ w_X6 cI cZ q6 u6) H) : va_P D vwCl (zW (zq q0 u5 q6 u6) cI cZ cS M0) H := h.by (fun k => k) (fun k x hk => zW_inv2 hk)
theorem zD_start {A : Nat → Prop} (h : va_D A (w_X5 cI cZ cS q0 u5 ++ w_X6 cI cZ q6 u6)) : va_D A (zW (zq q0 u5 q6 u6) cI cZ cS M0) := h.by (fun k => k) (fun k x hk => zW_inv2 hk) (fun _ _ _ _ e => e)
end FW
