-- the tables, read: each entry stands in the Statement's tables, and in the class files
def zy (k : Nat) : MethodName := zyL.getD k yX0_add
def zcw (k : Nat) : Option Cond := lw_tbl[zcdi.getD k 0]?
def zb (k : Nat) : ByteArray := match zcw k with | some (.code _ b _ _) => b | _ => cX0_add
def znl (k : Nat) : Nat := znlL.getD k 0
def zret (k : Nat) : Option FieldType := zretL.getD k none
def zcl (k : Nat) : Nat := zclL.getD k 0
def zpn (k : Nat) : Nat := zpnL.getD k 0
def zst (k : Nat) : Bool := zstL.getD k false
def zfr (k : Nat) : Nat := zfrL.getD k 0
def zlo (k : Nat) : Nat := zloL.getD k 0
def zcn (c : Nat) : String := zcnL.getD c ""
def zc (k pc : Nat) : Option Instr := (zCL.getD k []).lookup pc
def zNest : Cond → Bool
  | .methodLinkNest _ _ _ _ => true
  | .fieldLinkNest _ _ _ _ _ _ => true
  | _ => false
def zT : List Cond := lw_tbl.filter goodWord
def zNW : List Cond := lw_tbl.filter zNest
theorem zT_of {w : Cond} (i : Nat) (h : lw_tbl[i]? = some w) (g : goodWord w = true) : w ∈ zT := List.mem_filter.mpr ⟨List.mem_of_getElem? h, g⟩
theorem zNW_of {w : Cond} (i : Nat) (h : lw_tbl[i]? = some w) (g : zNest w = true) : w ∈ zNW := List.mem_filter.mpr ⟨List.mem_of_getElem? h, g⟩
theorem zT_tbl {w : Cond} (h : w ∈ zT) : w ∈ lw_tbl := (List.mem_filter.mp h).1
theorem zNW_tbl {w : Cond} (h : w ∈ zNW) : w ∈ lw_tbl := (List.mem_filter.mp h).1
theorem zT_good : GoodIn zT zT := fun w h => ⟨h, good_of_word (List.mem_filter.mp h).2⟩
theorem z_range {N : Nat} {P : Nat → Bool} (h : (List.range N).all P = true) {k : Nat} (hk : k < N) : P k = true := List.all_eq_true.mp h k (List.mem_range.mpr hk)
theorem zq_code : (List.range zNM).all (fun k => match zcw k with | some (.code y _ n r) => decide (y = zy k ∧ n = znl k ∧ r = zret k) | _ => false) = true := by decide +kernel
theorem zm_code {k : Nat} (hk : k < zNM) : Cond.code (zy k) (zb k) (znl k) (zret k) ∈ zT := by
  have h := z_range zq_code hk
  refine zT_of (zcdi.getD k 0) ?_ rfl
  show zcw k = _
  unfold zb
  revert h
  split
  · rename_i y b n r e
    intro h
    obtain ⟨h1, h2, h3⟩ := of_decide_eq_true h
    rw [e, h1, h2, h3]
  · intro h; exact absurd h (by decide)
theorem zq_cls : (List.range zNM).all (fun k => decide (zcl k < 8 ∧ (zy k).cls = zcn (zcl k) ∧ plainName (zy k).cls = true ∧ (zy k).cls ≠ "java/lang/invoke/MethodHandle" ∧ (zy k).cls ≠ "java/lang/invoke/VarHandle" ∧ (parseMethodDescriptor (zy k).desc).map (fun d => d.parameters.length) = some (zpn k))) = true := by decide +kernel
theorem zm_cls {k : Nat} (hk : k < zNM) : zcl k < 8 ∧ (zy k).cls = zcn (zcl k) ∧ plainName (zy k).cls = true ∧ (zy k).cls ≠ "java/lang/invoke/MethodHandle" ∧ (zy k).cls ≠ "java/lang/invoke/VarHandle" ∧ (parseMethodDescriptor (zy k).desc).map (fun d => d.parameters.length) = some (zpn k) := of_decide_eq_true (z_range zq_cls hk)
theorem zq_kind : (List.range zNM).all (fun k => if zst k = true then decide (lw_tbl[zkdi.getD k 0]? = some (Cond.static (zy k))) else decide (lw_tbl[zkdi.getD k 0]? = some (Cond.instanceMethod (zy k)) ∧ lw_tbl[zsli.getD k 0]? = some (Cond.selects (zy k).cls (zy k) (zy k)))) = true := by decide +kernel
theorem zm_stat {k : Nat} (hk : k < zNM) (h : zst k = true) : Cond.static (zy k) ∈ zT := by
  have := z_range zq_kind hk
  rw [if_pos h] at this
  exact zT_of _ (of_decide_eq_true this) rfl
theorem zm_inst {k : Nat} (hk : k < zNM) (h : zst k = false) : Cond.instanceMethod (zy k) ∈ zT ∧ Cond.selects (zy k).cls (zy k) (zy k) ∈ zT := by
  have := z_range zq_kind hk
  rw [if_neg (by rw [h]; decide)] at this
  have h2 := of_decide_eq_true this
  exact ⟨zT_of _ h2.1 rfl, zT_of _ h2.2 rfl⟩
theorem zq_init : (List.range 8).all (fun c => decide (lw_tbl[zini.getD c 0]? = some (Cond.initialized (zcn c)))) = true := by decide +kernel
theorem zm_init {k : Nat} (hk : k < zNM) : Cond.initialized (zy k).cls ∈ zT := by
  obtain ⟨h8, he, -⟩ := zm_cls hk
  rw [he]
  exact zT_of _ (of_decide_eq_true (z_range zq_init h8)) rfl
-- links
def zml (c i : Nat) : Option (Nat × Bool) := zML.lookup (c, i)
def zfl (c i : Nat) : Option (Nat × Nat × Bool) := zFL.lookup (c, i)
def zki (c i : Nat) : Option Int32 := zKI.lookup (c, i)
def zkj (c i : Nat) : Option Int64 := zKJ.lookup (c, i)
theorem z_lookup {α β : Type} [BEq α] [LawfulBEq α] {l : List (α × β)} {a : α} {b : β} (h : l.lookup a = some b) : ∃ j : Nat, l[j]? = some (a, b) := by
  induction l with
  | nil => simp at h
  | cons x l ih =>
    obtain ⟨x1, x2⟩ := x
    rw [List.lookup_cons] at h
    by_cases e : a == x1
    · simp only [e] at h
      have : a = x1 := eq_of_beq e
      cases h
      exact ⟨0, by rw [this]; rfl⟩
    · simp only [Bool.not_eq_true] at e
      simp only [e] at h
      obtain ⟨j, hj⟩ := ih h
      exact ⟨j + 1, hj⟩
theorem z_len {α : Type} {l : List α} {j : Nat} {x : α} (h : l[j]? = some x) : j < l.length := (List.getElem?_eq_some_iff.mp h).1
def zlw (e : (Nat × Nat) × (Nat × Bool)) : Cond :=
  if e.2.1 = 1000 then .methodLink (zcn e.1.1) e.1.2 Lib.Math.max.name
  else if e.2.1 = 1001 then .methodLink (zcn e.1.1) e.1.2 arraycopyName
  else if e.2.2 = true then .methodLinkNest (zcn e.1.1) e.1.2 (zy e.2.1) RX5 else .methodLink (zcn e.1.1) e.1.2 (zy e.2.1)
theorem zq_ml : (List.range zML.length).all (fun j => match zML[j]? with | some e => decide (lw_tbl[zMLi.getD j 0]? = some (zlw e) ∧ (e.2.1 < zNM ∨ e.2.1 = 1000 ∨ e.2.1 = 1001)) | none => false) = true := by decide +kernel
theorem zm_ml {c i : Nat} {e : Nat × Bool} (h : zml c i = some e) : zlw ((c, i), e) ∈ lw_tbl ∧ (e.1 < zNM ∨ e.1 = 1000 ∨ e.1 = 1001) := by
  obtain ⟨j, hj⟩ := z_lookup h
  have := z_range zq_ml (z_len hj)
  rw [hj] at this
  have h2 := of_decide_eq_true this
  exact ⟨List.mem_of_getElem? h2.1, h2.2⟩
def zvT (ci : Nat) : u_T := (vwCl.getD ci (RX0, TX0, 4)).2.1
def zvN (ci : Nat) : Nat := (vwCl.getD ci (RX0, TX0, 4)).2.2
def zfw (e : (Nat × Nat) × (Nat × Nat × Bool)) : Cond :=
  if e.2.2.2 = true then .fieldLinkNest (zcn e.1.1) e.1.2 (zcn e.2.1) ((zvT e.2.1) e.2.2.1).2.1 ((zvT e.2.1) e.2.2.1).2.2.1 RX5 else .fieldLink (zcn e.1.1) e.1.2 (zcn e.2.1) ((zvT e.2.1) e.2.2.1).2.1 ((zvT e.2.1) e.2.2.1).2.2.1
theorem zq_fl : (List.range zFL.length).all (fun j => match zFL[j]? with | some e => decide (lw_tbl[zFLi.getD j 0]? = some (zfw e) ∧ e.2.1 < 7 ∧ e.2.2.1 < zvN e.2.1 ∧ ((zvT e.2.1) e.2.2.1).1 = zcn e.2.1) | none => false) = true := by decide +kernel
theorem zm_fl {c i : Nat} {e : Nat × Nat × Bool} (h : zfl c i = some e) : zfw ((c, i), e) ∈ lw_tbl ∧ e.1 < 7 ∧ e.2.1 < zvN e.1 ∧ ((zvT e.1) e.2.1).1 = zcn e.1 := by
  obtain ⟨j, hj⟩ := z_lookup h
  have := z_range zq_fl (z_len hj)
  rw [hj] at this
  have h2 := of_decide_eq_true this
  exact ⟨List.mem_of_getElem? h2.1, h2.2.1, h2.2.2.1, h2.2.2.2⟩
theorem zq_ki : (List.range zKI.length).all (fun j => match zKI[j]? with | some e => decide (lw_tbl[zKIi.getD j 0]? = some (Cond.constant (zcn e.1.1) e.1.2 e.2)) | none => false) = true := by decide +kernel
theorem zm_ki {c i : Nat} {v : Int32} (h : zki c i = some v) : Cond.constant (zcn c) i v ∈ zT := by
  obtain ⟨j, hj⟩ := z_lookup h
  have := z_range zq_ki (z_len hj)
  rw [hj] at this
  exact zT_of _ (of_decide_eq_true this) rfl
theorem zq_kj : (List.range zKJ.length).all (fun j => match zKJ[j]? with | some e => decide (lw_tbl[zKJi.getD j 0]? = some (Cond.constantLong (zcn e.1.1) e.1.2 e.2)) | none => false) = true := by decide +kernel
theorem zm_kj {c i : Nat} {v : Int64} (h : zkj c i = some v) : Cond.constantLong (zcn c) i v ∈ zT := by
  obtain ⟨j, hj⟩ := z_lookup h
  have := z_range zq_kj (z_len hj)
  rw [hj] at this
  exact zT_of _ (of_decide_eq_true this) rfl
-- the fields' words of each class
theorem zq_ly : (wsX00 ++ wsX10 ++ wsX20 ++ wsX30 ++ wsX40 ++ wsX50 ++ wsX60).map some = zlyi.map (fun i => lw_tbl[i]?) := by decide +kernel
theorem zq_lg : (wsX00 ++ wsX10 ++ wsX20 ++ wsX30 ++ wsX40 ++ wsX50 ++ wsX60).all goodWord = true := by decide +kernel
theorem zm_ly0 {w : Cond} (h : w ∈ wsX00 ++ wsX10 ++ wsX20 ++ wsX30 ++ wsX40 ++ wsX50 ++ wsX60) : w ∈ zT := by
  have h1 : some w ∈ zlyi.map (fun i => lw_tbl[i]?) := by rw [← zq_ly]; exact List.mem_map.mpr ⟨w, h, rfl⟩
  obtain ⟨i, -, hi⟩ := List.mem_map.mp h1
  exact zT_of i hi (List.all_eq_true.mp zq_lg w h)
theorem zm_ly {ci : Nat} (h : ci < 7) : ∀ w ∈ u_ws (zcn ci) (zvT ci) (zvN ci), w ∈ zT := by
  intro w hw
  apply zm_ly0
  simp only [List.mem_append]
  match ci, h with
  | 0, _ => exact Or.inl (Or.inl (Or.inl (Or.inl (Or.inl (Or.inl hw)))))
  | 1, _ => exact Or.inl (Or.inl (Or.inl (Or.inl (Or.inl (Or.inr hw)))))
  | 2, _ => exact Or.inl (Or.inl (Or.inl (Or.inl (Or.inr hw))))
  | 3, _ => exact Or.inl (Or.inl (Or.inl (Or.inr hw)))
  | 4, _ => exact Or.inl (Or.inl (Or.inr hw))
  | 5, _ => exact Or.inl (Or.inr hw)
  | 6, _ => exact Or.inr hw
theorem zm_vw {ci : Nat} (h : ci < 7) : vwCl[ci]? = some (zcn ci, zvT ci, zvN ci) := by
  match ci, h with
  | 0, _ => rfl
  | 1, _ => rfl
  | 2, _ => rfl
  | 3, _ => rfl
  | 4, _ => rfl
  | 5, _ => rfl
  | 6, _ => rfl
-- the fields that are written: their types
def zty (ci k : Nat) : FieldType := match parseFieldDescriptor ((zvT ci) k).2.2.1 with | some t => t | none => .int
theorem zq_ty : (List.range 7).all (fun ci => (List.range (zvN ci)).all fun k => decide (parseFieldDescriptor ((zvT ci) k).2.2.1 = some (zty ci k))) = true := by decide +kernel
theorem zm_ty {ci : Nat} (h : ci < 7) {k : Nat} (hk : k < zvN ci) : parseFieldDescriptor ((zvT ci) k).2.2.1 = some (zty ci k) := of_decide_eq_true (z_range (z_range zq_ty h) hk)
theorem zm_nm {ci : Nat} (h : ci < 7) : ∀ a, a < zvN ci → ∀ b, b < zvN ci → a ≠ b → ((zvT ci) a).2.1 ≠ ((zvT ci) b).2.1 := by
  match ci, h with
  | 0, _ => exact nmX0
  | 1, _ => exact nmX1
  | 2, _ => exact nmX2
  | 3, _ => exact nmX3
  | 4, _ => exact nmX4
  | 5, _ => exact nmX5
  | 6, _ => exact nmX6
-- code
def zlen : Instr → Nat
  | .iload _ => 2
  | .aload _ => 2
  | .istore _ => 2
  | .astore _ => 2
  | .lload _ => 2
  | .lstore _ => 2
  | .bipush _ => 2
  | .sipush _ => 3
  | .goto _ => 3
  | .ifCond _ _ => 3
  | .if_icmp _ _ => 3
  | .iinc _ _ => 3
  | .getfield _ => 3
  | .putfield _ => 3
  | .invokevirtual _ => 3
  | .invokestatic _ => 3
  | .ldc_w _ => 3
  | .ldc2_w _ => 3
  | .tableswitch _ _ _ _ => 0
  | .lookupswitch _ _ => 0
  | _ => 1
def zdc (k : Nat) : Bool := (zCL.getD k []).all fun e => match decode (zb k) e.1 with | .ok x => decide (x.1 = e.2 ∧ (zlen e.2 = 0 ∨ x.2 = zlen e.2)) | _ => false
