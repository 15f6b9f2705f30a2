-- THE LAW: a call of the class or of the reference
theorem zq_shape {i : Instr} {id pc : Nat} {L st : List Value} {M : zM} {r : zR} (h : zins i id pc L st M = some (.inr (.inl r))) : (∃ x, r = some (.inl x) ∧ (zret id = some .int ∨ zret id = some .boolean)) ∨ (∃ x, r = some (.inr x) ∧ zret id = some .long) ∨ (r = none ∧ zret id = none) := by
  rcases z_ret h with ⟨rfl, h2⟩ | ⟨rfl, h2⟩ | ⟨rfl, h2⟩
  · unfold ziret at h2
    split at h2
    · split at h2
      · rename_i v h0
        cases h2
        exact Or.inl ⟨v, rfl, h0.elim (fun e => Or.inl e) (fun e => Or.inr e.1)⟩
      · cases h2
    · cases h2
  · unfold zlret at h2
    split at h2
    · split at h2
      · rename_i v h0
        cases h2
        exact Or.inr (Or.inl ⟨v, rfl, h0⟩)
      · cases h2
    · cases h2
  · unfold zvret at h2
    split at h2
    · split at h2
      · rename_i h0
        cases h2
        exact Or.inr (Or.inr ⟨rfl, h0⟩)
      · cases h2
    · cases h2
theorem zx_shape : ∀ (n : Nat) {id pc : Nat} {L st : List Value} {M M' : zM} {r : zR}, zx n id pc L st M = some (r, M') → (∃ x, r = some (.inl x) ∧ (zret id = some .int ∨ zret id = some .boolean)) ∨ (∃ x, r = some (.inr x) ∧ zret id = some .long) ∨ (r = none ∧ zret id = none) := by
  intro n
  induction n with
  | zero => intro id pc L st M M' r h; cases h
  | succ n ih =>
    intro id pc L st M M' r h
    unfold zx at h
    split at h
    · cases h
    · exact ih h
    · rename_i r0 ha
      cases h
      unfold zact at ha
      split at ha
      · cases ha
      · exact zq_shape ha
    · split at h
      · cases h
      · exact ih h
theorem zx_int {n id pc : Nat} {L st : List Value} {M M' : zM} {r : zR} (h : zx n id pc L st M = some (r, M')) (hr : zret id = some .int) : ∃ x, r = some (.inl x) := by
  rcases zx_shape n h with ⟨x, e, -⟩ | ⟨x, -, e⟩ | ⟨-, e⟩
  · exact ⟨x, e⟩
  · rw [hr] at e; cases e
  · rw [hr] at e; cases e
theorem zx_long {n id pc : Nat} {L st : List Value} {M M' : zM} {r : zR} (h : zx n id pc L st M = some (r, M')) (hr : zret id = some .long) : ∃ x, r = some (.inr x) := by
  rcases zx_shape n h with ⟨x, -, e | e⟩ | ⟨x, e, -⟩ | ⟨-, e⟩
  · rw [hr] at e; cases e
  · rw [hr] at e; cases e
  · exact ⟨x, e⟩
  · rw [hr] at e; cases e
section LC
variable {p : Program} {l : Launch} {e : Env} {s : State} {m : MethodId} {below : List Frame} {meth : Method} {c : Code} {H : Heap} {locs : List Loc} {cells slots : Nat} {Q : State → Prop} {args : Array Value}
variable {pc : Nat} {ls : Array Slot} {rest : List Value} {D : va_G} {A : Nat → Prop} {cI cZ cS : ClassId} {q : Nat → Nat} {M M' : zM}
theorem law_run (hx : p.tables.exec = Jvm.exec) (hb : c.code = code) (hml : c.maxLocals = 4) (hown : s.vm.findClass R_law = some m.cls) (hT : ∀ w ∈ zT, w.before args s = true) (hN : ∀ w ∈ zNW, va_Nw w s) (hK : va_K D vwCl (ztys cI cZ cS) s) (hP : va_P D vwCl (zW q cI cZ cS M) H) (hD : va_D A (zW q cI cZ cS M)) (hls : ls.size = 4)
    {j n a f : Nat} {r : zR} {As : List Value} (hj : j < zNM) (hsta : zst j = false) (ha : a < zNC ∧ zk a = zcl j) (h7 : zcl j < 7) (h : zx f j 0 (zent (znl j) (.ref a :: As)) [] M = some (r, M')) (hlen : (zexp (.ref a :: As)).length ≤ znl j) (hn : As.length = zpn j) (hlk : Cond.methodLink R_law n (zy j) ∈ zT) (hRm : (zrm j).frames + 1 ≤ room_1.frames ∧ 8 + (znl j + 11) + (zrm j).locals ≤ room_1.locals) (hcs : (rest.map fun v => v.category).sum ≤ 8) (hd : decode code pc = .ok (.invokevirtual n, 3)) (hcell : cells + 0 ≤ room_1.cells ∧ slots + 0 ≤ room_1.slots) :
    ∃ aa : Array Value, va_Run p l e room_1 s m args below meth c H locs cells slots 0 0 (F0 m pc ls ((As.map (rv q)).reverse ++ .ref (q a) :: rest)) rest (zQc q cI cZ cS D r M' (va_A (zW q cI cZ cS M) H.size) aa) (va_A (zW q cI cZ cS M) H.size) := by
  have hM := z_met (q := q) (cI := cI) (cZ := cZ) (cS := cS) (D := D) (l := l) (z_sound f) hj h hlen H.size
  have hcc := zm_cls hj
  have he := zW_at q cI cZ cS M ha.1
  rw [zE_obj q cI cZ cS ha.2 h7] at he
  have hrecv := va_recv hK hP (zm_vw h7) he
  dsimp only at hrecv
  rw [← hcc.2.1] at hrecv
  exact ⟨_, va_runV (C := (zy j).cls) (b := q a) (As := As.map (rv q)) (rest := rest) ⟨hx, hb, hml, hown, hT⟩ hM
    (cwV (zpn j) hT (zG_of (by
      intro w hw
      simp only [wsV, List.cons_append, List.nil_append, List.mem_cons] at hw
      rcases hw with rfl | rfl | rfl | rfl | hw
      · exact hlk
      · exact (zm_inst hj hsta).1
      · exact (zm_inst hj hsta).2
      · exact zm_init hj
      · exact zG_ws hj w hw)) rfl rfl rfl ⟨rfl, hcc.2.2.2.1, hcc.2.2.2.2.1, hcc.2.2.2.2.2⟩ hRm)
    ⟨zPre_blind, hrecv, zPre_go hK hN hP hD⟩ rfl (by rw [List.length_map]; exact hn) hls rfl (lv_room hcs) hd hcell⟩
theorem law_free (hD : va_D A (zW q cI cZ cS M)) (hS : va_S A s.heap H locs) (hA : ∀ a : Nat, s.heap.size ≤ a → A a) : ∀ a : Nat, va_A (zW q cI cZ cS M) H.size a → A a := by
  rintro a (⟨k, x, hk⟩ | ha)
  · exact hD.2 k _ hk
  · exact hA a (Nat.le_trans hS.1 ha)
theorem law_calli (hx : p.tables.exec = Jvm.exec) (hb : c.code = code) (hml : c.maxLocals = 4) (hown : s.vm.findClass R_law = some m.cls) (hT : ∀ w ∈ zT, w.before args s = true) (hN : ∀ w ∈ zNW, va_Nw w s) (hK : va_K D vwCl (ztys cI cZ cS) s) (hP : va_P D vwCl (zW q cI cZ cS M) H) (hD : va_D A (zW q cI cZ cS M)) (hS : va_S A s.heap H locs) (hA : ∀ a : Nat, s.heap.size ≤ a → A a) (hls : ls.size = 4)
    {j n a f : Nat} {x : Int32} {As : List Value} (hj : j < zNM) (hsta : zst j = false) (ha : a < zNC ∧ zk a = zcl j) (h7 : zcl j < 7) (h : zx f j 0 (zent (znl j) (.ref a :: As)) [] M = some (some (.inl x), M')) (hlen : (zexp (.ref a :: As)).length ≤ znl j) (hn : As.length = zpn j) (hlk : Cond.methodLink R_law n (zy j) ∈ zT) (hRm : (zrm j).frames + 1 ≤ room_1.frames ∧ 8 + (znl j + 11) + (zrm j).locals ≤ room_1.locals) (hcs : (rest.map fun v => v.category).sum ≤ 8) (hd : decode code pc = .ok (.invokevirtual n, 3)) (hcell : cells + 0 ≤ room_1.cells ∧ slots + 0 ≤ room_1.slots)
    (kk : ∀ (H1 : Heap) (locs1 : List Loc), va_P D vwCl (zW q cI cZ cS M') H1 → va_S A s.heap H1 locs1 → W p l e room_1 s m args below meth c H1 locs1 cells slots Q (F0 m (pc + 3) ls (.int x :: rest))) : W p l e room_1 s m args below meth c H locs cells slots Q (F0 m pc ls ((As.map (rv q)).reverse ++ .ref (q a) :: rest)) := by
  obtain ⟨aa, hrun⟩ := law_run (l := l) (e := e) (below := below) (locs := locs) hx hb hml hown hT hN hK hP hD hls hj hsta ha h7 h hlen hn hlk hRm hcs hd hcell
  have hf := law_free hD hS hA
  exact va_calli (a := aa) hrun hS (fun a _ h => hf a h) hf (fun r2 u t H1 locs1 ht hvm hw hB hz1 hk1 hS1 => by
    subst hw
    exact kk H1 locs1 (by have hB : va_P D vwCl (zW q cI cZ cS M') t.heap := hB; rw [ht] at hB; exact hB) hS1)
theorem law_calll (hx : p.tables.exec = Jvm.exec) (hb : c.code = code) (hml : c.maxLocals = 4) (hown : s.vm.findClass R_law = some m.cls) (hT : ∀ w ∈ zT, w.before args s = true) (hN : ∀ w ∈ zNW, va_Nw w s) (hK : va_K D vwCl (ztys cI cZ cS) s) (hP : va_P D vwCl (zW q cI cZ cS M) H) (hD : va_D A (zW q cI cZ cS M)) (hS : va_S A s.heap H locs) (hA : ∀ a : Nat, s.heap.size ≤ a → A a) (hls : ls.size = 4)
    {j n a f : Nat} {x : Int64} {As : List Value} (hj : j < zNM) (hsta : zst j = false) (ha : a < zNC ∧ zk a = zcl j) (h7 : zcl j < 7) (h : zx f j 0 (zent (znl j) (.ref a :: As)) [] M = some (some (.inr x), M')) (hlen : (zexp (.ref a :: As)).length ≤ znl j) (hn : As.length = zpn j) (hlk : Cond.methodLink R_law n (zy j) ∈ zT) (hRm : (zrm j).frames + 1 ≤ room_1.frames ∧ 8 + (znl j + 11) + (zrm j).locals ≤ room_1.locals) (hcs : (rest.map fun v => v.category).sum ≤ 8) (hd : decode code pc = .ok (.invokevirtual n, 3)) (hcell : cells + 0 ≤ room_1.cells ∧ slots + 0 ≤ room_1.slots)
    (kk : ∀ (H1 : Heap) (locs1 : List Loc), va_P D vwCl (zW q cI cZ cS M') H1 → va_S A s.heap H1 locs1 → W p l e room_1 s m args below meth c H1 locs1 cells slots Q (F0 m (pc + 3) ls (.long x :: rest))) : W p l e room_1 s m args below meth c H locs cells slots Q (F0 m pc ls ((As.map (rv q)).reverse ++ .ref (q a) :: rest)) := by
  obtain ⟨aa, hrun⟩ := law_run (l := l) (e := e) (below := below) (locs := locs) hx hb hml hown hT hN hK hP hD hls hj hsta ha h7 h hlen hn hlk hRm hcs hd hcell
  have hf := law_free hD hS hA
  exact va_calll (a := aa) hrun hS (fun a _ h => hf a h) hf (fun r2 u t H1 locs1 ht hvm hw hB hz1 hk1 hS1 => by
    subst hw
    exact kk H1 locs1 (by have hB : va_P D vwCl (zW q cI cZ cS M') t.heap := hB; rw [ht] at hB; exact hB) hS1)
/-- what holds at the law's loop, but for the memory -/
def LX (p : Program) (s : State) (m : MethodId) (meth : Method) (c : Code) (b L : Nat) (xs : Nat → Int32) (D : va_G) (cI cZ cS : ClassId) (q : Nat → Nat) : Prop :=
  p.tables.exec = Jvm.exec ∧ c.code = code ∧ c.maxLocals = 4 ∧ s.vm.findClass R_law = some m.cls ∧ (∀ w ∈ zT, w.before #[Value.ref b] s = true) ∧ (∀ w ∈ zNW, va_Nw w s) ∧ va_K D vwCl (ztys cI cZ cS) s ∧ va_X b L xs s s.heap ∧ b < s.heap.size ∧ va_D (fun a : Nat => s.heap.size ≤ a) (zW q cI cZ cS M0)
/-- what comes behind a round of the law's loop -/
def LK (p : Program) (l : Launch) (e : Env) (s : State) (m : MethodId) (below : List Frame) (meth : Method) (c : Code) (b : Nat) (D : va_G) (cI cZ cS : ClassId) (q : Nat → Nat) (x3 : Int32) : Prop :=
  ∀ (M : zM) (H : Heap) (locs : List Loc) (ls : Array Slot), zV M → va_P D vwCl (zW q cI cZ cS M) H → va_S (fun a : Nat => s.heap.size ≤ a) s.heap H locs → lv_has ls 4 [(0, .ref b), (1, .ref (q 0)), (2, .ref (q 42)), (3, .int x3)] → W p l e room_1 s m #[Value.ref b] below meth c H locs 600000 7302250 (lw_Z below #[Value.ref b] s) (F0 m 1302 ls [])
end LC
