-- ONE SOUNDNESS THEOREM: what the interpreter answers, the machine does
def zws (k : Nat) : List Cond := .code (zy k) (zb k) (znl k) (zret k) :: zT
def zrm (k : Nat) : Room := { frames := zfr k, cells := 0, slots := 0, locals := zlo k }
def zrv (r : zR) : Option Value := match r with | none => none | some (.inl x) => some (.int x) | some (.inr x) => some (.long x)
def zCtx (cI cZ cS : ClassId) (D : va_G) (p : Program) (s : State) (m : MethodId) (args : Array Value) (meth : Method) (c : Code) (id : Nat) : Prop :=
  p.tables.exec = Jvm.exec ∧ c.code = zb id ∧ meth.sig.returnType = zret id ∧ (∀ w ∈ zws id, w.before args s = true) ∧ s.vm.findClass (zcn (zcl id)) = some m.cls ∧ c.maxLocals = znl id ∧ meth.locks = false ∧ (∀ w ∈ zNW, va_Nw w s) ∧ va_K D vwCl (ztys cI cZ cS) s
theorem zm_cpn : Cond.native arraycopyName ∈ zT := zT_of 561 (by decide +kernel) rfl
theorem zm_cps : Cond.static arraycopyName ∈ zT := zT_of 560 (by decide +kernel) rfl
theorem zm_sys : Cond.initialized "java/lang/System" ∈ zT := zT_of 82 (by decide +kernel) rfl
theorem zm_mxs : Cond.static Lib.Math.max.name ∈ zT := zT_of 378 (by decide +kernel) rfl
theorem zm_mat : Cond.initialized "java/lang/Math" ∈ zT := zT_of 81 (by decide +kernel) rfl
theorem zm_mxc : Cond.code Lib.Math.max.name Lib.Math.max.code 2 (some .int) ∈ zT := zT_of 379 (by decide +kernel) rfl
section ZS
variable {q : Nat → Nat} {cI cZ cS : ClassId} {D : va_G} {p : Program} {l : Launch} {e : Env} {s : State} {m : MethodId} {args : Array Value} {below : List Frame} {meth : Method} {c : Code} {id : Nat} {H : Heap} {locs : List Loc} {A : Nat → Prop} {Q : State → Prop} {R : Room}
theorem zI2_inv {f : Int32 → Int32 → Int32} {pc : Nat} {L st : List Value} {M : zM} {a : zAct} (h : zI2 f pc L st M = some a) : ∃ x y r, st = .int y :: .int x :: r ∧ a = .inl (pc + 1, L, .int (f x y) :: r, M) := by
  unfold zI2 at h
  split at h
  · cases h; exact ⟨_, _, _, rfl, rfl⟩
  · cases h
theorem zD2_inv {f : Int32 → Int32 → Int32} {pc : Nat} {L st : List Value} {M : zM} {a : zAct} (h : zD2 f pc L st M = some a) : ∃ x y r, st = .int y :: .int x :: r ∧ ¬ y = 0 ∧ a = .inl (pc + 1, L, .int (f x y) :: r, M) := by
  unfold zD2 at h
  split at h
  · split at h
    · cases h
    · rename_i h0; cases h; exact ⟨_, _, _, rfl, h0, rfl⟩
  · cases h
theorem zJ2_inv {f : Int64 → Int64 → Int64} {pc : Nat} {L st : List Value} {M : zM} {a : zAct} (h : zJ2 f pc L st M = some a) : ∃ x y r, st = .long y :: .long x :: r ∧ a = .inl (pc + 1, L, .long (f x y) :: r, M) := by
  unfold zJ2 at h
  split at h
  · cases h; exact ⟨_, _, _, rfl, rfl⟩
  · cases h
theorem zE2_inv {f : Int64 → Int64 → Int64} {pc : Nat} {L st : List Value} {M : zM} {a : zAct} (h : zE2 f pc L st M = some a) : ∃ x y r, st = .long y :: .long x :: r ∧ ¬ y = 0 ∧ a = .inl (pc + 1, L, .long (f x y) :: r, M) := by
  unfold zE2 at h
  split at h
  · split at h
    · cases h
    · rename_i h0; cases h; exact ⟨_, _, _, rfl, h0, rfl⟩
  · cases h
theorem zI1_inv {f : Int32 → Int32} {pc : Nat} {L st : List Value} {M : zM} {a : zAct} (h : zI1 f pc L st M = some a) : ∃ x r, st = .int x :: r ∧ a = .inl (pc + 1, L, .int (f x) :: r, M) := by
  unfold zI1 at h
  split at h
  · cases h; exact ⟨_, _, rfl, rfl⟩
  · cases h
theorem zbr_inv {C : Prop} [Decidable C] {pc : Nat} {off : Int} {L st : List Value} {M : zM} {a : zAct} (h : zbr C pc off L st M = some a) : (pc : Int) + off = (ztgt pc off : Int) ∧ a = .inl (if C then ztgt pc off else pc + 3, L, st, M) := by
  unfold zbr at h
  split at h
  · rename_i h0; cases h; exact ⟨by unfold ztgt; omega, rfl⟩
  · cases h
theorem zjmp_inv {pc : Nat} {off : Int} {L st : List Value} {M : zM} {a : zAct} (h : zjmp pc off L st M = some a) : (pc : Int) + off = (ztgt pc off : Int) ∧ a = .inl (ztgt pc off, L, st, M) := by
  unfold zjmp at h
  split at h
  · rename_i h0; cases h; exact ⟨by unfold ztgt; omega, rfl⟩
  · cases h
theorem zws_T {k : Nat} {w : Cond} (h : w ∈ zT) : w ∈ zws k := List.mem_cons_of_mem _ h
/-- one instruction that goes on in the same frame -/
theorem z_tail (hid : id < zNM) (C : zCtx cI cZ cS D p s m args meth c id) (hR : R = zrm id) {pc : Nat} {i : Instr} {len : Nat} {L st : List Value} {M : zM} {pc' : Nat} {L' st' : List Value} {M' : zM} {ls : Array Slot}
    (hd : decode (zb id) pc = .ok (i, len)) (hlen : zlen i = 0 ∨ len = zlen i) (h : zins i id pc L st M = some (.inl (pc', L', st', M')))
    (hl : zH q ls (znl id) L) (hP : va_P D vwCl (zW q cI cZ cS M) H) (hD : va_D A (zW q cI cZ cS M)) (hS : va_S A s.heap H locs)
    (k : ∀ (H1 : Heap) (locs1 : List Loc) (ls1 : Array Slot), zH q ls1 (znl id) L' → va_P D vwCl (zW q cI cZ cS M') H1 → va_D A (zW q cI cZ cS M') → va_S A s.heap H1 locs1 → W p l e R s m args below meth c H1 locs1 0 0 Q (F0 m pc' ls1 (st'.map (rv q)))) :
    W p l e R s m args below meth c H locs 0 0 Q (F0 m pc ls (st.map (rv q))) := by
  subst hR
  obtain ⟨hx, hb, hr, hts, hown, hml, hlocks, hN, hK⟩ := C
  have hT : ∀ w ∈ zT, w.before args s = true := fun w hw => hts w (zws_T hw)
  have hla := zH_has hl
  cases i with
  | iadd =>
    have hn : len = 1 := by simpa [zlen] using hlen
    subst hn
    obtain ⟨x, y, r, rfl, e2⟩ := zI2_inv h
    cases e2
    exact lv_iadd hx hb hd (k _ _ _ hl hP hD hS)
  | isub =>
    have hn : len = 1 := by simpa [zlen] using hlen
    subst hn
    obtain ⟨x, y, r, rfl, e2⟩ := zI2_inv h
    cases e2
    exact lv_isub hx hb hd (k _ _ _ hl hP hD hS)
  | imul =>
    have hn : len = 1 := by simpa [zlen] using hlen
    subst hn
    obtain ⟨x, y, r, rfl, e2⟩ := zI2_inv h
    cases e2
    exact lv_imul hx hb hd (k _ _ _ hl hP hD hS)
  | iand =>
    have hn : len = 1 := by simpa [zlen] using hlen
    subst hn
    obtain ⟨x, y, r, rfl, e2⟩ := zI2_inv h
    cases e2
    exact lv_iand hx hb hd (k _ _ _ hl hP hD hS)
  | ior =>
    have hn : len = 1 := by simpa [zlen] using hlen
    subst hn
    obtain ⟨x, y, r, rfl, e2⟩ := zI2_inv h
    cases e2
    exact lv_ior hx hb hd (k _ _ _ hl hP hD hS)
  | ixor =>
    have hn : len = 1 := by simpa [zlen] using hlen
    subst hn
    obtain ⟨x, y, r, rfl, e2⟩ := zI2_inv h
    cases e2
    exact lv_ixor hx hb hd (k _ _ _ hl hP hD hS)
  | ishl =>
    have hn : len = 1 := by simpa [zlen] using hlen
    subst hn
    obtain ⟨x, y, r, rfl, e2⟩ := zI2_inv h
    cases e2
    exact lv_ishl hx hb hd (k _ _ _ hl hP hD hS)
  | ishr =>
    have hn : len = 1 := by simpa [zlen] using hlen
    subst hn
    obtain ⟨x, y, r, rfl, e2⟩ := zI2_inv h
    cases e2
    exact lv_ishr hx hb hd (k _ _ _ hl hP hD hS)
  | iushr =>
    have hn : len = 1 := by simpa [zlen] using hlen
    subst hn
    obtain ⟨x, y, r, rfl, e2⟩ := zI2_inv h
    cases e2
    exact lv_iushr hx hb hd rfl (k _ _ _ hl hP hD hS)
  | idiv =>
    have hn : len = 1 := by simpa [zlen] using hlen
    subst hn
    obtain ⟨x, y, r, rfl, h0, e2⟩ := zD2_inv h
    cases e2
    exact lv_idiv hx hb hd h0 (k _ _ _ hl hP hD hS)
  | irem =>
    have hn : len = 1 := by simpa [zlen] using hlen
    subst hn
    obtain ⟨x, y, r, rfl, h0, e2⟩ := zD2_inv h
    cases e2
    exact lv_irem hx hb hd h0 (k _ _ _ hl hP hD hS)
  | ladd =>
    have hn : len = 1 := by simpa [zlen] using hlen
    subst hn
    obtain ⟨x, y, r, rfl, e2⟩ := zJ2_inv h
    cases e2
    exact lv_ladd hx hb hd (k _ _ _ hl hP hD hS)
  | lsub =>
    have hn : len = 1 := by simpa [zlen] using hlen
    subst hn
    obtain ⟨x, y, r, rfl, e2⟩ := zJ2_inv h
    cases e2
    exact lv_lsub hx hb hd (k _ _ _ hl hP hD hS)
  | lmul =>
    have hn : len = 1 := by simpa [zlen] using hlen
    subst hn
    obtain ⟨x, y, r, rfl, e2⟩ := zJ2_inv h
    cases e2
    exact lv_lmul hx hb hd (k _ _ _ hl hP hD hS)
  | ldiv =>
    have hn : len = 1 := by simpa [zlen] using hlen
    subst hn
    obtain ⟨x, y, r, rfl, h0, e2⟩ := zE2_inv h
    cases e2
    exact lv_ldiv hx hb hd h0 (k _ _ _ hl hP hD hS)
  | lrem =>
    have hn : len = 1 := by simpa [zlen] using hlen
    subst hn
    obtain ⟨x, y, r, rfl, h0, e2⟩ := zE2_inv h
    cases e2
    exact lv_lrem hx hb hd h0 (k _ _ _ hl hP hD hS)
  | lcmp =>
    have hn : len = 1 := by simpa [zlen] using hlen
    subst hn
    simp only [zins, zlcmp] at h
    split at h
    · cases h
      exact W.lcmp hx hb hd (k _ _ _ hl hP hD hS)
    · cases h
  | i2l =>
    have hn : len = 1 := by simpa [zlen] using hlen
    subst hn
    simp only [zins, zi2l] at h
    split at h
    · cases h
      exact lv_i2l hx hb hd rfl (k _ _ _ hl hP hD hS)
    · cases h
  | i2b =>
    have hn : len = 1 := by simpa [zlen] using hlen
    subst hn
    obtain ⟨x, r, rfl, e2⟩ := zI1_inv h
    cases e2
    exact lv_i2b hx hb hd rfl (k _ _ _ hl hP hD hS)
  | i2s =>
    have hn : len = 1 := by simpa [zlen] using hlen
    subst hn
    obtain ⟨x, r, rfl, e2⟩ := zI1_inv h
    cases e2
    exact lv_i2s hx hb hd rfl (k _ _ _ hl hP hD hS)
  | iconst n =>
    have hn : len = 1 := by simpa [zlen] using hlen
    subst hn
    cases h
    exact lv_iconst hx hb hd rfl (k _ _ _ hl hP hD hS)
  | bipush n =>
    have hn : len = 2 := by simpa [zlen] using hlen
    subst hn
    cases h
    exact lv_bipush hx hb hd rfl (k _ _ _ hl hP hD hS)
  | sipush n =>
    have hn : len = 3 := by simpa [zlen] using hlen
    subst hn
    cases h
    exact lv_sipush hx hb hd rfl (k _ _ _ hl hP hD hS)
  | lconst n =>
    have hn : len = 1 := by simpa [zlen] using hlen
    subst hn
    cases h
    exact lv_lconst hx hb hd rfl (k _ _ _ hl hP hD hS)
  | ldc_w n =>
    have hn : len = 3 := by simpa [zlen] using hlen
    subst hn
    simp only [zins] at h
    split at h
    · rename_i v hv
      cases h
      exact lv_ldcw hx hb hown (hT _ (zm_ki hv)) hd (k _ _ _ hl hP hD hS)
    · cases h
  | ldc2_w n =>
    have hn : len = 3 := by simpa [zlen] using hlen
    subst hn
    simp only [zins] at h
    split at h
    · rename_i v hv
      cases h
      exact lv_ldc2 hx hb hown (hT _ (zm_kj hv)) hd (k _ _ _ hl hP hD hS)
    · cases h
  | iload_n n =>
    have hn : len = 1 := by simpa [zlen] using hlen
    subst hn
    simp only [zins, zldI] at h
    split at h
    · rename_i x hv
      cases h
      exact lv_iload_n hx hb hd rfl (hl.2.2 _ _ hv (by simp)) (k _ _ _ hl hP hD hS)
    · cases h
  | iload n =>
    have hn : len = 2 := by simpa [zlen] using hlen
    subst hn
    simp only [zins, zldI] at h
    split at h
    · rename_i x hv
      cases h
      exact lv_iload hx hb hd (hl.2.2 _ _ hv (by simp)) (k _ _ _ hl hP hD hS)
    · cases h
  | lload_n n =>
    have hn : len = 1 := by simpa [zlen] using hlen
    subst hn
    simp only [zins, zldL] at h
    split at h
    · rename_i x hv
      cases h
      exact lv_lload_n hx hb hd rfl (hl.2.2 _ _ hv (by simp)) (k _ _ _ hl hP hD hS)
    · cases h
  | lload n =>
    have hn : len = 2 := by simpa [zlen] using hlen
    subst hn
    simp only [zins, zldL] at h
    split at h
    · rename_i x hv
      cases h
      exact lv_lload hx hb hd (hl.2.2 _ _ hv (by simp)) (k _ _ _ hl hP hD hS)
    · cases h
  | aload_n n =>
    have hn : len = 1 := by simpa [zlen] using hlen
    subst hn
    simp only [zins, zldA] at h
    split at h
    · rename_i x hv
      cases h
      exact lv_aload_n hx hb hd rfl (hl.2.2 _ _ hv (by simp)) (k _ _ _ hl hP hD hS)
    · cases h
  | aload n =>
    have hn : len = 2 := by simpa [zlen] using hlen
    subst hn
    simp only [zins, zldA] at h
    split at h
    · rename_i x hv
      cases h
      exact lv_aload hx hb hd (hl.2.2 _ _ hv (by simp)) (k _ _ _ hl hP hD hS)
    · cases h
  | istore_n n =>
    have hn : len = 1 := by simpa [zlen] using hlen
    subst hn
    simp only [zins, zstI] at h
    split at h
    · split at h
      · rename_i h0
        cases h
        exact lv_istore_n hx hb hd rfl hla (by rw [← hl.1]; exact h0.1) rfl (fun ls1 hl1 => k _ _ _ (zH_set1 hl.1 h0.2 (by rw [← hl.1]; exact h0.1) hl1 rfl) hP hD hS)
      · cases h
    · cases h
  | istore n =>
    have hn : len = 2 := by simpa [zlen] using hlen
    subst hn
    simp only [zins, zstI] at h
    split at h
    · split at h
      · rename_i h0
        cases h
        exact lv_istore hx hb hd hla (by rw [← hl.1]; exact h0.1) rfl (fun ls1 hl1 => k _ _ _ (zH_set1 hl.1 h0.2 (by rw [← hl.1]; exact h0.1) hl1 rfl) hP hD hS)
      · cases h
    · cases h
  | astore_n n =>
    have hn : len = 1 := by simpa [zlen] using hlen
    subst hn
    simp only [zins, zstA] at h
    split at h
    · split at h
      · rename_i h0
        cases h
        exact lv_astore_n hx hb hd rfl hla (by rw [← hl.1]; exact h0.1) rfl (fun ls1 hl1 => k _ _ _ (zH_set1 hl.1 h0.2 (by rw [← hl.1]; exact h0.1) hl1 rfl) hP hD hS)
      · cases h
    · cases h
  | astore n =>
    have hn : len = 2 := by simpa [zlen] using hlen
    subst hn
    simp only [zins, zstA] at h
    split at h
    · split at h
      · rename_i h0
        cases h
        exact lv_astore hx hb hd hla (by rw [← hl.1]; exact h0.1) rfl (fun ls1 hl1 => k _ _ _ (zH_set1 hl.1 h0.2 (by rw [← hl.1]; exact h0.1) hl1 rfl) hP hD hS)
      · cases h
    · cases h
  | lstore_n n =>
    have hn : len = 1 := by simpa [zlen] using hlen
    subst hn
    simp only [zins, zstJ] at h
    split at h
    · split at h
      · rename_i h0
        cases h
        exact lv_lstore_n hx hb hd rfl hla (by rw [← hl.1]; exact h0.1) rfl (fun ls1 hl1 => k _ _ _ (zH_set2 hl.1 h0.2 (by rw [← hl.1]; exact h0.1) hl1 rfl) hP hD hS)
      · cases h
    · cases h
  | lstore n =>
    have hn : len = 2 := by simpa [zlen] using hlen
    subst hn
    simp only [zins, zstJ] at h
    split at h
    · split at h
      · rename_i h0
        cases h
        exact lv_lstore hx hb hd hla (by rw [← hl.1]; exact h0.1) rfl (fun ls1 hl1 => k _ _ _ (zH_set2 hl.1 h0.2 (by rw [← hl.1]; exact h0.1) hl1 rfl) hP hD hS)
      · cases h
    · cases h
  | iinc n d =>
    have hn : len = 3 := by simpa [zlen] using hlen
    subst hn
    simp only [zins, zinc] at h
    split at h
    · rename_i x hv
      split at h
      · rename_i h0
        cases h
        obtain ⟨j, hj⟩ := List.getElem?_of_mem (zlv_mem (q := q) hv (by simp))
        have hlt : n < znl id := by rw [← hl.1]; exact z_len hv
        exact lv_iinc (v := x + Int32.ofInt d) hx hb hd hla hj rfl hlt rfl (fun ls1 hl1 => k _ _ _ (zH_set1 (w := .int (x + Int32.ofInt d)) hl.1 h0 hlt hl1 rfl) hP hD hS)
      · cases h
    · cases h
  | dup =>
    have hn : len = 1 := by simpa [zlen] using hlen
    subst hn
    simp only [zins, zdup] at h
    split at h
    · split at h
      · rename_i h0
        cases h
        exact lv_dup hx hb hd (by rw [rv_cat]; exact h0) (k _ _ _ hl hP hD hS)
      · cases h
    · cases h
  | dup2 =>
    have hn : len = 1 := by simpa [zlen] using hlen
    subst hn
    simp only [zins, zdup2] at h
    split at h
    · split at h
      · rename_i h0
        cases h
        exact lv_dup2_11 hx hb hd (by rw [rv_cat]; exact h0.1) (by rw [rv_cat]; exact h0.2) (k _ _ _ hl hP hD hS)
      · cases h
    · cases h
  | goto off =>
    have hn : len = 3 := by simpa [zlen] using hlen
    subst hn
    obtain ⟨h1, e2⟩ := zjmp_inv h
    cases e2
    exact lv_goto hx hb hd h1 (k _ _ _ hl hP hD hS)
  | ifCond cn off =>
    have hn : len = 3 := by simpa [zlen] using hlen
    subst hn
    simp only [zins, zif1] at h
    split at h
    · cases cn <;> (obtain ⟨h1, e2⟩ := zbr_inv h; cases e2)
      · exact lv_if_eq hx hb hd h1 (fun hc => by rw [if_pos hc] at k; exact k _ _ _ hl hP hD hS) (fun hc => by rw [if_neg hc] at k; exact k _ _ _ hl hP hD hS)
      · exact lv_if_ne hx hb hd h1 (fun hc => by rw [if_pos hc] at k; exact k _ _ _ hl hP hD hS) (fun hc => by rw [if_neg (fun h => h hc)] at k; exact k _ _ _ hl hP hD hS)
      · exact lv_if_lt hx hb hd h1 (fun hc => by rw [if_pos hc] at k; exact k _ _ _ hl hP hD hS) (fun hc => by rw [if_neg hc] at k; exact k _ _ _ hl hP hD hS)
      · exact lv_if_ge hx hb hd h1 (fun hc => by rw [if_pos hc] at k; exact k _ _ _ hl hP hD hS) (fun hc => by rw [if_neg hc] at k; exact k _ _ _ hl hP hD hS)
      · exact lv_if_gt hx hb hd h1 (fun hc => by rw [if_pos hc] at k; exact k _ _ _ hl hP hD hS) (fun hc => by rw [if_neg hc] at k; exact k _ _ _ hl hP hD hS)
      · exact lv_if_le hx hb hd h1 (fun hc => by rw [if_pos hc] at k; exact k _ _ _ hl hP hD hS) (fun hc => by rw [if_neg hc] at k; exact k _ _ _ hl hP hD hS)
    · cases h
  | if_icmp cn off =>
    have hn : len = 3 := by simpa [zlen] using hlen
    subst hn
    simp only [zins, zif2] at h
    split at h
    · cases cn <;> (obtain ⟨h1, e2⟩ := zbr_inv h; cases e2)
      · exact lv_icmp_eq hx hb hd h1 (fun hc => by rw [if_pos hc] at k; exact k _ _ _ hl hP hD hS) (fun hc => by rw [if_neg hc] at k; exact k _ _ _ hl hP hD hS)
      · exact lv_icmp_ne hx hb hd h1 (fun hc => by rw [if_pos hc] at k; exact k _ _ _ hl hP hD hS) (fun hc => by rw [if_neg (fun h => h hc)] at k; exact k _ _ _ hl hP hD hS)
      · exact lv_icmp_lt hx hb hd h1 (fun hc => by rw [if_pos hc] at k; exact k _ _ _ hl hP hD hS) (fun hc => by rw [if_neg hc] at k; exact k _ _ _ hl hP hD hS)
      · exact lv_icmp_ge hx hb hd h1 (fun hc => by rw [if_pos hc] at k; exact k _ _ _ hl hP hD hS) (fun hc => by rw [if_neg hc] at k; exact k _ _ _ hl hP hD hS)
      · exact lv_icmp_gt hx hb hd h1 (fun hc => by rw [if_pos hc] at k; exact k _ _ _ hl hP hD hS) (fun hc => by rw [if_neg hc] at k; exact k _ _ _ hl hP hD hS)
      · exact lv_icmp_le hx hb hd h1 (fun hc => by rw [if_pos hc] at k; exact k _ _ _ hl hP hD hS) (fun hc => by rw [if_neg hc] at k; exact k _ _ _ hl hP hD hS)
    · cases h
  | tableswitch d lo hi offs =>
    simp only [zins, ztab] at h
    split at h
    · split at h
      · rename_i h0
        obtain ⟨h1, e2⟩ := zjmp_inv h
        cases e2
        exact lv_tableOut hx hb hd h0 h1 (k _ _ _ hl hP hD hS)
      · rename_i h0
        split at h
        · rename_i off ho
          obtain ⟨h1, e2⟩ := zjmp_inv h
          cases e2
          exact lv_tableIn hx hb hd (fun h => h0 (Or.inl h)) (fun h => h0 (Or.inr h)) ho h1 (k _ _ _ hl hP hD hS)
        · cases h
    · cases h
  | lookupswitch d ps =>
    simp only [zins, zlook] at h
    split at h
    · split at h
      · rename_i h0
        obtain ⟨h1, e2⟩ := zjmp_inv h
        cases e2
        exact lv_lookup hx hb hd h0 rfl h1 (k _ _ _ hl hP hD hS)
      · cases h
    · cases h
  | getfield n =>
    have hn : len = 3 := by simpa [zlen] using hlen
    subst hn
    simp only [zins, zgetf] at h
    split at h
    · rename_i a r
      split at h
      · rename_i ci kk nest hf
        split at h
        · rename_i h0
          cases h
          obtain ⟨hw, h7, hk, hcl⟩ := zm_fl hf
          dsimp only at hw h7 hk hcl
          have hN2 : zn a = zvN ci := by rw [zn_obj a h0.1 (by omega), h0.2]
          have he := zW_at q cI cZ cS M h0.1
          rw [zE_obj q cI cZ cS h0.2 h7] at he
          have hv : ((List.range (zn a)).map fun k => rv q (zfv a k M))[kk]? = some (rv q (zfv a kk M)) := by simp [hN2, hk]
          by_cases hnest : nest = true
          · have hlk : zfw ((zcl id, n), (ci, kk, nest)) ∈ zNW := List.mem_filter.mpr ⟨hw, by simp [zfw, hnest, zNest]⟩
            simp only [zfw, hnest, if_true] at hlk
            exact va_getN hx hb hT (zm_ly h7) hown hK hP a he (zm_vw h7) kk hk (va_Nw.use rfl (hN _ hlk)) (fun x hx => by rw [hcl] at hx; exact hx) hv hd (k _ _ _ hl hP hD hS)
          · have hlk : zfw ((zcl id, n), (ci, kk, nest)) ∈ zT := List.mem_filter.mpr ⟨hw, by simp only [zfw, hnest]; rfl⟩
            simp only [zfw, hnest] at hlk
            exact va_get hx hb hT (zm_ly h7) hown hK hP a he (zm_vw h7) kk hk (hT _ hlk) (fun x hx => by rw [hcl] at hx; exact hx) hv hd (k _ _ _ hl hP hD hS)
        · cases h
      · cases h
    · cases h
  | putfield n =>
    have hn : len = 3 := by simpa [zlen] using hlen
    subst hn
    simp only [zins, zputf] at h
    split at h
    · rename_i x a r
      split at h
      · rename_i ci kk nest hf
        split at h
        · rename_i h0
          cases h
          obtain ⟨hw, h7, hk, hcl⟩ := zm_fl hf
          dsimp only at hw h7 hk hcl
          obtain ⟨ha, hka, hfn, hfin, hty⟩ := h0
          have hN2 : zn a = zvN ci := by rw [zn_obj a ha (by omega), hka]
          have he := zW_at q cI cZ cS M ha
          rw [zE_obj q cI cZ cS hka h7] at he
          have hnar : narrow (zty ci kk) (.int x) = .int x ∧ fits (zty ci kk) (.int x) = true := by
            rcases hty with h1 | ⟨h1, h2 | h2⟩
            · rw [h1]; exact ⟨rfl, rfl⟩
            · rw [h1, h2]; exact ⟨rfl, rfl⟩
            · rw [h1, h2]; exact ⟨rfl, rfl⟩
          have hset : ((List.range (zn a)).map fun k => rv q (zfv a k M)).set kk (.int x) = (List.range (zn a)).map fun k => rv q (zfv a k (zup M a kk x)) := by
            apply List.ext_getElem?
            intro i
            rw [List.getElem?_set]
            by_cases hi : i < zn a
            · by_cases e1 : kk = i
              · subst e1
                simp [hi, zfv, hfn, zup, zrow, upd, rv]
              · rw [if_neg e1]
                have e2 : zfv a i (zup M a kk x) = zfv a i M := by
                  unfold zfv
                  split
                  · rfl
                  · simp [zup, zrow, upd, Ne.symm e1]
                simp [hi, e2]
            · rw [if_neg (by omega), List.getElem?_eq_none (by simp; omega), List.getElem?_eq_none (by simp; omega)]
          have hgo : ∀ (H1 : Heap) (locs1 : List Loc), va_P D vwCl ((zW q cI cZ cS M).set a (q a, .inr (ci, ((List.range (zn a)).map fun k => rv q (zfv a k M)).set kk (.int x)))) H1 → va_D A ((zW q cI cZ cS M).set a (q a, .inr (ci, ((List.range (zn a)).map fun k => rv q (zfv a k M)).set kk (.int x)))) → va_S A s.heap H1 locs1 → W p l e (zrm id) s m args below meth c H1 locs1 0 0 Q (F0 m (pc + 3) ls (st'.map (rv q))) := by
            intro H1 locs1 hP1 hD1 hS1
            have hw2 : (zW q cI cZ cS M).set a (q a, .inr (ci, ((List.range (zn a)).map fun k => rv q (zfv a k M)).set kk (.int x))) = zW q cI cZ cS (zup M a kk x) := zW_set q cI cZ cS (fun b hb => zrow_ne M _ hb) (by rw [zE_obj q cI cZ cS hka h7, hset])
            rw [hw2] at hP1 hD1
            exact k _ _ _ hl hP1 hD1 hS1
          by_cases hnest : nest = true
          · have hlk : zfw ((zcl id, n), (ci, kk, nest)) ∈ zNW := List.mem_filter.mpr ⟨hw, by simp [zfw, hnest, zNest]⟩
            simp only [zfw, hnest, if_true] at hlk
            exact va_putN hx hb hT (zm_ly h7) (zty ci) (fun k hk => zm_ty h7 hk) (zm_nm h7) hown hK hP hD hS a he (zm_vw h7) kk hk (va_Nw.use rfl (hN _ hlk)) (fun x hx => by rw [hcl] at hx; exact hx) hfin (zm_ty h7 hk) hnar.1 hnar.2 (by simp [hN2, hk]) hd hgo
          · have hlk : zfw ((zcl id, n), (ci, kk, nest)) ∈ zT := List.mem_filter.mpr ⟨hw, by simp only [zfw, hnest]; rfl⟩
            simp only [zfw, hnest] at hlk
            exact va_put hx hb hT (zm_ly h7) (zty ci) (fun k hk => zm_ty h7 hk) (zm_nm h7) hown hK hP hD hS a he (zm_vw h7) kk hk (hT _ hlk) (fun x hx => by rw [hcl] at hx; exact hx) hfin (zm_ty h7 hk) hnar.1 hnar.2 (by simp [hN2, hk]) hd hgo
        · cases h
      · cases h
    · cases h
  | iaload =>
    have hn : len = 1 := by simpa [zlen] using hlen
    subst hn
    simp only [zins, zald] at h
    split at h
    · split at h
      · rename_i a r h0
        cases h
        have he := zW_at q cI cZ cS M h0.1
        rw [zE_int q cI cZ cS h0.2.1] at he
        exact va_iald hx hb hK hP _ 0 he rfl (zin_vp h0.2.2) hd (k _ _ _ hl hP hD hS)
      · cases h
    · cases h
  | baload =>
    have hn : len = 1 := by simpa [zlen] using hlen
    subst hn
    simp only [zins, zald] at h
    split at h
    · split at h
      · rename_i a r h0
        cases h
        have he := zW_at q cI cZ cS M h0.1
        rw [zE_bool q cI cZ cS h0.2.1] at he
        exact va_zald hx hb hK hP _ 1 he rfl (zin_vp h0.2.2) hd (k _ _ _ hl hP hD hS)
      · cases h
    · cases h
  | iastore =>
    have hn : len = 1 := by simpa [zlen] using hlen
    subst hn
    simp only [zins, zast] at h
    split at h
    · split at h
      · rename_i x i a r h0
        cases h
        have he := zW_at q cI cZ cS M h0.1
        rw [zE_int q cI cZ cS h0.2.1] at he
        refine va_iast hx hb hK hP hD hS _ 0 he rfl (zin_vp h0.2.2) hd (fun H1 locs1 hP1 hD1 hS1 => ?_)
        have hw2 := zW_set q cI cZ cS (M := M) (M' := zup M a i.toNatClampNeg x) (c := a) (e := .inl (cI, zn a, .inl (upd (M a) i.toNatClampNeg x))) (fun b hb => zrow_ne M _ hb) (by rw [zE_int q cI cZ cS h0.2.1]; unfold zup; rw [zrow_self])
        rw [hw2] at hP1 hD1
        exact k _ _ _ hl hP1 hD1 hS1
      · cases h
    · cases h
  | bastore =>
    have hn : len = 1 := by simpa [zlen] using hlen
    subst hn
    simp only [zins, zast] at h
    split at h
    · split at h
      · rename_i x i a r h0
        cases h
        have he := zW_at q cI cZ cS M h0.1
        rw [zE_bool q cI cZ cS h0.2.1] at he
        refine va_zast hx hb hK hP hD hS _ 1 he rfl (zin_vp h0.2.2) hd (fun H1 locs1 hP1 hD1 hS1 => ?_)
        have hw2 := zW_set q cI cZ cS (M := M) (M' := zup M a i.toNatClampNeg (vp_nar .boolean x)) (c := a) (e := .inl (cZ, zn a, .inl (upd (M a) i.toNatClampNeg (vp_nar .boolean x)))) (fun b hb => zrow_ne M _ hb) (by rw [zE_bool q cI cZ cS h0.2.1]; unfold zup; rw [zrow_self])
        rw [hw2] at hP1 hD1
        exact k _ _ _ hl hP1 hD1 hS1
      · cases h
    · cases h
  | aaload =>
    have hn : len = 1 := by simpa [zlen] using hlen
    subst hn
    simp only [zins, zaldq] at h
    split at h
    · rename_i i a r
      split at h
      · rename_i h0
        split at h
        · rename_i b hb2
          cases h
          have he := zW_at q cI cZ cS M h0.1
          rw [zE_arr q cI cZ cS h0.2.1] at he
          refine va_aldq hx hb hK hP _ 2 he rfl (zin_vp h0.2.2) hd ?_
          rw [hb2]
          exact k _ _ _ hl hP hD hS
        · cases h
      · cases h
    · cases h
  | invokestatic n =>
    have hn : len = 3 := by simpa [zlen] using hlen
    subst hn
    simp only [zins, zinvS] at h
    split at h
    · rename_i j nest hf
      obtain ⟨hw, -⟩ := zm_ml hf
      split at h
      · rename_i hj
        have hlk : zlw ((zcl id, n), (j, nest)) ∈ zT := List.mem_filter.mpr ⟨hw, by simp only [zlw, hj]; rfl⟩
        simp only [zlw, hj, if_true] at hlk
        simp only [zmax] at h
        split at h
        · split at h
          · rename_i h0
            cases h
            refine va_mmax hx hb (hml.trans hla.1.symm) hown (hT _ hlk) (hT _ zm_mxs) (hT _ zm_mat) (hT _ zm_mxc) h0.1 (by rw [rv_cs]; exact h0.2) (Nat.zero_le _) (Nat.zero_le _) hd (k _ _ _ hl hP hD hS)
          · cases h
        · cases h
      · rename_i hj
        split at h
        · rename_i hj2
          have hlk : zlw ((zcl id, n), (j, nest)) ∈ zT := List.mem_filter.mpr ⟨hw, by simp only [zlw, hj2]; rfl⟩
          simp only [zlw, hj2] at hlk
          simp only [zcpy] at h
          split at h
          · split at h
            · rename_i nn dp b sp a r h0
              cases h
              obtain ⟨⟨ha, hka, hbb, hkb⟩, ⟨g1, g2, g3, g4, g5⟩, g6, g7⟩ := h0
              have he0 := zW_at q cI cZ cS M ha
              rw [zE_int q cI cZ cS hka] at he0
              have he1 := zW_at q cI cZ cS M hbb
              rw [zE_int q cI cZ cS hkb] at he1
              refine va_copyi hx hb (hml.trans hla.1.symm) hown (hT _ hlk) (hT _ zm_cpn) (hT _ zm_cps) (hT _ zm_sys) hK hP hD hS a b 0 0 he0 he1 rfl rfl rfl g1 g2 g3 g4 g5 (fun _ _ => rfl) g6 (by rw [rv_cs]; exact g7) hd (fun H1 locs1 hP1 hD1 hS1 => ?_)
              have hw2 := zW_set q cI cZ cS (M := M) (M' := zrow M b (va_cpy (M a) (M b) sp.toNatClampNeg dp.toNatClampNeg nn.toNatClampNeg)) (c := b) (e := .inl (cI, zn b, .inl (va_cpy (M a) (M b) sp.toNatClampNeg dp.toNatClampNeg nn.toNatClampNeg))) (fun b hb => zrow_ne M _ hb) (by rw [zE_int q cI cZ cS hkb, zrow_self])
              rw [hw2] at hP1 hD1
              exact k _ _ _ hl hP1 hD1 hS1
            · cases h
          · cases h
        · unfold zcall at h
          split at h
          · cases h
          · cases h
    · cases h
  | invokevirtual n =>
    simp only [zins, zinvV] at h
    split at h
    · unfold zcall at h
      split at h
      · cases h
      · cases h
    · cases h
  | ireturn =>
    simp only [zins, ziret] at h
    split at h
    · split at h
      · cases h
      · cases h
    · cases h
  | lreturn =>
    simp only [zins, zlret] at h
    split at h
    · split at h
      · cases h
      · cases h
    · cases h
  | return_ =>
    simp only [zins, zvret] at h
    split at h
    · split at h
      · cases h
      · cases h
    · cases h
  | _ => cases h
end ZS
