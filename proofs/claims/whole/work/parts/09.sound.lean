theorem zq_noint : (List.range zNM).all (fun k => decide (zcl k = 7 → zst k = true)) = true := by decide +kernel
theorem z_noint (k : Nat) (hk : k < zNM) (h : zcl k = 7) : zst k = true := (of_decide_eq_true (z_range zq_noint hk)) h
section ZS
variable {q : Nat → Nat} {cI cZ cS : ClassId} {D : va_G} {l : Launch}
def zQc (q : Nat → Nat) (cI cZ cS : ClassId) (D : va_G) (r : zR) (M : zM) (A : Nat → Prop) : Array Value → State → Outcome → State → Prop := match r with
  | none => va_Qv (fun (_ : Unit) => True) (fun _ t => va_P D vwCl (zW q cI cZ cS M) t.heap) A
  | some (.inl x) => va_Qi (fun r' (_ : Unit) => r' = x) (fun _ t => va_P D vwCl (zW q cI cZ cS M) t.heap) A
  | some (.inr x) => va_Ql (fun r' (_ : Unit) => r' = x) (fun _ t => va_P D vwCl (zW q cI cZ cS M) t.heap) A
def zPre (q : Nat → Nat) (cI cZ cS : ClassId) (D : va_G) (M : zM) (sz : Nat) (U : State) : Prop :=
  U.heap.size = sz ∧ va_P D vwCl (zW q cI cZ cS M) U.heap ∧ va_K D vwCl (ztys cI cZ cS) U ∧ va_D (fun _ => True) (zW q cI cZ cS M) ∧ ∀ w ∈ zNW, va_Nw w U
def zSnd (q : Nat → Nat) (cI cZ cS : ClassId) (D : va_G) (l : Launch) (n : Nat) : Prop :=
  ∀ {p : Program} {e : Env} {s : State} {m : MethodId} {args : Array Value} {below : List Frame} {meth : Method} {c : Code} {A : Nat → Prop} (id : Nat), id < zNM → zCtx cI cZ cS D p s m args meth c id → (∀ a : Nat, s.heap.size ≤ a → A a) →
    ∀ (pc : Nat) (L st : List Value) (M : zM) (r : zR) (M' : zM) (H : Heap) (locs : List Loc) (ls : Array Slot), zx n id pc L st M = some (r, M') → zH q ls (znl id) L → va_P D vwCl (zW q cI cZ cS M) H → va_D A (zW q cI cZ cS M) → va_S A s.heap H locs →
      W p l e (zrm id) s m args below meth c H locs 0 0 (MQ below (zQc q cI cZ cS D r M' A) args s 0 0 A) (F0 m pc ls (st.map (rv q)))
theorem zNest_on {w : Cond} (h : zNest w = true) : w.onTables = true := by
  cases w <;> first | rfl | (exact absurd h (by simp [zNest]))
theorem zNW_on {w : Cond} (h : w ∈ zNW) : w.onTables = true := zNest_on (List.mem_filter.mp h).2
theorem zNW_warm {w : Cond} (h : w ∈ zNW) {s U : State} (hW : s.WarmedH U.vm) (hZ : va_Nw w s) : va_Nw w U := by
  have h2 := (List.mem_filter.mp h).2
  cases w <;> first | exact va_Nw.warmM hW hZ | exact va_Nw.warmF hW hZ | (exact absurd h2 (by simp [zNest]))
theorem zPre_blind {As : List Value} {M : zM} {sz : Nat} : FrameBlind (va_Pc As (zPre q cI cZ cS D M sz)) := by
  intro a U g mk h
  obtain ⟨h0, h1, h2, h3, h4, h5⟩ := h
  exact ⟨h0, h1, h2, va_K.moved (u := U) (U := U.calling g mk a) (Vm.Alike.refl U.vm) h3, h4, fun w hw => va_Nw.same (zNW_on hw) (rfl : U.vm = (U.calling g mk a).vm) (h5 w hw)⟩
theorem zPre_go {s : State} {H : Heap} {M : zM} {A : Nat → Prop} (hK : va_K D vwCl (ztys cI cZ cS) s) (hN : ∀ w ∈ zNW, va_Nw w s) (hP : va_P D vwCl (zW q cI cZ cS M) H) (hD : va_D A (zW q cI cZ cS M)) {As : List Value} : ∀ U : State, U.heap = H → s.WarmedH U.vm → va_Pc As (zPre q cI cZ cS D M H.size) As.toArray U :=
  fun U hU hW => ⟨rfl, by rw [hU], by rw [hU]; exact hP, va_K.moved hW.alike hK, hD.weaken (fun _ _ _ _ => trivial), fun w hw => zNW_warm hw hW (hN w hw)⟩
theorem z_met {n : Nat} (ih : zSnd q cI cZ cS D l n) {j : Nat} (hj : j < zNM) {As : List Value} {M : zM} {r : zR} {M' : zM} (h : zx n j 0 (zent (znl j) As) [] M = some (r, M')) (hlen : (zexp As).length ≤ znl j) (sz : Nat) :
    Met l (zy j) (zws j) (zrm j) (va_Pc (As.map (rv q)) (zPre q cI cZ cS D M sz)) (zQc q cI cZ cS D r M' (va_A (zW q cI cZ cS M) sz)) 0 0 (va_A (zW q cI cZ cS M) sz) := by
  refine Met.ofW (cc := zb j) (maxL := znl j) (ret := zret j) (zm_cls hj).2.2.1 rfl ?_
  intro p e s m args below meth c s₁ B hml hv
  obtain ⟨rfl, hsz, hP, hK, hD0, hN⟩ := hv
  have hown : s.vm.findClass (zy j).cls = some m.cls := findClass_of_methodNamed B.named
  rw [(zm_cls hj).2.1] at hown
  have C : zCtx cI cZ cS D p s m ((As.map (rv q)).toArray) meth c j := ⟨B.exec, B.bytes, B.returns, atoms_spec (ws := zws j) B.pre, hown, hml, B.notSynchronized, hN, hK⟩
  subst hsz
  have hD := hD0.self (sz := s.heap.size)
  rw [lg_entry_eq]
  exact ih j hj C (fun a ha => Or.inr ha) 0 _ [] M r M' s.heap [] _ h (zH_entry hlen) hP hD va_S.rf
theorem z_ret {i : Instr} {id pc : Nat} {L st : List Value} {M : zM} {r : zR} (h : zins i id pc L st M = some (.inr (.inl r))) :
    (i = .ireturn ∧ ziret id st = some (.inr (.inl r))) ∨ (i = .lreturn ∧ zlret id st = some (.inr (.inl r))) ∨ (i = .return_ ∧ zvret id st = some (.inr (.inl r))) := by
  cases i
  case ireturn => exact Or.inl ⟨rfl, h⟩
  case lreturn => exact Or.inr (Or.inl ⟨rfl, h⟩)
  case return_ => exact Or.inr (Or.inr ⟨rfl, h⟩)
  case if_icmp cn off => cases cn <;> (simp only [zins, zif2, zbr, zgo] at h; repeat' split at h) <;> cases h
  case ifCond cn off => cases cn <;> (simp only [zins, zif1, zbr, zgo] at h; repeat' split at h) <;> cases h
  all_goals (simp only [zins, zI2, zD2, zJ2, zE2, zI1, zi2l, zlcmp, zjmp, zgo, zldI, zldL, zldA, zstI, zstA, zstJ, zinc, zdup, zdup2, ztab, zlook, zgetf, zputf, zald, zast, zaldq, zinvS, zinvV, zmax, zcpy, zcall] at h; repeat' split at h) <;> cases h
theorem z_call {i : Instr} {id pc : Nat} {L st : List Value} {M : zM} {a : Nat × List Value × List Value × List Value} (h : zins i id pc L st M = some (.inr (.inr a))) :
    (∃ n nest, i = .invokestatic n ∧ zml (zcl id) n = some (a.1, nest) ∧ a.1 ≠ 1000 ∧ a.1 ≠ 1001 ∧ zcall true id a.1 (zpn a.1) L st = some (.inr (.inr a))) ∨ (∃ n nest, i = .invokevirtual n ∧ zml (zcl id) n = some (a.1, nest) ∧ zcall false id a.1 (zpn a.1 + 1) L st = some (.inr (.inr a))) := by
  cases i
  case invokestatic n =>
    refine Or.inl ⟨n, ?_⟩
    simp only [zins, zinvS] at h
    split at h
    · rename_i j nest e
      split at h
      · simp only [zmax, zgo] at h
        repeat' split at h
        all_goals cases h
      · rename_i h1
        split at h
        · simp only [zcpy, zgo] at h
          repeat' split at h
          all_goals cases h
        · rename_i h2
          have hj : a.1 = j := by
            unfold zcall at h
            split at h
            · cases h; rfl
            · cases h
          rw [hj]
          exact ⟨nest, rfl, e, h1, h2, h⟩
    · cases h
  case invokevirtual n =>
    refine Or.inr ⟨n, ?_⟩
    simp only [zins, zinvV] at h
    split at h
    · rename_i j nest e
      have hj : a.1 = j := by
        unfold zcall at h
        split at h
        · cases h; rfl
        · cases h
      rw [hj]
      exact ⟨nest, rfl, e, h⟩
    · cases h
  case if_icmp cn off => cases cn <;> (simp only [zins, zif2, zbr, zgo] at h; repeat' split at h) <;> cases h
  case ifCond cn off => cases cn <;> (simp only [zins, zif1, zbr, zgo] at h; repeat' split at h) <;> cases h
  all_goals (simp only [zins, zI2, zD2, zJ2, zE2, zI1, zi2l, zlcmp, zjmp, zgo, zldI, zldL, zldA, zstI, zstA, zstJ, zinc, zdup, zdup2, ztab, zlook, zgetf, zputf, zald, zast, zaldq, ziret, zlret, zvret] at h; repeat' split at h) <;> cases h
theorem zcall_inv {sta : Bool} {id j t : Nat} {L st : List Value} {a : Nat × List Value × List Value × List Value} (h : zcall sta id j t L st = some (.inr (.inr a))) :
    (j < zNM ∧ zst j = sta ∧ t ≤ st.length ∧ zcs (st.drop t) ≤ 8 ∧ zfr j + 1 ≤ zfr id ∧ 8 + (znl j + 11) + zlo j ≤ zlo id ∧ (zexp (st.take t).reverse).length ≤ znl j ∧ (sta = true ∨ zrcv (st.take t).reverse (zcl j) = true)) ∧ a = (j, zent (znl j) (st.take t).reverse, L, st.drop t) := by
  unfold zcall at h
  split at h
  · rename_i h0; cases h; exact ⟨h0, rfl⟩
  · cases h
theorem zrcv_inv {vs : List Value} {ci : Nat} (h : zrcv vs ci = true) : ∃ b As, vs = .ref b :: As ∧ b < zNC ∧ zk b = ci := by
  unfold zrcv at h
  split at h
  · have := of_decide_eq_true h; exact ⟨_, _, rfl, this.1, this.2⟩
  · cases h
theorem zG_of {ws : List Cond} (h : ∀ w ∈ ws, w ∈ zT) : GoodIn zT ws := fun w hw => zT_good w (h w hw)
theorem zG_ws {j : Nat} (hj : j < zNM) : ∀ w ∈ zws j, w ∈ zT := by
  intro w hw
  rcases List.mem_cons.mp hw with rfl | h
  · exact zm_code hj
  · exact h
theorem zml_mem {id n j : Nat} {nest : Bool} (h : zml (zcl id) n = some (j, nest)) (hj : j < zNM) : (nest = true → Cond.methodLinkNest (zcn (zcl id)) n (zy j) RX5 ∈ zNW) ∧ (nest = false → Cond.methodLink (zcn (zcl id)) n (zy j) ∈ zT) := by
  obtain ⟨hw, -⟩ := zm_ml h
  have h1 : ¬ j = 1000 := by unfold zNM at hj; omega
  have h2 : ¬ j = 1001 := by unfold zNM at hj; omega
  unfold zlw at hw
  dsimp only at hw
  rw [if_neg h1, if_neg h2] at hw
  constructor
  · intro hn
    rw [if_pos hn] at hw
    exact List.mem_filter.mpr ⟨hw, rfl⟩
  · intro hn
    rw [if_neg (by rw [hn]; decide)] at hw
    exact List.mem_filter.mpr ⟨hw, rfl⟩
theorem z_sound : ∀ n, zSnd q cI cZ cS D l n := by
  intro n
  induction n with
  | zero => intro p e s m args below meth c A id hid C hA pc L st M r M' H locs ls h; cases h
  | succ n ih =>
    intro p e s m args below meth c A id hid C hA pc L st M r M' H locs ls h hl hP hD hS
    obtain ⟨i, hc⟩ : ∃ i, zc id pc = some i := by
      cases hc : zc id pc with
      | none => simp [zx, zact, hc] at h
      | some i => exact ⟨i, rfl⟩
    obtain ⟨len, hd, hlen⟩ := zm_dc hid hc
    have hz : zact id pc L st M = zins i id pc L st M := by unfold zact; rw [hc]
    unfold zx at h
    rw [hz] at h
    split at h
    · cases h
    · rename_i pc' L' st' M1 ha
      exact z_tail hid C rfl hd hlen ha hl hP hD hS (fun H1 locs1 ls1 hl1 hP1 hD1 hS1 => ih id hid C hA pc' L' st' M1 r M' H1 locs1 ls1 h hl1 hP1 hD1 hS1)
    · rename_i r0 ha
      cases h
      obtain ⟨hx, hb, hr, hts, hown, hml, hlocks, hN, hK⟩ := C
      rcases z_ret ha with ⟨rfl, h2⟩ | ⟨rfl, h2⟩ | ⟨rfl, h2⟩
      · have hn : len = 1 := by simpa [zlen] using hlen
        subst hn
        unfold ziret at h2
        split at h2
        · split at h2
          · rename_i v h0
            cases h2
            rcases h0 with h0 | ⟨h0, h1⟩
            · exact W.iret hx hb (hr.trans h0) (fun t ht hW => ⟨⟨v, (), rfl, rfl, by show va_P D vwCl (zW q cI cZ cS M) t.heap; rw [ht]; exact hP⟩, hS.F ht⟩) hS.2.2 hd hlocks
            · exact W.zret hx hb (hr.trans h0) (by rcases h1 with h1 | h1 <;> rw [h1] <;> rfl) (fun t ht hW => ⟨⟨v, (), rfl, rfl, by show va_P D vwCl (zW q cI cZ cS M) t.heap; rw [ht]; exact hP⟩, hS.F ht⟩) hS.2.2 hd hlocks
          · cases h2
        · cases h2
      · have hn : len = 1 := by simpa [zlen] using hlen
        subst hn
        unfold zlret at h2
        split at h2
        · split at h2
          · rename_i v h0
            cases h2
            exact W.lret hx hb (hr.trans h0) (fun t ht hW => ⟨⟨v, (), rfl, rfl, by show va_P D vwCl (zW q cI cZ cS M) t.heap; rw [ht]; exact hP⟩, hS.F ht⟩) hS.2.2 hd hlocks
          · cases h2
        · cases h2
      · have hn : len = 1 := by simpa [zlen] using hlen
        subst hn
        unfold zvret at h2
        split at h2
        · split at h2
          · rename_i h0
            cases h2
            exact W.vret hx hb (hr.trans h0) (fun t ht hW => ⟨⟨(), rfl, trivial, by show va_P D vwCl (zW q cI cZ cS M) t.heap; rw [ht]; exact hP⟩, hS.F ht⟩) hS.2.2 hd hlocks
          · cases h2
        · cases h2
    · rename_i j E L' st' ha
      split at h
      · cases h
      · rename_i r1 M1 h1
        have hA1 : ∀ a : Nat, va_A (zW q cI cZ cS M) H.size a → A a := by
          rintro a (⟨k, x, hk⟩ | ha)
          · exact hD.2 k _ hk
          · exact hA a (Nat.le_trans hS.1 ha)
        have C2 := C
        obtain ⟨hx, hb, hr, hts, hown, hml, hlocks, hN, hK⟩ := C2
        have hT : ∀ w ∈ zT, w.before args s = true := fun w hw => hts w (zws_T hw)
        have hrun : L' = L ∧ ∃ aa : Array Value, va_Run p l e (zrm id) s m args below meth c H locs 0 0 0 0 (F0 m pc ls (st.map (rv q))) (st'.map (rv q)) (zQc q cI cZ cS D r1 M1 (va_A (zW q cI cZ cS M) H.size) aa) (va_A (zW q cI cZ cS M) H.size) := by
          rcases z_call ha with ⟨nn, nest, rfl, hm, -, -, hcl⟩ | ⟨nn, nest, rfl, hm, hcl⟩
          · have hn : len = 3 := by simpa [zlen] using hlen
            subst hn
            dsimp only at hm hcl
            obtain ⟨⟨hj, hsta, ht, hcs, hfr, hlo, hlen2, -⟩, he⟩ := zcall_inv hcl
            cases he
            refine ⟨rfl, ?_⟩
            have hM := z_met ih hj h1 hlen2 H.size
            have hRm : (zrm j).frames + 1 ≤ (zrm id).frames ∧ 8 + (znl j + 11) + (zrm j).locals ≤ (zrm id).locals := ⟨hfr, hlo⟩
            have hcc := zm_cls hj
            have hstk : st.map (rv q) = (((st.take (zpn j)).reverse.map (rv q)).reverse) ++ (st.drop (zpn j)).map (rv q) := by
              rw [List.map_reverse, List.reverse_reverse, ← List.map_append, List.take_append_drop]
            have hnn : ((st.take (zpn j)).reverse.map (rv q)).length = zpn j := by simp; omega
            cases nest with
            | false =>
              refine ⟨_, va_runS (As := (st.take (zpn j)).reverse.map (rv q)) (rest := (st.drop (zpn j)).map (rv q)) ⟨hx, hb, hml, hown, hT⟩ hM
                (va_cwS (zpn j) hT (zG_of (by
                  intro w hw
                  simp only [va_wsS, List.cons_append, List.nil_append, List.mem_cons] at hw
                  rcases hw with rfl | rfl | rfl | hw
                  · exact (zml_mem hm hj).2 rfl
                  · exact zm_stat hj hsta
                  · exact zm_init hj
                  · exact zG_ws hj w hw)) rfl rfl rfl ⟨hcc.2.2.2.1, hcc.2.2.2.2.1, hcc.2.2.2.2.2⟩ hRm)
                ⟨zPre_blind, zPre_go hK hN hP hD⟩ rfl hnn hl.2.1.1 hstk (lv_room (by rw [rv_cs]; exact hcs)) hd ⟨Nat.le_refl _, Nat.le_refl _⟩⟩
            | true =>
              refine ⟨_, va_runSN (As := (st.take (zpn j)).reverse.map (rv q)) (rest := (st.drop (zpn j)).map (rv q)) ⟨hx, hb, hml, hown, hT⟩ hM
                ⟨va_cnB (zpn j) hT (zG_of (zG_ws hj)) rfl rfl rfl (hN _ ((zml_mem hm hj).1 rfl)) (hT _ (zm_init hj)) ⟨hcc.2.2.2.1, hcc.2.2.2.2.1, hcc.2.2.2.2.2⟩ hRm, hT _ (zm_stat hj hsta), trivial⟩
                ⟨zPre_blind, zPre_go hK hN hP hD⟩ rfl hnn hl.2.1.1 hstk (lv_room (by rw [rv_cs]; exact hcs)) hd ⟨Nat.le_refl _, Nat.le_refl _⟩⟩
          · have hn : len = 3 := by simpa [zlen] using hlen
            subst hn
            dsimp only at hm hcl
            obtain ⟨⟨hj, hsta, ht, hcs, hfr, hlo, hlen2, hrc⟩, he⟩ := zcall_inv hcl
            cases he
            refine ⟨rfl, ?_⟩
            rcases hrc with hrc | hrc
            · cases hrc
            obtain ⟨b, As, hvs, hb2, hkb⟩ := zrcv_inv hrc
            have hM := z_met ih hj h1 hlen2 H.size
            have hRm : (zrm j).frames + 1 ≤ (zrm id).frames ∧ 8 + (znl j + 11) + (zrm j).locals ≤ (zrm id).locals := ⟨hfr, hlo⟩
            rw [hvs] at hM
            have hcc := zm_cls hj
            have htk : st.take (zpn j + 1) = As.reverse ++ [.ref b] := by
              have := congrArg List.reverse hvs
              simpa using this
            have hstk : st.map (rv q) = (As.map (rv q)).reverse ++ .ref (q b) :: (st.drop (zpn j + 1)).map (rv q) := by
              conv => lhs; rw [← List.take_append_drop (zpn j + 1) st, htk]
              simp [rv]
            have hnn : (As.map (rv q)).length = zpn j := by
              have := congrArg List.length htk
              simp at this
              simp
              omega
            have h7 : zcl j < 7 := by
              rcases Nat.lt_or_ge (zcl j) 7 with h | h
              · exact h
              · exfalso
                have h8 := hcc.1
                have : zcl j = 7 := by omega
                rw [this] at hkb
                have hz2 := zW_at q cI cZ cS M hb2
                rw [zE_int q cI cZ cS hkb] at hz2
                exact absurd (z_noint j hj this) (by rw [hsta]; decide)
            have he := zW_at q cI cZ cS M hb2
            rw [zE_obj q cI cZ cS hkb h7] at he
            have hrecv := va_recv hK hP (zm_vw h7) he
            dsimp only at hrecv
            rw [← hcc.2.1] at hrecv
            cases nest with
            | false =>
              refine ⟨_, va_runV (C := (zy j).cls) (b := q b) (As := As.map (rv q)) (rest := (st.drop (zpn j + 1)).map (rv q)) ⟨hx, hb, hml, hown, hT⟩ hM
                (cwV (zpn j) hT (zG_of (by
                  intro w hw
                  simp only [wsV, List.cons_append, List.nil_append, List.mem_cons] at hw
                  rcases hw with rfl | rfl | rfl | rfl | hw
                  · exact (zml_mem hm hj).2 rfl
                  · exact (zm_inst hj hsta).1
                  · exact (zm_inst hj hsta).2
                  · exact zm_init hj
                  · exact zG_ws hj w hw)) rfl rfl rfl ⟨rfl, hcc.2.2.2.1, hcc.2.2.2.2.1, hcc.2.2.2.2.2⟩ hRm)
                ⟨zPre_blind, hrecv, zPre_go hK hN hP hD⟩ rfl hnn hl.2.1.1 hstk (lv_room (by rw [rv_cs]; exact hcs)) hd ⟨Nat.le_refl _, Nat.le_refl _⟩⟩
            | true =>
              refine ⟨_, va_runVN (C := (zy j).cls) (b := q b) (As := As.map (rv q)) (rest := (st.drop (zpn j + 1)).map (rv q)) ⟨hx, hb, hml, hown, hT⟩ hM
                ⟨va_cnB (zpn j) hT (zG_of (zG_ws hj)) rfl rfl rfl (hN _ ((zml_mem hm hj).1 rfl)) (hT _ (zm_init hj)) ⟨hcc.2.2.2.1, hcc.2.2.2.2.1, hcc.2.2.2.2.2⟩ hRm, hT _ (zm_inst hj hsta).1, hT _ (zm_inst hj hsta).2⟩
                ⟨zPre_blind, hrecv, zPre_go hK hN hP hD⟩ rfl hnn hl.2.1.1 hstk (lv_room (by rw [rv_cs]; exact hcs)) hd ⟨Nat.le_refl _, Nat.le_refl _⟩⟩
        obtain ⟨rfl, aa, hrun⟩ := hrun
        match r1, h1, h, hrun with
        | none, h1, h, hrun =>
          exact va_callv (a := aa) hrun hS (fun a _ h => hA1 a h) hA1 (fun u t H1 locs1 ht hvm hw hB hz1 hk1 hS1 => ih id hid C hA (pc + 3) _ _ M1 r M' H1 locs1 ls h hl (by have hB : va_P D vwCl (zW q cI cZ cS M1) t.heap := hB; rw [ht] at hB; exact hB) (zD_any q cI cZ cS hD) hS1)
        | some (.inl x), h1, h, hrun =>
          exact va_calli (a := aa) hrun hS (fun a _ h => hA1 a h) hA1 (fun r2 u t H1 locs1 ht hvm hw hB hz1 hk1 hS1 => by
            subst hw
            exact ih id hid C hA (pc + 3) _ _ M1 r M' H1 locs1 ls h hl (by have hB : va_P D vwCl (zW q cI cZ cS M1) t.heap := hB; rw [ht] at hB; exact hB) (zD_any q cI cZ cS hD) hS1)
        | some (.inr x), h1, h, hrun =>
          exact va_calll (a := aa) hrun hS (fun a _ h => hA1 a h) hA1 (fun r2 u t H1 locs1 ht hvm hw hB hz1 hk1 hS1 => by
            subst hw
            exact ih id hid C hA (pc + 3) _ _ M1 r M' H1 locs1 ls h hl (by have hB : va_P D vwCl (zW q cI cZ cS M1) t.heap := hB; rw [ht] at hB; exact hB) (zD_any q cI cZ cS hD) hS1)
end ZS
