-- rules of the interpreter, without fuel
theorem zx_mono : ∀ (n : Nat) {id pc : Nat} {L st : List Value} {M : zM} {o : zR × zM}, zx n id pc L st M = some o → ∀ k, zx (n + k) id pc L st M = some o := by
  intro n
  induction n with
  | zero => intro id pc L st M o h; cases h
  | succ n ih =>
    intro id pc L st M o h k
    rw [show n + 1 + k = (n + k) + 1 by omega]
    unfold zx at h ⊢
    split at h
    · cases h
    · exact ih h k
    · exact h
    · split at h
      · cases h
      · rename_i e2
        rw [ih e2 k]
        exact ih h k
def zQ (id pc : Nat) (L st : List Value) (M : zM) (Q : zR → zM → Prop) : Prop := ∃ (n : Nat) (r : zR) (M' : zM), zx n id pc L st M = some (r, M') ∧ Q r M'
section ZR
variable {id pc : Nat} {L st : List Value} {M : zM} {Q : zR → zM → Prop}
theorem zQ.mono {Q' : zR → zM → Prop} (h : zQ id pc L st M Q) (hq : ∀ r M', Q r M' → Q' r M') : zQ id pc L st M Q' := by
  obtain ⟨n, r, M', h1, h2⟩ := h
  exact ⟨n, r, M', h1, hq _ _ h2⟩
theorem zq_act {pc' : Nat} {L' st' : List Value} {M' : zM} (h : zact id pc L st M = some (.inl (pc', L', st', M'))) : zQ id pc L st M Q ↔ zQ id pc' L' st' M' Q := by
  constructor
  · rintro ⟨n, r, M1, h1, h2⟩
    cases n with
    | zero => cases h1
    | succ n => simp only [zx, h] at h1; exact ⟨n, r, M1, h1, h2⟩
  · rintro ⟨n, r, M1, h1, h2⟩
    exact ⟨n + 1, r, M1, by simp only [zx, h]; exact h1, h2⟩
theorem zq_none (h : zact id pc L st M = none) : zQ id pc L st M Q ↔ False := by
  constructor
  · rintro ⟨n, r, M1, h1, h2⟩
    cases n with
    | zero => cases h1
    | succ n => simp only [zx, h] at h1; cases h1
  · exact False.elim
theorem zq_ret0 {r : zR} (h : zact id pc L st M = some (.inr (.inl r))) : zQ id pc L st M Q ↔ Q r M := by
  constructor
  · rintro ⟨n, r, M1, h1, h2⟩
    cases n with
    | zero => cases h1
    | succ n => simp only [zx, h] at h1; cases h1; exact h2
  · intro h2
    exact ⟨1, r, M, by simp only [zx, h], h2⟩
theorem zq_call0 {j : Nat} {E L' st' : List Value} (h : zact id pc L st M = some (.inr (.inr (j, E, L', st')))) : zQ id pc L st M Q ↔ zQ j 0 E [] M (fun r M1 => zQ id (pc + 3) L' (zpush r st') M1 Q) := by
  constructor
  · rintro ⟨n, r, M1, h1, h2⟩
    cases n with
    | zero => cases h1
    | succ n =>
      simp only [zx, h] at h1
      split at h1
      · cases h1
      · rename_i r1 M2 e
        exact ⟨n, r1, M2, e, n, r, M1, h1, h2⟩
  · rintro ⟨n, r1, M2, e, n2, r, M1, h1, h2⟩
    refine ⟨n + n2 + 1, r, M1, ?_, h2⟩
    simp only [zx, h, zx_mono n e n2]
    rw [Nat.add_comm]
    exact zx_mono n2 h1 n
theorem zact_of {i : Instr} (hc : zc id pc = some i) : zact id pc L st M = zins i id pc L st M := by unfold zact; rw [hc]
theorem zq_go {i : Instr} {pc' : Nat} {L' st' : List Value} {M' : zM} (hc : zc id pc = some i) (h : zins i id pc L st M = some (.inl (pc', L', st', M'))) : zQ id pc L st M Q ↔ zQ id pc' L' st' M' Q := zq_act ((zact_of hc).trans h)
theorem zq_ret {i : Instr} {r : zR} (hc : zc id pc = some i) (h : zins i id pc L st M = some (.inr (.inl r))) : zQ id pc L st M Q ↔ Q r M := zq_ret0 ((zact_of hc).trans h)
theorem zq_br {i : Instr} {c : Prop} [Decidable c] {off : Int} {r : List Value} {t n : Nat} (hc : zc id pc = some i) (h : zins i id pc L st M = zbr c pc off L r M) (h0 : (pc : Int) + off = (t : Int)) (hn : pc + 3 = n) : zQ id pc L st M Q ↔ (c → zQ id t L r M Q) ∧ (¬ c → zQ id n L r M Q) := by
  have e : zact id pc L st M = some (.inl (if c then t else n, L, r, M)) := by
    rw [zact_of hc, h]
    unfold zbr zgo ztgt
    rw [if_pos (by omega), h0, hn]
    rfl
  rw [zq_act e]
  by_cases hcc : c
  · rw [if_pos hcc]; exact ⟨fun h => ⟨fun _ => h, fun h2 => absurd hcc h2⟩, fun h => h.1 hcc⟩
  · rw [if_neg hcc]; exact ⟨fun h => ⟨fun h2 => absurd h2 hcc, fun _ => h⟩, fun h => h.2 hcc⟩
theorem zq_jmp {off : Int} {t : Nat} (hc : zc id pc = some (.goto off)) (h0 : (pc : Int) + off = (t : Int)) : zQ id pc L st M Q ↔ zQ id t L st M Q := by
  refine zq_go hc ?_
  show zjmp pc off L st M = _
  unfold zjmp zgo ztgt
  rw [if_pos (by omega), h0]
  rfl
theorem zq_if0 {i : Instr} {c : Prop} {pc' : Nat} {L' st' : List Value} {M' : zM} (hc : zc id pc = some i) (h : c → zins i id pc L st M = some (.inl (pc', L', st', M'))) (hn : ¬ c → zins i id pc L st M = none) : zQ id pc L st M Q ↔ c ∧ zQ id pc' L' st' M' Q := by
  by_cases hcc : c
  · rw [zq_go hc (h hcc)]; exact ⟨fun h => ⟨hcc, h⟩, fun h => h.2⟩
  · rw [zq_none ((zact_of hc).trans (hn hcc))]; exact ⟨False.elim, fun h => hcc h.1⟩
theorem zq_getf {n ci k : Nat} {b : Bool} {a : Nat} (hc : zc id pc = some (.getfield n)) (hf : zfl (zcl id) n = some (ci, k, b)) : zQ id pc L (.ref a :: st) M Q ↔ (a < zNC ∧ zk a = ci) ∧ zQ id (pc + 3) L (zfv a k M :: st) M Q :=
  zq_if0 hc (fun h => by simp only [zins, zgetf, hf, if_pos h]; rfl) (fun h => by simp only [zins, zgetf, hf, if_neg h])
theorem zq_putf {n ci k : Nat} {b : Bool} {a : Nat} {x : Int32} (hc : zc id pc = some (.putfield n)) (hf : zfl (zcl id) n = some (ci, k, b)) (h1 : ((zvT ci) k).2.2.2 = false ∧ zty ci k = .int) : zQ id pc L (.int x :: .ref a :: st) M Q ↔ (a < zNC ∧ zk a = ci ∧ zf a k = none) ∧ zQ id (pc + 3) L st (zup M a k x) Q :=
  zq_if0 hc (fun h => by simp only [zins, zputf, hf]; rw [if_pos ⟨h.1, h.2.1, h.2.2, h1.1, Or.inl h1.2⟩]; rfl) (fun h => by simp only [zins, zputf, hf]; rw [if_neg (fun h2 => h ⟨h2.1, h2.2.1, h2.2.2.1⟩)])
theorem zq_putz {n ci k : Nat} {b : Bool} {a : Nat} {x : Int32} (hc : zc id pc = some (.putfield n)) (hf : zfl (zcl id) n = some (ci, k, b)) (h1 : ((zvT ci) k).2.2.2 = false ∧ zty ci k = .boolean) : zQ id pc L (.int x :: .ref a :: st) M Q ↔ (a < zNC ∧ zk a = ci ∧ zf a k = none ∧ (x = 0 ∨ x = 1)) ∧ zQ id (pc + 3) L st (zup M a k x) Q :=
  zq_if0 hc (fun h => by simp only [zins, zputf, hf]; rw [if_pos ⟨h.1, h.2.1, h.2.2.1, h1.1, Or.inr ⟨h1.2, h.2.2.2⟩⟩]; rfl) (fun h => by
    simp only [zins, zputf, hf]
    rw [if_neg (fun h2 => h ⟨h2.1, h2.2.1, h2.2.2.1, h2.2.2.2.2.elim (fun h => by rw [h1.2] at h; cases h) (fun h => h.2)⟩)])
theorem zq_iald {a : Nat} {i : Int32} (hc : zc id pc = some .iaload) : zQ id pc L (.int i :: .ref a :: st) M Q ↔ (a < zNC ∧ zk a = 7 ∧ zin i (zn a) = true) ∧ zQ id (pc + 1) L (.int (M a i.toNatClampNeg) :: st) M Q :=
  zq_if0 hc (fun h => by simp only [zins, zald, if_pos h]; rfl) (fun h => by simp only [zins, zald, if_neg h])
theorem zq_bald {a : Nat} {i : Int32} (hc : zc id pc = some .baload) : zQ id pc L (.int i :: .ref a :: st) M Q ↔ (a < zNC ∧ zk a = 8 ∧ zin i (zn a) = true) ∧ zQ id (pc + 1) L (.int (M a i.toNatClampNeg) :: st) M Q :=
  zq_if0 hc (fun h => by simp only [zins, zald, if_pos h]; rfl) (fun h => by simp only [zins, zald, if_neg h])
theorem zq_iast {a : Nat} {i x : Int32} (hc : zc id pc = some .iastore) : zQ id pc L (.int x :: .int i :: .ref a :: st) M Q ↔ (a < zNC ∧ zk a = 7 ∧ zin i (zn a) = true) ∧ zQ id (pc + 1) L st (zup M a i.toNatClampNeg x) Q :=
  zq_if0 hc (fun h => by simp only [zins, zast, if_pos h]; rfl) (fun h => by simp only [zins, zast, if_neg h])
theorem zq_bast {a : Nat} {i x : Int32} (hc : zc id pc = some .bastore) : zQ id pc L (.int x :: .int i :: .ref a :: st) M Q ↔ (a < zNC ∧ zk a = 8 ∧ zin i (zn a) = true) ∧ zQ id (pc + 1) L st (zup M a i.toNatClampNeg (vp_nar .boolean x)) Q :=
  zq_if0 hc (fun h => by simp only [zins, zast, if_pos h]; rfl) (fun h => by simp only [zins, zast, if_neg h])
theorem zq_aald {k : Nat} (hk : k < 4) (hc : zc id pc = some .aaload) : zQ id pc L (.int (nI k) :: .ref 33 :: st) M Q ↔ zQ id (pc + 1) L (.ref (34 + 2 * k) :: st) M Q := by
  match k, hk with
  | 0, _ => exact zq_go hc rfl
  | 1, _ => exact zq_go hc rfl
  | 2, _ => exact zq_go hc rfl
  | 3, _ => exact zq_go hc rfl
theorem zq_div {x y : Int32} (hc : zc id pc = some .idiv) : zQ id pc L (.int y :: .int x :: st) M Q ↔ ¬ y = 0 ∧ zQ id (pc + 1) L (.int (x / y) :: st) M Q :=
  zq_if0 hc (fun h => by simp only [zins, zD2, if_neg h]; rfl) (fun h => by simp only [zins, zD2]; rw [if_pos (Decidable.not_not.mp h)])
theorem zq_rem {x y : Int32} (hc : zc id pc = some .irem) : zQ id pc L (.int y :: .int x :: st) M Q ↔ ¬ y = 0 ∧ zQ id (pc + 1) L (.int (x - x / y * y) :: st) M Q :=
  zq_if0 hc (fun h => by simp only [zins, zD2, if_neg h]; rfl) (fun h => by simp only [zins, zD2]; rw [if_pos (Decidable.not_not.mp h)])
theorem zq_ldiv {x y : Int64} (hc : zc id pc = some .ldiv) : zQ id pc L (.long y :: .long x :: st) M Q ↔ ¬ y = 0 ∧ zQ id (pc + 1) L (.long (x / y) :: st) M Q :=
  zq_if0 hc (fun h => by simp only [zins, zE2, if_neg h]; rfl) (fun h => by simp only [zins, zE2]; rw [if_pos (Decidable.not_not.mp h)])
theorem zq_lrem {x y : Int64} (hc : zc id pc = some .lrem) : zQ id pc L (.long y :: .long x :: st) M Q ↔ ¬ y = 0 ∧ zQ id (pc + 1) L (.long (x - x / y * y) :: st) M Q :=
  zq_if0 hc (fun h => by simp only [zins, zE2, if_neg h]; rfl) (fun h => by simp only [zins, zE2]; rw [if_pos (Decidable.not_not.mp h)])
def ztabo (d lo hi : Int) (offs : Array Int) (x : Int) : Int := if x < lo ∨ hi < x then d else offs.getD (x - lo).toNat d
theorem zq_tab {d lo hi : Int} {offs : Array Int} {x : Int32} (hc : zc id pc = some (.tableswitch d lo hi offs)) (hs : (offs.size : Int) = hi - lo + 1) (h0 : 0 ≤ (pc : Int) + d ∧ offs.toList.all (fun o => decide (0 ≤ (pc : Int) + o)) = true) : zQ id pc L (.int x :: st) M Q ↔ zQ id (ztgt pc (ztabo d lo hi offs x.toInt)) L st M Q := by
  refine zq_go hc ?_
  simp only [zins, ztab, ztabo]
  split
  · simp only [zjmp, if_pos h0.1]; rfl
  · rename_i h
    have hlt : (x.toInt - lo).toNat < offs.size := by omega
    have e : offs[(x.toInt - lo).toNat]? = some offs[(x.toInt - lo).toNat] := Array.getElem?_eq_getElem hlt
    rw [e]
    have e2 : offs.getD (x.toInt - lo).toNat d = offs[(x.toInt - lo).toNat] := by simp [Array.getD, hlt]
    rw [e2]
    have h3 := of_decide_eq_true (List.all_eq_true.mp h0.2 offs[(x.toInt - lo).toNat] (by simp))
    simp only [zjmp, if_pos h3]; rfl
theorem zq_look {d : Int} {ps : Array (Int × Int)} {x : Int32} (hc : zc id pc = some (.lookupswitch d ps)) (hs : (ps.toList.zip (ps.toList.drop 1)).all (fun (a, next) => a.1 < next.1) = true) (h0 : 0 ≤ (pc : Int) + Op.lookupswitch.offset ps.toList d x.toInt) : zQ id pc L (.int x :: st) M Q ↔ zQ id (ztgt pc (Op.lookupswitch.offset ps.toList d x.toInt)) L st M Q := by
  refine zq_go hc ?_
  simp only [zins, zlook]
  rw [if_pos hs]
  simp only [zjmp, if_pos h0]; rfl
theorem zq_max {n : Nat} {b : Bool} {x y : Int32} (hc : zc id pc = some (.invokestatic n)) (hm : zml (zcl id) n = some (1000, b)) : zQ id pc L (.int y :: .int x :: st) M Q ↔ (1 ≤ zfr id ∧ zcs st + 13 ≤ zlo id) ∧ zQ id (pc + 3) L (.int (if x < y then y else x) :: st) M Q :=
  zq_if0 hc (fun h => by simp only [zins, zinvS, hm, if_true, zmax, if_pos h]; rfl) (fun h => by simp only [zins, zinvS, hm, if_true, zmax, if_neg h])
theorem zq_callV {n j : Nat} {b : Bool} {a : Nat} {As rest E : List Value} (hc : zc id pc = some (.invokevirtual n)) (hm : zml (zcl id) n = some (j, b)) (hs : j < zNM ∧ zst j = false ∧ As.length = zpn j ∧ zfr j + 1 ≤ zfr id ∧ 8 + (znl j + 11) + zlo j ≤ zlo id ∧ (zexp (.ref a :: As)).length ≤ znl j) (hE : zent (znl j) (.ref a :: As) = E) :
    zQ id pc L (As.reverse ++ .ref a :: rest) M Q ↔ (zcs rest ≤ 8 ∧ a < zNC ∧ zk a = zcl j) ∧ zQ j 0 E [] M (fun r M1 => zQ id (pc + 3) L (zpush r rest) M1 Q) := by
  obtain ⟨h1, h2, h3, h4, h5, h6⟩ := hs
  have e1 : (As.reverse ++ .ref a :: rest).take (zpn j + 1) = As.reverse ++ [.ref a] := by
    rw [List.append_cons, List.take_left' (by simp; omega)]
  have e2 : (As.reverse ++ .ref a :: rest).drop (zpn j + 1) = rest := by
    rw [List.append_cons, List.drop_left' (by simp; omega)]
  have e3 : ((As.reverse ++ .ref a :: rest).take (zpn j + 1)).reverse = .ref a :: As := by rw [e1]; simp
  have hz : zact id pc L (As.reverse ++ .ref a :: rest) M = zcall false id j (zpn j + 1) L (As.reverse ++ .ref a :: rest) := by
    rw [zact_of hc]
    simp only [zins, zinvV, hm]
  by_cases hg : zcs rest ≤ 8 ∧ a < zNC ∧ zk a = zcl j
  · rw [zq_call0 (hz.trans (by
      unfold zcall
      rw [if_pos ⟨h1, h2, by simp; omega, by rw [e2]; exact hg.1, h4, h5, by rw [e3]; exact h6, Or.inr (by rw [e3]; simp only [zrcv]; exact decide_eq_true hg.2)⟩]))]
    rw [e2, e3, hE]
    exact ⟨fun h => ⟨hg, h⟩, fun h => h.2⟩
  · rw [zq_none (hz.trans (by
      unfold zcall
      rw [if_neg]
      intro h
      refine hg ⟨?_, ?_⟩
      · have := h.2.2.2.1; rw [e2] at this; exact this
      · rcases h.2.2.2.2.2.2.2 with h | h
        · cases h
        · rw [e3] at h; simp only [zrcv] at h; exact of_decide_eq_true h))]
    exact ⟨False.elim, fun h => hg h.1⟩
theorem zq_callS {n j : Nat} {b : Bool} {As rest E : List Value} (hc : zc id pc = some (.invokestatic n)) (hm : zml (zcl id) n = some (j, b)) (hs : j < zNM ∧ zst j = true ∧ As.length = zpn j ∧ zfr j + 1 ≤ zfr id ∧ 8 + (znl j + 11) + zlo j ≤ zlo id ∧ (zexp As).length ≤ znl j) (hE : zent (znl j) As = E) :
    zQ id pc L (As.reverse ++ rest) M Q ↔ zcs rest ≤ 8 ∧ zQ j 0 E [] M (fun r M1 => zQ id (pc + 3) L (zpush r rest) M1 Q) := by
  obtain ⟨h1, h2, h3, h4, h5, h6⟩ := hs
  have e1 : (As.reverse ++ rest).take (zpn j) = As.reverse := List.take_left' (by simp; omega)
  have e2 : (As.reverse ++ rest).drop (zpn j) = rest := List.drop_left' (by simp; omega)
  have e3 : ((As.reverse ++ rest).take (zpn j)).reverse = As := by rw [e1]; simp
  have hz : zact id pc L (As.reverse ++ rest) M = zcall true id j (zpn j) L (As.reverse ++ rest) := by
    rw [zact_of hc]
    simp only [zins, zinvS, hm]
    rw [if_neg (by unfold zNM at h1; omega), if_neg (by unfold zNM at h1; omega)]
  by_cases hg : zcs rest ≤ 8
  · rw [zq_call0 (hz.trans (by
      unfold zcall
      rw [if_pos ⟨h1, h2, by simp; omega, by rw [e2]; exact hg, h4, h5, by rw [e3]; exact h6, Or.inl rfl⟩]))]
    rw [e2, e3, hE]
    exact ⟨fun h => ⟨hg, h⟩, fun h => h.2⟩
  · rw [zq_none (hz.trans (by
      unfold zcall
      rw [if_neg]
      intro h
      have := h.2.2.2.1; rw [e2] at this; exact hg this))]
    exact ⟨False.elim, fun h => hg h.1⟩
end ZR
theorem zcs_0 : zcs [] = 0 := rfl
theorem zcs_i (x : Int32) (r : List Value) : zcs (.int x :: r) = 1 + zcs r := by simp [zcs]; rfl
theorem zcs_r (x : Nat) (r : List Value) : zcs (.ref x :: r) = 1 + zcs r := by simp [zcs]; rfl
theorem zcs_l (x : Int64) (r : List Value) : zcs (.long x :: r) = 2 + zcs r := by simp [zcs]; rfl
theorem zpush_0 (st : List Value) : zpush none st = st := rfl
theorem zpush_i (x : Int32) (st : List Value) : zpush (some (.inl x)) st = .int x :: st := rfl
theorem zpush_l (x : Int64) (st : List Value) : zpush (some (.inr x)) st = .long x :: st := rfl
theorem zup_app (M : zM) (c j : Nat) (x : Int32) (a b : Nat) : zup M c j x a b = if a = c then (if b = j then x else M c b) else M a b := by
  unfold zup zrow upd
  split <;> rfl
