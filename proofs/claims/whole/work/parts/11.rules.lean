section ZR
variable {id pc : Nat} {L st : List Value} {M : zM} {Q : zR → zM → Prop}
theorem zq_bn {i : Instr} {c : Prop} [Decidable c] {off : Int} {r : List Value} {t n : Nat} (hc : zc id pc = some i) (h : zins i id pc L st M = zbr (¬ c) pc off L r M) (h0 : (pc : Int) + off = (t : Int)) (hn : pc + 3 = n) : zQ id pc L st M Q ↔ (c → zQ id n L r M Q) ∧ (¬ c → zQ id t L r M Q) := by
  rw [zq_br hc h h0 hn]
  exact ⟨fun h => ⟨fun hc => h.2 (fun hn => hn hc), h.1⟩, fun h => ⟨h.2, fun hn => h.1 (Decidable.not_not.mp hn)⟩⟩
theorem zq_con {n : Int} {v : Int32} {p2 : Nat} (hc : zc id pc = some (.iconst n)) (hv : Int32.ofInt n = v) (hp : pc + 1 = p2) : zQ id pc L st M Q ↔ zQ id p2 L (.int v :: st) M Q := by subst hv hp; exact zq_go hc rfl
theorem zq_bip {n : Int} {v : Int32} {p2 : Nat} (hc : zc id pc = some (.bipush n)) (hv : (Int8.ofInt n).toInt32 = v) (hp : pc + 2 = p2) : zQ id pc L st M Q ↔ zQ id p2 L (.int v :: st) M Q := by subst hv hp; exact zq_go hc rfl
theorem zq_sip {n : Int} {v : Int32} {p2 : Nat} (hc : zc id pc = some (.sipush n)) (hv : (Int16.ofInt n).toInt32 = v) (hp : pc + 3 = p2) : zQ id pc L st M Q ↔ zQ id p2 L (.int v :: st) M Q := by subst hv hp; exact zq_go hc rfl
theorem zq_lco {n : Fin 2} {v : Int64} {p2 : Nat} (hc : zc id pc = some (.lconst n)) (hv : Int64.ofNat (n : Nat) = v) (hp : pc + 1 = p2) : zQ id pc L st M Q ↔ zQ id p2 L (.long v :: st) M Q := by subst hv hp; exact zq_go hc rfl
theorem zq_ldw {n : Nat} {v : Int32} {p2 : Nat} (hc : zc id pc = some (.ldc_w n)) (hv : zki (zcl id) n = some v) (hp : pc + 3 = p2) : zQ id pc L st M Q ↔ zQ id p2 L (.int v :: st) M Q := by subst hp; exact zq_go hc (by simp only [zins, hv]; rfl)
theorem zq_ld2 {n : Nat} {v : Int64} {p2 : Nat} (hc : zc id pc = some (.ldc2_w n)) (hv : zkj (zcl id) n = some v) (hp : pc + 3 = p2) : zQ id pc L st M Q ↔ zQ id p2 L (.long v :: st) M Q := by subst hp; exact zq_go hc (by simp only [zins, hv]; rfl)
theorem zq_inc {k : Nat} {n : Int} {x v : Int32} {L' : List Value} {p2 : Nat} (hc : zc id pc = some (.iinc k n)) (hv : Int32.ofInt n = v) (hk : L[k]? = some (.int x)) (hp : zpre L k = true) (hL : L.set k (.int (x + v)) = L') (h2 : pc + 3 = p2) : zQ id pc L st M Q ↔ zQ id p2 L' st M Q := by
  subst hv hL h2
  refine zq_go hc ?_
  simp only [zins, zinc, hk]
  rw [if_pos hp]; rfl
theorem zq_stI {i : Instr} {k : Nat} {x : Int32} {L' : List Value} {p2 : Nat} (hc : zc id pc = some i) (hi : zins i id pc L (.int x :: st) M = zstI k p2 L (.int x :: st) M) (hk : k < L.length) (hp : zpre L k = true) (hL : L.set k (.int x) = L') : zQ id pc L (.int x :: st) M Q ↔ zQ id p2 L' st M Q := by
  subst hL
  refine zq_go hc ?_
  rw [hi]
  simp only [zstI]
  rw [if_pos ⟨hk, hp⟩]; rfl
theorem zq_stA {i : Instr} {k : Nat} {x : Nat} {L' : List Value} {p2 : Nat} (hc : zc id pc = some i) (hi : zins i id pc L (.ref x :: st) M = zstA k p2 L (.ref x :: st) M) (hk : k < L.length) (hp : zpre L k = true) (hL : L.set k (.ref x) = L') : zQ id pc L (.ref x :: st) M Q ↔ zQ id p2 L' st M Q := by
  subst hL
  refine zq_go hc ?_
  rw [hi]
  simp only [zstA]
  rw [if_pos ⟨hk, hp⟩]; rfl
theorem zq_stJ {i : Instr} {k : Nat} {x : Int64} {L' : List Value} {p2 : Nat} (hc : zc id pc = some i) (hi : zins i id pc L (.long x :: st) M = zstJ k p2 L (.long x :: st) M) (hk : k + 1 < L.length) (hp : zpre L k = true) (hL : (L.set k (.long x)).set (k + 1) .null = L') : zQ id pc L (.long x :: st) M Q ↔ zQ id p2 L' st M Q := by
  subst hL
  refine zq_go hc ?_
  rw [hi]
  simp only [zstJ]
  rw [if_pos ⟨hk, hp⟩]; rfl
theorem zq_cpy {m : Nat} {nb : Bool} {n dp sp : Int32} {a b : Nat} (hc : zc id pc = some (.invokestatic m)) (hm : zml (zcl id) m = some (1001, nb)) : zQ id pc L (.int n :: .int dp :: .ref b :: .int sp :: .ref a :: st) M Q ↔ ((a < zNC ∧ zk a = 7 ∧ b < zNC ∧ zk b = 7) ∧ (¬ sp < 0 ∧ ¬ dp < 0 ∧ ¬ n < 0 ∧ sp.toNatClampNeg + n.toNatClampNeg ≤ zn a ∧ dp.toNatClampNeg + n.toNatClampNeg ≤ zn b) ∧ 1 ≤ zfr id ∧ zcs st + (nativeFrameWords "java/lang/System" "arraycopy" 5 + 11) ≤ zlo id) ∧ zQ id (pc + 3) L st (zrow M b (va_cpy (M a) (M b) sp.toNatClampNeg dp.toNatClampNeg n.toNatClampNeg)) Q :=
  zq_if0 hc (fun h => by simp only [zins, zinvS, hm]; simp only [zcpy, if_pos h]; rfl) (fun h => by simp only [zins, zinvS, hm]; simp only [zcpy, if_neg h]; rfl)
end ZR
section ZR2
variable {id pc : Nat} {L : List Value} {M : zM} {Q : zR → zM → Prop}
theorem zq_reI {v : Int32} (hc : zc id pc = some .ireturn) (h : zret id = some .int) : zQ id pc L [.int v] M Q ↔ Q (zI v) M := zq_ret hc (by simp only [zins, ziret, if_pos (Or.inl h : zret id = some .int ∨ (zret id = some .boolean ∧ (v = 0 ∨ v = 1)))])
theorem zq_reJ {v : Int64} (hc : zc id pc = some .lreturn) (h : zret id = some .long) : zQ id pc L [.long v] M Q ↔ Q (zJ v) M := zq_ret hc (by simp only [zins, zlret, if_pos h])
theorem zq_reV (hc : zc id pc = some .return_) (h : zret id = none) : zQ id pc L [] M Q ↔ Q none M := zq_ret hc (by simp only [zins, zvret, if_pos h])
theorem zq_reZ {v : Int32} (hc : zc id pc = some .ireturn) (h : zret id = some .boolean) : zQ id pc L [.int v] M Q ↔ (v = 0 ∨ v = 1) ∧ Q (zI v) M := by
  by_cases hv : v = 0 ∨ v = 1
  · rw [zq_ret (r := zI v) hc (by simp only [zins, ziret, if_pos (Or.inr ⟨h, hv⟩ : zret id = some .int ∨ (zret id = some .boolean ∧ (v = 0 ∨ v = 1)))])]
    exact ⟨fun h => ⟨hv, h⟩, fun h => h.2⟩
  · rw [zq_none ((zact_of hc).trans (by
      simp only [zins, ziret]
      rw [if_neg (by rintro (h2 | h2); · rw [h] at h2; cases h2
                     · exact hv h2.2)]))]
    exact ⟨False.elim, fun h => hv h.1⟩
end ZR2
