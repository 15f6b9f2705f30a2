-- THE FIXED WORLD: cells 0..64; cell 0 the class's object, 42 the reference's; M c j: what cell c holds at place j
abbrev zNC : Nat := 65
def zkL : List Nat := [5, 4, 7, 7, 7, 7, 7, 7, 8, 4, 7, 7, 7, 7, 7, 7, 8, 4, 7, 7, 7, 7, 7, 7, 8, 3, 7, 1, 7, 0, 7, 7, 7, 9, 2, 7, 2, 7, 2, 7, 2, 7, 6, 7, 7, 7, 7, 7, 7, 7, 7, 7, 7, 7, 7, 7, 7, 7, 7, 7, 7, 7, 7, 7, 7]
def znL : List Nat := [8, 9, 6, 6, 6, 6, 6, 6, 6, 9, 6, 6, 6, 6, 6, 6, 6, 9, 6, 6, 6, 6, 6, 6, 6, 3, 6, 1, 64, 4, 8, 8, 8, 4, 4, 60, 4, 60, 4, 60, 4, 60, 32, 6, 6, 6, 6, 6, 6, 6, 6, 6, 6, 6, 6, 6, 6, 6, 8, 8, 8, 4, 4, 240, 60]
def zfT (t : Nat) : List (Option Nat) := [some (t + 1), some (t + 2), some (t + 3), some (t + 4), some (t + 5), some (t + 6), some (t + 7), none, none]
def zf5 : List (Option Nat) := [some 1, some 9, some 25, some 27, some 29, some 33, none, none]
def zf6 : List (Option Nat) := [none, none, none, some 43, some 44, some 45, some 46, some 47, some 48, none, none, none, some 49, some 50, some 51, some 52, some 53, some 54, none, none, some 55, some 56, some 57, none, some 58, some 59, some 60, some 61, some 62, some 63, some 64, none]
def zfL (c : Nat) : List (Option Nat) :=
  if c = 0 then zf5 else if c = 1 ∨ c = 9 ∨ c = 17 then zfT c else if c = 25 then [some 17, some 26, none] else if c = 27 then [some 28]
  else if c = 29 then [some 30, some 31, some 32, none] else if c = 33 then [some 34, some 36, some 38, some 40]
  else if c = 34 ∨ c = 36 ∨ c = 38 ∨ c = 40 then [some (c + 1), none, none, none] else if c = 42 then zf6 else []
def zk (c : Nat) : Nat := zkL.getD c 10
def zn (c : Nat) : Nat := znL.getD c 0
def zf (c k : Nat) : Option Nat := (zfL c).getD k none
abbrev zM : Type := Nat → Nat → Int32
abbrev zR : Type := Option (Int32 ⊕ Int64)
abbrev zI (x : Int32) : zR := some (.inl x)
abbrev zJ (x : Int64) : zR := some (.inr x)
def zrow (M : zM) (c : Nat) (f : Nat → Int32) : zM := fun a => if a = c then f else M a
def zup (M : zM) (c j : Nat) (x : Int32) : zM := zrow M c (upd (M c) j x)
abbrev zAct : Type := (Nat × List Value × List Value × zM) ⊕ (zR ⊕ (Nat × List Value × List Value × List Value))
def zgo (pc : Nat) (L st : List Value) (M : zM) : Option zAct := some (.inl (pc, L, st, M))
def ztgt (pc : Nat) (off : Int) : Nat := ((pc : Int) + off).toNat
def zjmp (pc : Nat) (off : Int) (L st : List Value) (M : zM) : Option zAct := if 0 ≤ (pc : Int) + off then zgo (ztgt pc off) L st M else none
def zbr (c : Prop) [Decidable c] (pc : Nat) (off : Int) (L st : List Value) (M : zM) : Option zAct := if 0 ≤ (pc : Int) + off then zgo (if c then ztgt pc off else pc + 3) L st M else none
def zldI (k pc : Nat) (L st : List Value) (M : zM) : Option zAct := match L[k]? with | some (.int x) => zgo pc L (.int x :: st) M | _ => none
def zldL (k pc : Nat) (L st : List Value) (M : zM) : Option zAct := match L[k]? with | some (.long x) => zgo pc L (.long x :: st) M | _ => none
def zldA (k pc : Nat) (L st : List Value) (M : zM) : Option zAct := match L[k]? with | some (.ref x) => zgo pc L (.ref x :: st) M | _ => none
def zpre (L : List Value) : Nat → Bool
  | 0 => true
  | j + 1 => match L[j]? with | some v => v.category != 2 | none => true
def zstI (k pc : Nat) (L st : List Value) (M : zM) : Option zAct := match st with | .int x :: r => if k < L.length ∧ zpre L k = true then zgo pc (L.set k (.int x)) r M else none | _ => none
def zstA (k pc : Nat) (L st : List Value) (M : zM) : Option zAct := match st with | .ref x :: r => if k < L.length ∧ zpre L k = true then zgo pc (L.set k (.ref x)) r M else none | _ => none
def zstJ (k pc : Nat) (L st : List Value) (M : zM) : Option zAct := match st with | .long x :: r => if k + 1 < L.length ∧ zpre L k = true then zgo pc ((L.set k (.long x)).set (k + 1) .null) r M else none | _ => none
def zinc (k : Nat) (n : Int) (pc : Nat) (L st : List Value) (M : zM) : Option zAct := match L[k]? with | some (.int x) => if zpre L k = true then zgo (pc + 3) (L.set k (.int (x + Int32.ofInt n))) st M else none | _ => none
def zI2 (f : Int32 → Int32 → Int32) (pc : Nat) (L st : List Value) (M : zM) : Option zAct := match st with | .int y :: .int x :: r => zgo (pc + 1) L (.int (f x y) :: r) M | _ => none
def zD2 (f : Int32 → Int32 → Int32) (pc : Nat) (L st : List Value) (M : zM) : Option zAct := match st with | .int y :: .int x :: r => if y = 0 then none else zgo (pc + 1) L (.int (f x y) :: r) M | _ => none
def zJ2 (f : Int64 → Int64 → Int64) (pc : Nat) (L st : List Value) (M : zM) : Option zAct := match st with | .long y :: .long x :: r => zgo (pc + 1) L (.long (f x y) :: r) M | _ => none
def zE2 (f : Int64 → Int64 → Int64) (pc : Nat) (L st : List Value) (M : zM) : Option zAct := match st with | .long y :: .long x :: r => if y = 0 then none else zgo (pc + 1) L (.long (f x y) :: r) M | _ => none
def zI1 (f : Int32 → Int32) (pc : Nat) (L st : List Value) (M : zM) : Option zAct := match st with | .int x :: r => zgo (pc + 1) L (.int (f x) :: r) M | _ => none
def zi2l (pc : Nat) (L st : List Value) (M : zM) : Option zAct := match st with | .int x :: r => zgo (pc + 1) L (.long x.toInt64 :: r) M | _ => none
def zlcmp (pc : Nat) (L st : List Value) (M : zM) : Option zAct := match st with | .long y :: .long x :: r => zgo (pc + 1) L (.int (lg_cmp x y) :: r) M | _ => none
def zif1 (c : Jvm.ClassFile.Cond) (pc : Nat) (off : Int) (L st : List Value) (M : zM) : Option zAct := match st with
  | .int x :: r => (match c with | .eq => zbr (x = 0) pc off L r M | .ne => zbr (x ≠ 0) pc off L r M | .lt => zbr (x < 0) pc off L r M | .ge => zbr (0 ≤ x) pc off L r M | .gt => zbr (0 < x) pc off L r M | .le => zbr (x ≤ 0) pc off L r M)
  | _ => none
def zif2 (c : Jvm.ClassFile.Cond) (pc : Nat) (off : Int) (L st : List Value) (M : zM) : Option zAct := match st with
  | .int y :: .int x :: r => (match c with | .eq => zbr (x = y) pc off L r M | .ne => zbr (x ≠ y) pc off L r M | .lt => zbr (x < y) pc off L r M | .ge => zbr (y ≤ x) pc off L r M | .gt => zbr (y < x) pc off L r M | .le => zbr (x ≤ y) pc off L r M)
  | _ => none
def zdup (pc : Nat) (L st : List Value) (M : zM) : Option zAct := match st with | v :: r => if v.category = 1 then zgo (pc + 1) L (v :: v :: r) M else none | _ => none
def zdup2 (pc : Nat) (L st : List Value) (M : zM) : Option zAct := match st with | v :: w :: r => if v.category = 1 ∧ w.category = 1 then zgo (pc + 1) L (v :: w :: v :: w :: r) M else none | _ => none
def ztab (d lo hi : Int) (offs : Array Int) (pc : Nat) (L st : List Value) (M : zM) : Option zAct := match st with
  | .int x :: r => if x.toInt < lo ∨ hi < x.toInt then zjmp pc d L r M else (match offs[(x.toInt - lo).toNat]? with | some off => zjmp pc off L r M | none => none)
  | _ => none
def zlook (d : Int) (ps : Array (Int × Int)) (pc : Nat) (L st : List Value) (M : zM) : Option zAct := match st with
  | .int x :: r => if (ps.toList.zip (ps.toList.drop 1)).all (fun (a, next) => a.1 < next.1) = true then zjmp pc (Op.lookupswitch.offset ps.toList d x.toInt) L r M else none
  | _ => none
def zfv (a k : Nat) (M : zM) : Value := match zf a k with | some b => .ref b | none => .int (M a k)
def zgetf (id i pc : Nat) (L st : List Value) (M : zM) : Option zAct := match st with
  | .ref a :: r => (match zfl (zcl id) i with | some (ci, k, _) => if a < zNC ∧ zk a = ci then zgo (pc + 3) L (zfv a k M :: r) M else none | none => none)
  | _ => none
def zfit (ty : FieldType) (x : Int32) : Prop := ty = .int ∨ (ty = .boolean ∧ (x = 0 ∨ x = 1))
def zputf (id i pc : Nat) (L st : List Value) (M : zM) : Option zAct := match st with
  | .int x :: .ref a :: r => (match zfl (zcl id) i with
    | some (ci, k, _) => if a < zNC ∧ zk a = ci ∧ zf a k = none ∧ ((zvT ci) k).2.2.2 = false ∧ (zty ci k = .int ∨ (zty ci k = .boolean ∧ (x = 0 ∨ x = 1))) then zgo (pc + 3) L r (zup M a k x) else none
    | none => none)
  | _ => none
def zin (i : Int32) (n : Nat) : Bool := !(decide (i < 0) || decide (n ≤ i.toNatClampNeg))
def zald (kd pc : Nat) (L st : List Value) (M : zM) : Option zAct := match st with
  | .int i :: .ref a :: r => if a < zNC ∧ zk a = kd ∧ zin i (zn a) = true then zgo (pc + 1) L (.int (M a i.toNatClampNeg) :: r) M else none
  | _ => none
def zast (kd pc : Nat) (ty : FieldType) (L st : List Value) (M : zM) : Option zAct := match st with
  | .int x :: .int i :: .ref a :: r => if a < zNC ∧ zk a = kd ∧ zin i (zn a) = true then zgo (pc + 1) L r (zup M a i.toNatClampNeg (vp_nar ty x)) else none
  | _ => none
def zaldq (pc : Nat) (L st : List Value) (M : zM) : Option zAct := match st with
  | .int i :: .ref a :: r => if a < zNC ∧ zk a = 9 ∧ zin i (zn a) = true then (match zf a i.toNatClampNeg with | some b => zgo (pc + 1) L (.ref b :: r) M | none => none) else none
  | _ => none
def zcs (r : List Value) : Nat := (r.map fun v => v.category).sum
def zexp (vs : List Value) : List Value := vs.flatMap fun v => if v.category = 2 then [v, .null] else [v]
def zent (n : Nat) (vs : List Value) : List Value := zexp vs ++ List.replicate (n - (zexp vs).length) .null
def zmax (id pc : Nat) (L st : List Value) (M : zM) : Option zAct := match st with
  | .int y :: .int x :: r => if 1 ≤ zfr id ∧ zcs r + 13 ≤ zlo id then zgo (pc + 3) L (.int (if x < y then y else x) :: r) M else none
  | _ => none
def zcpy (id pc : Nat) (L st : List Value) (M : zM) : Option zAct := match st with
  | .int n :: .int dp :: .ref b :: .int sp :: .ref a :: r => if (a < zNC ∧ zk a = 7 ∧ b < zNC ∧ zk b = 7) ∧ (¬ sp < 0 ∧ ¬ dp < 0 ∧ ¬ n < 0 ∧ sp.toNatClampNeg + n.toNatClampNeg ≤ zn a ∧ dp.toNatClampNeg + n.toNatClampNeg ≤ zn b) ∧ 1 ≤ zfr id ∧ zcs r + (nativeFrameWords "java/lang/System" "arraycopy" 5 + 11) ≤ zlo id
      then zgo (pc + 3) L r (zrow M b (va_cpy (M a) (M b) sp.toNatClampNeg dp.toNatClampNeg n.toNatClampNeg)) else none
  | _ => none
def zrcv (vs : List Value) (ci : Nat) : Bool := match vs with | .ref a :: _ => decide (a < zNC ∧ zk a = ci) | _ => false
def zcall (sta : Bool) (id j t : Nat) (L st : List Value) : Option zAct :=
  if j < zNM ∧ zst j = sta ∧ t ≤ st.length ∧ zcs (st.drop t) ≤ 8 ∧ zfr j + 1 ≤ zfr id ∧ 8 + (znl j + 11) + zlo j ≤ zlo id ∧ (zexp (st.take t).reverse).length ≤ znl j ∧ (sta = true ∨ zrcv (st.take t).reverse (zcl j) = true)
  then some (.inr (.inr (j, zent (znl j) (st.take t).reverse, L, st.drop t))) else none
def zinvS (id i pc : Nat) (L st : List Value) (M : zM) : Option zAct := match zml (zcl id) i with
  | some (j, _) => if j = 1000 then zmax id pc L st M else if j = 1001 then zcpy id pc L st M else zcall true id j (zpn j) L st
  | none => none
def zinvV (id i : Nat) (L st : List Value) : Option zAct := match zml (zcl id) i with
  | some (j, _) => zcall false id j (zpn j + 1) L st
  | none => none
def ziret (id : Nat) (st : List Value) : Option zAct := match st with
  | [.int v] => if zret id = some .int ∨ (zret id = some .boolean ∧ (v = 0 ∨ v = 1)) then some (.inr (.inl (zI v))) else none
  | _ => none
def zlret (id : Nat) (st : List Value) : Option zAct := match st with
  | [.long v] => if zret id = some .long then some (.inr (.inl (zJ v))) else none
  | _ => none
def zvret (id : Nat) (st : List Value) : Option zAct := match st with
  | [] => if zret id = none then some (.inr (.inl none)) else none
  | _ => none
def zins (i : Instr) (id pc : Nat) (L st : List Value) (M : zM) : Option zAct := match i with
  | .iadd => zI2 (fun x y => x + y) pc L st M
  | .isub => zI2 (fun x y => x - y) pc L st M
  | .imul => zI2 (fun x y => x * y) pc L st M
  | .iand => zI2 (fun x y => x &&& y) pc L st M
  | .ior => zI2 (fun x y => x ||| y) pc L st M
  | .ixor => zI2 (fun x y => x ^^^ y) pc L st M
  | .ishl => zI2 (fun x y => x <<< (y &&& 31)) pc L st M
  | .ishr => zI2 (fun x y => x >>> (y &&& 31)) pc L st M
  | .iushr => zI2 (fun x y => (x.toUInt32 >>> (y.toUInt32 &&& Int32.toUInt32 31)).toInt32) pc L st M
  | .idiv => zD2 (fun x y => x / y) pc L st M
  | .irem => zD2 (fun x y => x - x / y * y) pc L st M
  | .ladd => zJ2 (fun x y => x + y) pc L st M
  | .lsub => zJ2 (fun x y => x - y) pc L st M
  | .lmul => zJ2 (fun x y => x * y) pc L st M
  | .ldiv => zE2 (fun x y => x / y) pc L st M
  | .lrem => zE2 (fun x y => x - x / y * y) pc L st M
  | .lcmp => zlcmp pc L st M
  | .i2l => zi2l pc L st M
  | .i2b => zI1 (fun x => x.toInt8.toInt32) pc L st M
  | .i2s => zI1 (fun x => x.toInt16.toInt32) pc L st M
  | .iconst n => zgo (pc + 1) L (.int (Int32.ofInt n) :: st) M
  | .bipush n => zgo (pc + 2) L (.int (Int8.ofInt n).toInt32 :: st) M
  | .sipush n => zgo (pc + 3) L (.int (Int16.ofInt n).toInt32 :: st) M
  | .lconst n => zgo (pc + 1) L (.long (Int64.ofNat (n : Nat)) :: st) M
  | .ldc_w k => (match zki (zcl id) k with | some v => zgo (pc + 3) L (.int v :: st) M | none => none)
  | .ldc2_w k => (match zkj (zcl id) k with | some v => zgo (pc + 3) L (.long v :: st) M | none => none)
  | .iload_n k => zldI (k : Nat) (pc + 1) L st M
  | .iload k => zldI k (pc + 2) L st M
  | .lload_n k => zldL (k : Nat) (pc + 1) L st M
  | .lload k => zldL k (pc + 2) L st M
  | .aload_n k => zldA (k : Nat) (pc + 1) L st M
  | .aload k => zldA k (pc + 2) L st M
  | .istore_n k => zstI (k : Nat) (pc + 1) L st M
  | .istore k => zstI k (pc + 2) L st M
  | .lstore_n k => zstJ (k : Nat) (pc + 1) L st M
  | .lstore k => zstJ k (pc + 2) L st M
  | .astore_n k => zstA (k : Nat) (pc + 1) L st M
  | .astore k => zstA k (pc + 2) L st M
  | .iinc k n => zinc k n pc L st M
  | .dup => zdup pc L st M
  | .dup2 => zdup2 pc L st M
  | .goto off => zjmp pc off L st M
  | .ifCond c off => zif1 c pc off L st M
  | .if_icmp c off => zif2 c pc off L st M
  | .tableswitch d lo hi offs => ztab d lo hi offs pc L st M
  | .lookupswitch d ps => zlook d ps pc L st M
  | .getfield k => zgetf id k pc L st M
  | .putfield k => zputf id k pc L st M
  | .iaload => zald 7 pc L st M
  | .baload => zald 8 pc L st M
  | .iastore => zast 7 pc .int L st M
  | .bastore => zast 8 pc .boolean L st M
  | .aaload => zaldq pc L st M
  | .invokestatic k => zinvS id k pc L st M
  | .invokevirtual k => zinvV id k L st
  | .ireturn => ziret id st
  | .lreturn => zlret id st
  | .return_ => zvret id st
  | _ => none
def zact (id pc : Nat) (L st : List Value) (M : zM) : Option zAct := match zc id pc with
  | none => none
  | some i => zins i id pc L st M
def zpush (r : zR) (st : List Value) : List Value := match r with | none => st | some (.inl x) => .int x :: st | some (.inr x) => .long x :: st
def zx : Nat → Nat → Nat → List Value → List Value → zM → Option (zR × zM)
  | 0, _, _, _, _, _ => none
  | n + 1, id, pc, L, st, M => match zact id pc L st M with
    | none => none
    | some (.inl (pc', L', st', M')) => zx n id pc' L' st' M'
    | some (.inr (.inl r)) => some (r, M)
    | some (.inr (.inr (j, E, L', st'))) => match zx n j 0 E [] M with
      | none => none
      | some (r, M1) => zx n id (pc + 3) L' (zpush r st') M1
