section QI
variable {L st : List Value} {M : zM} {Q : zR → zM → Prop} {v0 v1 v2 v3 v4 v5 v6 v7 v8 v9 : Value} {x y : Int32} {xl yl : Int64} {a : Nat} {x1 x2 x3 x4 x5 : Int32} {r1 r2 : Nat} {l1 l2 l3 : Int64}
-- 0 SandKeepers$Readings.add(III)I
theorem q0_0 : zQ 0 0 [.ref a, v1, v2, v3] st M Q ↔ zQ 0 1 [.ref a, v1, v2, v3] (.ref a :: st) M Q := zq_go (i := .aload_n 0) (by decide +kernel) rfl
theorem q0_1 : zQ 0 1 L (.ref a :: st) M Q ↔ (a < zNC ∧ zk a = 0) ∧ zQ 0 4 L (zfv a 0 M :: st) M Q := zq_getf (n := 9) (b := false) (by decide +kernel) (by decide +kernel)
theorem q0_4 : zQ 0 4 [.ref a, v1, v2, v3] st M Q ↔ zQ 0 5 [.ref a, v1, v2, v3] (.ref a :: st) M Q := zq_go (i := .aload_n 0) (by decide +kernel) rfl
theorem q0_5 : zQ 0 5 L (.ref a :: st) M Q ↔ (a < zNC ∧ zk a = 0) ∧ zQ 0 8 L (zfv a 3 M :: st) M Q := zq_getf (n := 21) (b := false) (by decide +kernel) (by decide +kernel)
theorem q0_8 : zQ 0 8 [v0, .int x, v2, v3] st M Q ↔ zQ 0 9 [v0, .int x, v2, v3] (.int x :: st) M Q := zq_go (i := .iload_n 1) (by decide +kernel) rfl
theorem q0_9 : zQ 0 9 L (.int x :: .int y :: .ref a :: st) M Q ↔ (a < zNC ∧ zk a = 7 ∧ zin y (zn a) = true) ∧ zQ 0 10 L st (zup M a y.toNatClampNeg x) Q := zq_iast (by decide +kernel)
theorem q0_10 : zQ 0 10 [.ref a, v1, v2, v3] st M Q ↔ zQ 0 11 [.ref a, v1, v2, v3] (.ref a :: st) M Q := zq_go (i := .aload_n 0) (by decide +kernel) rfl
theorem q0_11 : zQ 0 11 L (.ref a :: st) M Q ↔ (a < zNC ∧ zk a = 0) ∧ zQ 0 14 L (zfv a 1 M :: st) M Q := zq_getf (n := 15) (b := false) (by decide +kernel) (by decide +kernel)
theorem q0_14 : zQ 0 14 [.ref a, v1, v2, v3] st M Q ↔ zQ 0 15 [.ref a, v1, v2, v3] (.ref a :: st) M Q := zq_go (i := .aload_n 0) (by decide +kernel) rfl
theorem q0_15 : zQ 0 15 L (.ref a :: st) M Q ↔ (a < zNC ∧ zk a = 0) ∧ zQ 0 18 L (zfv a 3 M :: st) M Q := zq_getf (n := 21) (b := false) (by decide +kernel) (by decide +kernel)
theorem q0_18 : zQ 0 18 [v0, v1, .int x, v3] st M Q ↔ zQ 0 19 [v0, v1, .int x, v3] (.int x :: st) M Q := zq_go (i := .iload_n 2) (by decide +kernel) rfl
theorem q0_19 : zQ 0 19 L (.int x :: .int y :: .ref a :: st) M Q ↔ (a < zNC ∧ zk a = 7 ∧ zin y (zn a) = true) ∧ zQ 0 20 L st (zup M a y.toNatClampNeg x) Q := zq_iast (by decide +kernel)
theorem q0_20 : zQ 0 20 [.ref a, v1, v2, v3] st M Q ↔ zQ 0 21 [.ref a, v1, v2, v3] (.ref a :: st) M Q := zq_go (i := .aload_n 0) (by decide +kernel) rfl
theorem q0_21 : zQ 0 21 L (.ref a :: st) M Q ↔ (a < zNC ∧ zk a = 0) ∧ zQ 0 24 L (zfv a 2 M :: st) M Q := zq_getf (n := 18) (b := false) (by decide +kernel) (by decide +kernel)
theorem q0_24 : zQ 0 24 [.ref a, v1, v2, v3] st M Q ↔ zQ 0 25 [.ref a, v1, v2, v3] (.ref a :: st) M Q := zq_go (i := .aload_n 0) (by decide +kernel) rfl
theorem q0_25 : zQ 0 25 L (.ref a :: st) M Q ↔ (a < zNC ∧ zk a = 0) ∧ zQ 0 28 L (zfv a 3 M :: st) M Q := zq_getf (n := 21) (b := false) (by decide +kernel) (by decide +kernel)
theorem q0_28 : zQ 0 28 [v0, v1, v2, .int x] st M Q ↔ zQ 0 29 [v0, v1, v2, .int x] (.int x :: st) M Q := zq_go (i := .iload_n 3) (by decide +kernel) rfl
theorem q0_29 : zQ 0 29 L (.int x :: .int y :: .ref a :: st) M Q ↔ (a < zNC ∧ zk a = 7 ∧ zin y (zn a) = true) ∧ zQ 0 30 L st (zup M a y.toNatClampNeg x) Q := zq_iast (by decide +kernel)
theorem q0_30 : zQ 0 30 [.ref a, v1, v2, v3] st M Q ↔ zQ 0 31 [.ref a, v1, v2, v3] (.ref a :: st) M Q := zq_go (i := .aload_n 0) (by decide +kernel) rfl
theorem q0_31 : zQ 0 31 L (.ref a :: st) M Q ↔ zQ 0 32 L (.ref a :: .ref a :: st) M Q := zq_go (i := .dup) (by decide +kernel) rfl
theorem q0_32 : zQ 0 32 L (.ref a :: st) M Q ↔ (a < zNC ∧ zk a = 0) ∧ zQ 0 35 L (zfv a 3 M :: st) M Q := zq_getf (n := 21) (b := false) (by decide +kernel) (by decide +kernel)
theorem q0_35 : zQ 0 35 L st M Q ↔ zQ 0 36 L (.int 1 :: st) M Q := zq_con (n := 1) (by decide +kernel) (by decide +kernel) rfl
theorem q0_36 : zQ 0 36 L (.int y :: .int x :: st) M Q ↔ zQ 0 37 L (.int (x + y) :: st) M Q := zq_go (i := .iadd) (by decide +kernel) rfl
theorem q0_37 : zQ 0 37 L (.int x :: .ref a :: st) M Q ↔ (a < zNC ∧ zk a = 0 ∧ zf a 3 = none) ∧ zQ 0 40 L st (zup M a 3 x) Q := zq_putf (n := 21) (b := false) (by decide +kernel) (by decide +kernel) (by decide +kernel)
theorem q0_40 : zQ 0 40 [.ref a, v1, v2, v3] st M Q ↔ zQ 0 41 [.ref a, v1, v2, v3] (.ref a :: st) M Q := zq_go (i := .aload_n 0) (by decide +kernel) rfl
theorem q0_41 : zQ 0 41 L (.ref a :: st) M Q ↔ (a < zNC ∧ zk a = 0) ∧ zQ 0 44 L (zfv a 3 M :: st) M Q := zq_getf (n := 21) (b := false) (by decide +kernel) (by decide +kernel)
theorem q0_44 : zQ 0 44 L st M Q ↔ zQ 0 45 L (.int 1 :: st) M Q := zq_con (n := 1) (by decide +kernel) (by decide +kernel) rfl
theorem q0_45 : zQ 0 45 L (.int y :: .int x :: st) M Q ↔ zQ 0 46 L (.int (x - y) :: st) M Q := zq_go (i := .isub) (by decide +kernel) rfl
theorem q0_46 : zQ 0 46 L [.int x] M Q ↔ Q (zI x) M := zq_reI (by decide +kernel) (by decide +kernel)
-- 1 SandKeepers$Readings.areSo(LSandKeepers$Town;)Z
theorem q1_0 : zQ 1 0 L st M Q ↔ zQ 1 1 L (.int 0 :: st) M Q := zq_con (n := 0) (by decide +kernel) (by decide +kernel) rfl
theorem q1_1i : zQ 1 1 [v0, .int y, v2] (.int x :: st) M Q ↔ zQ 1 2 [v0, .int y, .int x] st M Q := zq_stI (i := .istore_n 2) (k := 2) (by decide +kernel) rfl (Nat.le_of_ble_eq_true rfl) rfl rfl
theorem q1_1r : zQ 1 1 [v0, .ref r1, v2] (.int x :: st) M Q ↔ zQ 1 2 [v0, .ref r1, .int x] st M Q := zq_stI (i := .istore_n 2) (k := 2) (by decide +kernel) rfl (Nat.le_of_ble_eq_true rfl) rfl rfl
theorem q1_1n : zQ 1 1 [v0, .null, v2] (.int x :: st) M Q ↔ zQ 1 2 [v0, .null, .int x] st M Q := zq_stI (i := .istore_n 2) (k := 2) (by decide +kernel) rfl (Nat.le_of_ble_eq_true rfl) rfl rfl
theorem q1_2 : zQ 1 2 [v0, v1, .int x] st M Q ↔ zQ 1 3 [v0, v1, .int x] (.int x :: st) M Q := zq_go (i := .iload_n 2) (by decide +kernel) rfl
theorem q1_3 : zQ 1 3 [.ref a, v1, v2] st M Q ↔ zQ 1 4 [.ref a, v1, v2] (.ref a :: st) M Q := zq_go (i := .aload_n 0) (by decide +kernel) rfl
theorem q1_4 : zQ 1 4 L (.ref a :: st) M Q ↔ (a < zNC ∧ zk a = 0) ∧ zQ 1 7 L (zfv a 3 M :: st) M Q := zq_getf (n := 21) (b := false) (by decide +kernel) (by decide +kernel)
theorem q1_7 : zQ 1 7 L (.int y :: .int x :: st) M Q ↔ (y ≤ x → zQ 1 43 L st M Q) ∧ (¬ y ≤ x → zQ 1 10 L st M Q) := zq_br (i := .if_icmp .ge 36) (off := 36) (by decide +kernel) rfl (by decide) rfl
theorem q1_10 : zQ 1 10 [v0, .ref a, v2] st M Q ↔ zQ 1 11 [v0, .ref a, v2] (.ref a :: st) M Q := zq_go (i := .aload_n 1) (by decide +kernel) rfl
theorem q1_11 : zQ 1 11 [.ref a, v1, v2] st M Q ↔ zQ 1 12 [.ref a, v1, v2] (.ref a :: st) M Q := zq_go (i := .aload_n 0) (by decide +kernel) rfl
theorem q1_12 : zQ 1 12 L (.ref a :: st) M Q ↔ (a < zNC ∧ zk a = 0) ∧ zQ 1 15 L (zfv a 0 M :: st) M Q := zq_getf (n := 9) (b := false) (by decide +kernel) (by decide +kernel)
theorem q1_15 : zQ 1 15 [v0, v1, .int x] st M Q ↔ zQ 1 16 [v0, v1, .int x] (.int x :: st) M Q := zq_go (i := .iload_n 2) (by decide +kernel) rfl
theorem q1_16 : zQ 1 16 L (.int x :: .ref a :: st) M Q ↔ (a < zNC ∧ zk a = 7 ∧ zin x (zn a) = true) ∧ zQ 1 17 L (.int (M a x.toNatClampNeg) :: st) M Q := zq_iald (by decide +kernel)
theorem q1_17 : zQ 1 17 [.ref a, v1, v2] st M Q ↔ zQ 1 18 [.ref a, v1, v2] (.ref a :: st) M Q := zq_go (i := .aload_n 0) (by decide +kernel) rfl
theorem q1_18 : zQ 1 18 L (.ref a :: st) M Q ↔ (a < zNC ∧ zk a = 0) ∧ zQ 1 21 L (zfv a 1 M :: st) M Q := zq_getf (n := 15) (b := false) (by decide +kernel) (by decide +kernel)
theorem q1_21 : zQ 1 21 [v0, v1, .int x] st M Q ↔ zQ 1 22 [v0, v1, .int x] (.int x :: st) M Q := zq_go (i := .iload_n 2) (by decide +kernel) rfl
theorem q1_22 : zQ 1 22 L (.int x :: .ref a :: st) M Q ↔ (a < zNC ∧ zk a = 7 ∧ zin x (zn a) = true) ∧ zQ 1 23 L (.int (M a x.toNatClampNeg) :: st) M Q := zq_iald (by decide +kernel)
theorem q1_23 : zQ 1 23 L (.int x2 :: .int x1 :: .ref a :: st) M Q ↔ (zcs st ≤ 8 ∧ a < zNC ∧ zk a = 4) ∧ zQ 30 0 [.ref a, .int x1, .int x2] [] M (fun r M1 => zQ 1 26 L (zpush r st) M1 Q) := zq_callV (n := 25) (j := 30) (b := true) (As := [.int x1, .int x2]) (by decide +kernel) (by decide +kernel) ⟨by decide +kernel, by decide +kernel, rfl, by decide +kernel, by decide +kernel, Nat.le_of_ble_eq_true rfl⟩ rfl
theorem q1_26 : zQ 1 26 [.ref a, v1, v2] st M Q ↔ zQ 1 27 [.ref a, v1, v2] (.ref a :: st) M Q := zq_go (i := .aload_n 0) (by decide +kernel) rfl
theorem q1_27 : zQ 1 27 L (.ref a :: st) M Q ↔ (a < zNC ∧ zk a = 0) ∧ zQ 1 30 L (zfv a 2 M :: st) M Q := zq_getf (n := 18) (b := false) (by decide +kernel) (by decide +kernel)
theorem q1_30 : zQ 1 30 [v0, v1, .int x] st M Q ↔ zQ 1 31 [v0, v1, .int x] (.int x :: st) M Q := zq_go (i := .iload_n 2) (by decide +kernel) rfl
theorem q1_31 : zQ 1 31 L (.int x :: .ref a :: st) M Q ↔ (a < zNC ∧ zk a = 7 ∧ zin x (zn a) = true) ∧ zQ 1 32 L (.int (M a x.toNatClampNeg) :: st) M Q := zq_iald (by decide +kernel)
theorem q1_32 : zQ 1 32 L (.int y :: .int x :: st) M Q ↔ (x = y → zQ 1 37 L st M Q) ∧ (¬ x = y → zQ 1 35 L st M Q) := zq_br (i := .if_icmp .eq 5) (off := 5) (by decide +kernel) rfl (by decide) rfl
theorem q1_35 : zQ 1 35 L st M Q ↔ zQ 1 36 L (.int 0 :: st) M Q := zq_con (n := 0) (by decide +kernel) (by decide +kernel) rfl
theorem q1_36 : zQ 1 36 L [.int x] M Q ↔ (x = 0 ∨ x = 1) ∧ Q (zI x) M := zq_reZ (by decide +kernel) (by decide +kernel)
theorem q1_37i : zQ 1 37 [v0, .int y, .int x] st M Q ↔ zQ 1 40 [v0, .int y, .int (x + 1)] st M Q := zq_inc (k := 2) (n := 1) (x := x) (v := 1) (by decide +kernel) (by decide +kernel) rfl rfl rfl rfl
theorem q1_37r : zQ 1 37 [v0, .ref r1, .int x] st M Q ↔ zQ 1 40 [v0, .ref r1, .int (x + 1)] st M Q := zq_inc (k := 2) (n := 1) (x := x) (v := 1) (by decide +kernel) (by decide +kernel) rfl rfl rfl rfl
theorem q1_37n : zQ 1 37 [v0, .null, .int x] st M Q ↔ zQ 1 40 [v0, .null, .int (x + 1)] st M Q := zq_inc (k := 2) (n := 1) (x := x) (v := 1) (by decide +kernel) (by decide +kernel) rfl rfl rfl rfl
theorem q1_40 : zQ 1 40 L st M Q ↔ zQ 1 2 L st M Q := zq_jmp (off := (-38)) (by decide +kernel) (by decide)
theorem q1_43 : zQ 1 43 L st M Q ↔ zQ 1 44 L (.int 1 :: st) M Q := zq_con (n := 1) (by decide +kernel) (by decide +kernel) rfl
theorem q1_44 : zQ 1 44 L [.int x] M Q ↔ (x = 0 ∨ x = 1) ∧ Q (zI x) M := zq_reZ (by decide +kernel) (by decide +kernel)
-- 2 SandKeepers$Readings.setThatFits(LSandKeepers$Town;[III)I
theorem q2_0 : zQ 2 0 [v0, v1, .ref a, v3, v4, v5, v6, v7] st M Q ↔ zQ 2 1 [v0, v1, .ref a, v3, v4, v5, v6, v7] (.ref a :: st) M Q := zq_go (i := .aload_n 2) (by decide +kernel) rfl
theorem q2_1 : zQ 2 1 [v0, v1, v2, .int x, v4, v5, v6, v7] st M Q ↔ zQ 2 2 [v0, v1, v2, .int x, v4, v5, v6, v7] (.int x :: st) M Q := zq_go (i := .iload_n 3) (by decide +kernel) rfl
theorem q2_2 : zQ 2 2 L (.int x :: .ref a :: st) M Q ↔ (a < zNC ∧ zk a = 7 ∧ zin x (zn a) = true) ∧ zQ 2 3 L (.int (M a x.toNatClampNeg) :: st) M Q := zq_iald (by decide +kernel)
theorem q2_3i : zQ 2 3 [v0, v1, v2, v3, .int y, v5, v6, v7] (.int x :: st) M Q ↔ zQ 2 5 [v0, v1, v2, v3, .int y, .int x, v6, v7] st M Q := zq_stI (i := .istore 5) (k := 5) (by decide +kernel) rfl (Nat.le_of_ble_eq_true rfl) rfl rfl
theorem q2_3r : zQ 2 3 [v0, v1, v2, v3, .ref r1, v5, v6, v7] (.int x :: st) M Q ↔ zQ 2 5 [v0, v1, v2, v3, .ref r1, .int x, v6, v7] st M Q := zq_stI (i := .istore 5) (k := 5) (by decide +kernel) rfl (Nat.le_of_ble_eq_true rfl) rfl rfl
theorem q2_3n : zQ 2 3 [v0, v1, v2, v3, .null, v5, v6, v7] (.int x :: st) M Q ↔ zQ 2 5 [v0, v1, v2, v3, .null, .int x, v6, v7] st M Q := zq_stI (i := .istore 5) (k := 5) (by decide +kernel) rfl (Nat.le_of_ble_eq_true rfl) rfl rfl
theorem q2_5 : zQ 2 5 L st M Q ↔ zQ 2 6 L (.int 0 :: st) M Q := zq_con (n := 0) (by decide +kernel) (by decide +kernel) rfl
theorem q2_6i : zQ 2 6 [v0, v1, v2, v3, v4, .int y, v6, v7] (.int x :: st) M Q ↔ zQ 2 8 [v0, v1, v2, v3, v4, .int y, .int x, v7] st M Q := zq_stI (i := .istore 6) (k := 6) (by decide +kernel) rfl (Nat.le_of_ble_eq_true rfl) rfl rfl
theorem q2_6r : zQ 2 6 [v0, v1, v2, v3, v4, .ref r1, v6, v7] (.int x :: st) M Q ↔ zQ 2 8 [v0, v1, v2, v3, v4, .ref r1, .int x, v7] st M Q := zq_stI (i := .istore 6) (k := 6) (by decide +kernel) rfl (Nat.le_of_ble_eq_true rfl) rfl rfl
theorem q2_6n : zQ 2 6 [v0, v1, v2, v3, v4, .null, v6, v7] (.int x :: st) M Q ↔ zQ 2 8 [v0, v1, v2, v3, v4, .null, .int x, v7] st M Q := zq_stI (i := .istore 6) (k := 6) (by decide +kernel) rfl (Nat.le_of_ble_eq_true rfl) rfl rfl
theorem q2_8 : zQ 2 8 L st M Q ↔ zQ 2 9 L (.int 0 :: st) M Q := zq_con (n := 0) (by decide +kernel) (by decide +kernel) rfl
theorem q2_9i : zQ 2 9 [v0, v1, v2, v3, v4, v5, .int y, v7] (.int x :: st) M Q ↔ zQ 2 11 [v0, v1, v2, v3, v4, v5, .int y, .int x] st M Q := zq_stI (i := .istore 7) (k := 7) (by decide +kernel) rfl (Nat.le_of_ble_eq_true rfl) rfl rfl
theorem q2_9r : zQ 2 9 [v0, v1, v2, v3, v4, v5, .ref r1, v7] (.int x :: st) M Q ↔ zQ 2 11 [v0, v1, v2, v3, v4, v5, .ref r1, .int x] st M Q := zq_stI (i := .istore 7) (k := 7) (by decide +kernel) rfl (Nat.le_of_ble_eq_true rfl) rfl rfl
theorem q2_9n : zQ 2 9 [v0, v1, v2, v3, v4, v5, .null, v7] (.int x :: st) M Q ↔ zQ 2 11 [v0, v1, v2, v3, v4, v5, .null, .int x] st M Q := zq_stI (i := .istore 7) (k := 7) (by decide +kernel) rfl (Nat.le_of_ble_eq_true rfl) rfl rfl
theorem q2_11 : zQ 2 11 [v0, v1, v2, v3, v4, v5, v6, .int x] st M Q ↔ zQ 2 13 [v0, v1, v2, v3, v4, v5, v6, .int x] (.int x :: st) M Q := zq_go (i := .iload 7) (by decide +kernel) rfl
theorem q2_13 : zQ 2 13 [v0, v1, v2, v3, .int x, v5, v6, v7] st M Q ↔ zQ 2 15 [v0, v1, v2, v3, .int x, v5, v6, v7] (.int x :: st) M Q := zq_go (i := .iload 4) (by decide +kernel) rfl
theorem q2_15 : zQ 2 15 L (.int y :: .int x :: st) M Q ↔ (y ≤ x → zQ 2 46 L st M Q) ∧ (¬ y ≤ x → zQ 2 18 L st M Q) := zq_br (i := .if_icmp .ge 31) (off := 31) (by decide +kernel) rfl (by decide) rfl
theorem q2_18 : zQ 2 18 [v0, v1, .ref a, v3, v4, v5, v6, v7] st M Q ↔ zQ 2 19 [v0, v1, .ref a, v3, v4, v5, v6, v7] (.ref a :: st) M Q := zq_go (i := .aload_n 2) (by decide +kernel) rfl
theorem q2_19 : zQ 2 19 [v0, v1, v2, .int x, v4, v5, v6, v7] st M Q ↔ zQ 2 20 [v0, v1, v2, .int x, v4, v5, v6, v7] (.int x :: st) M Q := zq_go (i := .iload_n 3) (by decide +kernel) rfl
theorem q2_20 : zQ 2 20 [v0, v1, v2, v3, v4, v5, v6, .int x] st M Q ↔ zQ 2 22 [v0, v1, v2, v3, v4, v5, v6, .int x] (.int x :: st) M Q := zq_go (i := .iload 7) (by decide +kernel) rfl
theorem q2_22 : zQ 2 22 L (.int x :: .int y :: .ref a :: st) M Q ↔ (a < zNC ∧ zk a = 7 ∧ zin y (zn a) = true) ∧ zQ 2 23 L st (zup M a y.toNatClampNeg x) Q := zq_iast (by decide +kernel)
theorem q2_23 : zQ 2 23 [.ref a, v1, v2, v3, v4, v5, v6, v7] st M Q ↔ zQ 2 24 [.ref a, v1, v2, v3, v4, v5, v6, v7] (.ref a :: st) M Q := zq_go (i := .aload_n 0) (by decide +kernel) rfl
theorem q2_24 : zQ 2 24 [v0, .ref a, v2, v3, v4, v5, v6, v7] st M Q ↔ zQ 2 25 [v0, .ref a, v2, v3, v4, v5, v6, v7] (.ref a :: st) M Q := zq_go (i := .aload_n 1) (by decide +kernel) rfl
theorem q2_25 : zQ 2 25 L (.ref r1 :: .ref a :: st) M Q ↔ (zcs st ≤ 8 ∧ a < zNC ∧ zk a = 0) ∧ zQ 1 0 [.ref a, .ref r1, .null] [] M (fun r M1 => zQ 2 28 L (zpush r st) M1 Q) := zq_callV (n := 31) (j := 1) (b := false) (As := [.ref r1]) (by decide +kernel) (by decide +kernel) ⟨by decide +kernel, by decide +kernel, rfl, by decide +kernel, by decide +kernel, Nat.le_of_ble_eq_true rfl⟩ rfl
theorem q2_28 : zQ 2 28 L (.int x :: st) M Q ↔ (x = 0 → zQ 2 40 L st M Q) ∧ (¬ x = 0 → zQ 2 31 L st M Q) := zq_br (i := .ifCond .eq 12) (off := 12) (by decide +kernel) rfl (by decide) rfl
theorem q2_31 : zQ 2 31 [v0, v1, v2, v3, v4, v5, .int x, v7] st M Q ↔ zQ 2 33 [v0, v1, v2, v3, v4, v5, .int x, v7] (.int x :: st) M Q := zq_go (i := .iload 6) (by decide +kernel) rfl
theorem q2_33 : zQ 2 33 L st M Q ↔ zQ 2 34 L (.int 1 :: st) M Q := zq_con (n := 1) (by decide +kernel) (by decide +kernel) rfl
theorem q2_34 : zQ 2 34 [v0, v1, v2, v3, v4, v5, v6, .int x] st M Q ↔ zQ 2 36 [v0, v1, v2, v3, v4, v5, v6, .int x] (.int x :: st) M Q := zq_go (i := .iload 7) (by decide +kernel) rfl
theorem q2_36 : zQ 2 36 L (.int y :: .int x :: st) M Q ↔ zQ 2 37 L (.int (x <<< (y &&& 31)) :: st) M Q := zq_go (i := .ishl) (by decide +kernel) rfl
theorem q2_37 : zQ 2 37 L (.int y :: .int x :: st) M Q ↔ zQ 2 38 L (.int (x ||| y) :: st) M Q := zq_go (i := .ior) (by decide +kernel) rfl
theorem q2_38i : zQ 2 38 [v0, v1, v2, v3, v4, .int y, v6, v7] (.int x :: st) M Q ↔ zQ 2 40 [v0, v1, v2, v3, v4, .int y, .int x, v7] st M Q := zq_stI (i := .istore 6) (k := 6) (by decide +kernel) rfl (Nat.le_of_ble_eq_true rfl) rfl rfl
theorem q2_38r : zQ 2 38 [v0, v1, v2, v3, v4, .ref r1, v6, v7] (.int x :: st) M Q ↔ zQ 2 40 [v0, v1, v2, v3, v4, .ref r1, .int x, v7] st M Q := zq_stI (i := .istore 6) (k := 6) (by decide +kernel) rfl (Nat.le_of_ble_eq_true rfl) rfl rfl
theorem q2_38n : zQ 2 38 [v0, v1, v2, v3, v4, .null, v6, v7] (.int x :: st) M Q ↔ zQ 2 40 [v0, v1, v2, v3, v4, .null, .int x, v7] st M Q := zq_stI (i := .istore 6) (k := 6) (by decide +kernel) rfl (Nat.le_of_ble_eq_true rfl) rfl rfl
theorem q2_40i : zQ 2 40 [v0, v1, v2, v3, v4, v5, .int y, .int x] st M Q ↔ zQ 2 43 [v0, v1, v2, v3, v4, v5, .int y, .int (x + 1)] st M Q := zq_inc (k := 7) (n := 1) (x := x) (v := 1) (by decide +kernel) (by decide +kernel) rfl rfl rfl rfl
theorem q2_40r : zQ 2 40 [v0, v1, v2, v3, v4, v5, .ref r1, .int x] st M Q ↔ zQ 2 43 [v0, v1, v2, v3, v4, v5, .ref r1, .int (x + 1)] st M Q := zq_inc (k := 7) (n := 1) (x := x) (v := 1) (by decide +kernel) (by decide +kernel) rfl rfl rfl rfl
theorem q2_40n : zQ 2 40 [v0, v1, v2, v3, v4, v5, .null, .int x] st M Q ↔ zQ 2 43 [v0, v1, v2, v3, v4, v5, .null, .int (x + 1)] st M Q := zq_inc (k := 7) (n := 1) (x := x) (v := 1) (by decide +kernel) (by decide +kernel) rfl rfl rfl rfl
theorem q2_43 : zQ 2 43 L st M Q ↔ zQ 2 11 L st M Q := zq_jmp (off := (-32)) (by decide +kernel) (by decide)
theorem q2_46 : zQ 2 46 [v0, v1, .ref a, v3, v4, v5, v6, v7] st M Q ↔ zQ 2 47 [v0, v1, .ref a, v3, v4, v5, v6, v7] (.ref a :: st) M Q := zq_go (i := .aload_n 2) (by decide +kernel) rfl
theorem q2_47 : zQ 2 47 [v0, v1, v2, .int x, v4, v5, v6, v7] st M Q ↔ zQ 2 48 [v0, v1, v2, .int x, v4, v5, v6, v7] (.int x :: st) M Q := zq_go (i := .iload_n 3) (by decide +kernel) rfl
theorem q2_48 : zQ 2 48 [v0, v1, v2, v3, v4, .int x, v6, v7] st M Q ↔ zQ 2 50 [v0, v1, v2, v3, v4, .int x, v6, v7] (.int x :: st) M Q := zq_go (i := .iload 5) (by decide +kernel) rfl
theorem q2_50 : zQ 2 50 L (.int x :: .int y :: .ref a :: st) M Q ↔ (a < zNC ∧ zk a = 7 ∧ zin y (zn a) = true) ∧ zQ 2 51 L st (zup M a y.toNatClampNeg x) Q := zq_iast (by decide +kernel)
theorem q2_51 : zQ 2 51 [v0, v1, v2, v3, v4, v5, .int x, v7] st M Q ↔ zQ 2 53 [v0, v1, v2, v3, v4, v5, .int x, v7] (.int x :: st) M Q := zq_go (i := .iload 6) (by decide +kernel) rfl
theorem q2_53 : zQ 2 53 L [.int x] M Q ↔ Q (zI x) M := zq_reI (by decide +kernel) (by decide +kernel)
-- 3 SandKeepers$Seating.weigh(LSandKeepers$Town;)V
theorem q3_0 : zQ 3 0 L st M Q ↔ zQ 3 1 L (.int 1 :: st) M Q := zq_con (n := 1) (by decide +kernel) (by decide +kernel) rfl
theorem q3_1 : zQ 3 1 [v0, .ref a, v2, v3, v4, v5] st M Q ↔ zQ 3 2 [v0, .ref a, v2, v3, v4, v5] (.ref a :: st) M Q := zq_go (i := .aload_n 1) (by decide +kernel) rfl
theorem q3_2 : zQ 3 2 L (.ref a :: st) M Q ↔ (a < zNC ∧ zk a = 4) ∧ zQ 3 5 L (zfv a 7 M :: st) M Q := zq_getf (n := 15) (b := true) (by decide +kernel) (by decide +kernel)
theorem q3_5 : zQ 3 5 L (.int y :: .int x :: st) M Q ↔ zQ 3 6 L (.int (x <<< (y &&& 31)) :: st) M Q := zq_go (i := .ishl) (by decide +kernel) rfl
theorem q3_6 : zQ 3 6 L st M Q ↔ zQ 3 7 L (.int 1 :: st) M Q := zq_con (n := 1) (by decide +kernel) (by decide +kernel) rfl
theorem q3_7 : zQ 3 7 L (.int y :: .int x :: st) M Q ↔ zQ 3 8 L (.int (x - y) :: st) M Q := zq_go (i := .isub) (by decide +kernel) rfl
theorem q3_8i : zQ 3 8 [v0, .int y, v2, v3, v4, v5] (.int x :: st) M Q ↔ zQ 3 9 [v0, .int y, .int x, v3, v4, v5] st M Q := zq_stI (i := .istore_n 2) (k := 2) (by decide +kernel) rfl (Nat.le_of_ble_eq_true rfl) rfl rfl
theorem q3_8r : zQ 3 8 [v0, .ref r1, v2, v3, v4, v5] (.int x :: st) M Q ↔ zQ 3 9 [v0, .ref r1, .int x, v3, v4, v5] st M Q := zq_stI (i := .istore_n 2) (k := 2) (by decide +kernel) rfl (Nat.le_of_ble_eq_true rfl) rfl rfl
theorem q3_8n : zQ 3 8 [v0, .null, v2, v3, v4, v5] (.int x :: st) M Q ↔ zQ 3 9 [v0, .null, .int x, v3, v4, v5] st M Q := zq_stI (i := .istore_n 2) (k := 2) (by decide +kernel) rfl (Nat.le_of_ble_eq_true rfl) rfl rfl
theorem q3_9 : zQ 3 9 [.ref a, v1, v2, v3, v4, v5] st M Q ↔ zQ 3 10 [.ref a, v1, v2, v3, v4, v5] (.ref a :: st) M Q := zq_go (i := .aload_n 0) (by decide +kernel) rfl
theorem q3_10 : zQ 3 10 L (.ref a :: st) M Q ↔ (a < zNC ∧ zk a = 1) ∧ zQ 3 13 L (zfv a 0 M :: st) M Q := zq_getf (n := 9) (b := false) (by decide +kernel) (by decide +kernel)
theorem q3_13 : zQ 3 13 [v0, v1, .int x, v3, v4, v5] st M Q ↔ zQ 3 14 [v0, v1, .int x, v3, v4, v5] (.int x :: st) M Q := zq_go (i := .iload_n 2) (by decide +kernel) rfl
theorem q3_14 : zQ 3 14 L st M Q ↔ zQ 3 15 L (.int 0 :: st) M Q := zq_con (n := 0) (by decide +kernel) (by decide +kernel) rfl
theorem q3_15 : zQ 3 15 L (.int x :: .int y :: .ref a :: st) M Q ↔ (a < zNC ∧ zk a = 7 ∧ zin y (zn a) = true) ∧ zQ 3 16 L st (zup M a y.toNatClampNeg x) Q := zq_iast (by decide +kernel)
theorem q3_16 : zQ 3 16 [v0, v1, .int x, v3, v4, v5] st M Q ↔ zQ 3 17 [v0, v1, .int x, v3, v4, v5] (.int x :: st) M Q := zq_go (i := .iload_n 2) (by decide +kernel) rfl
theorem q3_17 : zQ 3 17 L st M Q ↔ zQ 3 18 L (.int 1 :: st) M Q := zq_con (n := 1) (by decide +kernel) (by decide +kernel) rfl
theorem q3_18 : zQ 3 18 L (.int y :: .int x :: st) M Q ↔ zQ 3 19 L (.int (x - y) :: st) M Q := zq_go (i := .isub) (by decide +kernel) rfl
theorem q3_19i : zQ 3 19 [v0, v1, .int y, v3, v4, v5] (.int x :: st) M Q ↔ zQ 3 20 [v0, v1, .int y, .int x, v4, v5] st M Q := zq_stI (i := .istore_n 3) (k := 3) (by decide +kernel) rfl (Nat.le_of_ble_eq_true rfl) rfl rfl
theorem q3_19r : zQ 3 19 [v0, v1, .ref r1, v3, v4, v5] (.int x :: st) M Q ↔ zQ 3 20 [v0, v1, .ref r1, .int x, v4, v5] st M Q := zq_stI (i := .istore_n 3) (k := 3) (by decide +kernel) rfl (Nat.le_of_ble_eq_true rfl) rfl rfl
theorem q3_19n : zQ 3 19 [v0, v1, .null, v3, v4, v5] (.int x :: st) M Q ↔ zQ 3 20 [v0, v1, .null, .int x, v4, v5] st M Q := zq_stI (i := .istore_n 3) (k := 3) (by decide +kernel) rfl (Nat.le_of_ble_eq_true rfl) rfl rfl
theorem q3_20 : zQ 3 20 [v0, v1, v2, .int x, v4, v5] st M Q ↔ zQ 3 21 [v0, v1, v2, .int x, v4, v5] (.int x :: st) M Q := zq_go (i := .iload_n 3) (by decide +kernel) rfl
theorem q3_21 : zQ 3 21 L (.int x :: st) M Q ↔ (x < 0 → zQ 3 86 L st M Q) ∧ (¬ x < 0 → zQ 3 24 L st M Q) := zq_br (i := .ifCond .lt 65) (off := 65) (by decide +kernel) rfl (by decide) rfl
theorem q3_24 : zQ 3 24 [v0, v1, v2, .int x, v4, v5] st M Q ↔ zQ 3 25 [v0, v1, v2, .int x, v4, v5] (.int x :: st) M Q := zq_go (i := .iload_n 3) (by decide +kernel) rfl
theorem q3_25 : zQ 3 25 L (.int x1 :: st) M Q ↔ zcs st ≤ 8 ∧ zQ 156 0 [.int x1] [] M (fun r M1 => zQ 3 28 L (zpush r st) M1 Q) := zq_callS (n := 21) (j := 156) (b := false) (As := [.int x1]) (by decide +kernel) (by decide +kernel) ⟨by decide +kernel, by decide +kernel, rfl, by decide +kernel, by decide +kernel, Nat.le_of_ble_eq_true rfl⟩ rfl
theorem q3_28i : zQ 3 28 [v0, v1, v2, .int y, v4, v5] (.int x :: st) M Q ↔ zQ 3 30 [v0, v1, v2, .int y, .int x, v5] st M Q := zq_stI (i := .istore 4) (k := 4) (by decide +kernel) rfl (Nat.le_of_ble_eq_true rfl) rfl rfl
theorem q3_28r : zQ 3 28 [v0, v1, v2, .ref r1, v4, v5] (.int x :: st) M Q ↔ zQ 3 30 [v0, v1, v2, .ref r1, .int x, v5] st M Q := zq_stI (i := .istore 4) (k := 4) (by decide +kernel) rfl (Nat.le_of_ble_eq_true rfl) rfl rfl
theorem q3_28n : zQ 3 28 [v0, v1, v2, .null, v4, v5] (.int x :: st) M Q ↔ zQ 3 30 [v0, v1, v2, .null, .int x, v5] st M Q := zq_stI (i := .istore 4) (k := 4) (by decide +kernel) rfl (Nat.le_of_ble_eq_true rfl) rfl rfl
theorem q3_30 : zQ 3 30 [.ref a, v1, v2, v3, v4, v5] st M Q ↔ zQ 3 31 [.ref a, v1, v2, v3, v4, v5] (.ref a :: st) M Q := zq_go (i := .aload_n 0) (by decide +kernel) rfl
theorem q3_31 : zQ 3 31 L (.ref a :: st) M Q ↔ (a < zNC ∧ zk a = 1) ∧ zQ 3 34 L (zfv a 0 M :: st) M Q := zq_getf (n := 9) (b := false) (by decide +kernel) (by decide +kernel)
theorem q3_34 : zQ 3 34 [v0, v1, v2, .int x, v4, v5] st M Q ↔ zQ 3 35 [v0, v1, v2, .int x, v4, v5] (.int x :: st) M Q := zq_go (i := .iload_n 3) (by decide +kernel) rfl
theorem q3_35 : zQ 3 35 L st M Q ↔ zQ 3 36 L (.int (-1) :: st) M Q := zq_con (n := (-1)) (by decide +kernel) (by decide +kernel) rfl
theorem q3_36 : zQ 3 36 L (.int x :: .int y :: .ref a :: st) M Q ↔ (a < zNC ∧ zk a = 7 ∧ zin y (zn a) = true) ∧ zQ 3 37 L st (zup M a y.toNatClampNeg x) Q := zq_iast (by decide +kernel)
theorem q3_37 : zQ 3 37 L st M Q ↔ zQ 3 38 L (.int 0 :: st) M Q := zq_con (n := 0) (by decide +kernel) (by decide +kernel) rfl
theorem q3_38i : zQ 3 38 [v0, v1, v2, v3, .int y, v5] (.int x :: st) M Q ↔ zQ 3 40 [v0, v1, v2, v3, .int y, .int x] st M Q := zq_stI (i := .istore 5) (k := 5) (by decide +kernel) rfl (Nat.le_of_ble_eq_true rfl) rfl rfl
theorem q3_38r : zQ 3 38 [v0, v1, v2, v3, .ref r1, v5] (.int x :: st) M Q ↔ zQ 3 40 [v0, v1, v2, v3, .ref r1, .int x] st M Q := zq_stI (i := .istore 5) (k := 5) (by decide +kernel) rfl (Nat.le_of_ble_eq_true rfl) rfl rfl
theorem q3_38n : zQ 3 38 [v0, v1, v2, v3, .null, v5] (.int x :: st) M Q ↔ zQ 3 40 [v0, v1, v2, v3, .null, .int x] st M Q := zq_stI (i := .istore 5) (k := 5) (by decide +kernel) rfl (Nat.le_of_ble_eq_true rfl) rfl rfl
theorem q3_40 : zQ 3 40 [v0, v1, v2, v3, v4, .int x] st M Q ↔ zQ 3 42 [v0, v1, v2, v3, v4, .int x] (.int x :: st) M Q := zq_go (i := .iload 5) (by decide +kernel) rfl
theorem q3_42 : zQ 3 42 [v0, .ref a, v2, v3, v4, v5] st M Q ↔ zQ 3 43 [v0, .ref a, v2, v3, v4, v5] (.ref a :: st) M Q := zq_go (i := .aload_n 1) (by decide +kernel) rfl
theorem q3_43 : zQ 3 43 L (.ref a :: st) M Q ↔ (a < zNC ∧ zk a = 4) ∧ zQ 3 46 L (zfv a 7 M :: st) M Q := zq_getf (n := 15) (b := true) (by decide +kernel) (by decide +kernel)
theorem q3_46 : zQ 3 46 L (.int y :: .int x :: st) M Q ↔ (y ≤ x → zQ 3 80 L st M Q) ∧ (¬ y ≤ x → zQ 3 49 L st M Q) := zq_br (i := .if_icmp .ge 34) (off := 34) (by decide +kernel) rfl (by decide) rfl
theorem q3_49 : zQ 3 49 [.ref a, v1, v2, v3, v4, v5] st M Q ↔ zQ 3 50 [.ref a, v1, v2, v3, v4, v5] (.ref a :: st) M Q := zq_go (i := .aload_n 0) (by decide +kernel) rfl
theorem q3_50 : zQ 3 50 L (.ref a :: st) M Q ↔ (a < zNC ∧ zk a = 1) ∧ zQ 3 53 L (zfv a 0 M :: st) M Q := zq_getf (n := 9) (b := false) (by decide +kernel) (by decide +kernel)
theorem q3_53 : zQ 3 53 [v0, v1, v2, .int x, v4, v5] st M Q ↔ zQ 3 54 [v0, v1, v2, .int x, v4, v5] (.int x :: st) M Q := zq_go (i := .iload_n 3) (by decide +kernel) rfl
theorem q3_54 : zQ 3 54 [.ref a, v1, v2, v3, v4, v5] st M Q ↔ zQ 3 55 [.ref a, v1, v2, v3, v4, v5] (.ref a :: st) M Q := zq_go (i := .aload_n 0) (by decide +kernel) rfl
theorem q3_55 : zQ 3 55 L (.ref a :: st) M Q ↔ (a < zNC ∧ zk a = 1) ∧ zQ 3 58 L (zfv a 0 M :: st) M Q := zq_getf (n := 9) (b := false) (by decide +kernel) (by decide +kernel)
theorem q3_58 : zQ 3 58 [v0, v1, v2, .int x, v4, v5] st M Q ↔ zQ 3 59 [v0, v1, v2, .int x, v4, v5] (.int x :: st) M Q := zq_go (i := .iload_n 3) (by decide +kernel) rfl
theorem q3_59 : zQ 3 59 L (.int x :: .ref a :: st) M Q ↔ (a < zNC ∧ zk a = 7 ∧ zin x (zn a) = true) ∧ zQ 3 60 L (.int (M a x.toNatClampNeg) :: st) M Q := zq_iald (by decide +kernel)
theorem q3_60 : zQ 3 60 [.ref a, v1, v2, v3, v4, v5] st M Q ↔ zQ 3 61 [.ref a, v1, v2, v3, v4, v5] (.ref a :: st) M Q := zq_go (i := .aload_n 0) (by decide +kernel) rfl
theorem q3_61 : zQ 3 61 [v0, .ref a, v2, v3, v4, v5] st M Q ↔ zQ 3 62 [v0, .ref a, v2, v3, v4, v5] (.ref a :: st) M Q := zq_go (i := .aload_n 1) (by decide +kernel) rfl
theorem q3_62 : zQ 3 62 [v0, v1, v2, v3, .int x, v5] st M Q ↔ zQ 3 64 [v0, v1, v2, v3, .int x, v5] (.int x :: st) M Q := zq_go (i := .iload 4) (by decide +kernel) rfl
theorem q3_64 : zQ 3 64 [v0, v1, v2, v3, v4, .int x] st M Q ↔ zQ 3 66 [v0, v1, v2, v3, v4, .int x] (.int x :: st) M Q := zq_go (i := .iload 5) (by decide +kernel) rfl
theorem q3_66 : zQ 3 66 [v0, v1, v2, .int x, v4, v5] st M Q ↔ zQ 3 67 [v0, v1, v2, .int x, v4, v5] (.int x :: st) M Q := zq_go (i := .iload_n 3) (by decide +kernel) rfl
theorem q3_67 : zQ 3 67 L (.int x3 :: .int x2 :: .int x1 :: .ref r1 :: .ref a :: st) M Q ↔ (zcs st ≤ 8 ∧ a < zNC ∧ zk a = 1) ∧ zQ 4 0 [.ref a, .ref r1, .int x1, .int x2, .int x3, .null] [] M (fun r M1 => zQ 3 70 L (zpush r st) M1 Q) := zq_callV (n := 27) (j := 4) (b := false) (As := [.ref r1, .int x1, .int x2, .int x3]) (by decide +kernel) (by decide +kernel) ⟨by decide +kernel, by decide +kernel, rfl, by decide +kernel, by decide +kernel, Nat.le_of_ble_eq_true rfl⟩ rfl
theorem q3_70 : zQ 3 70 L (.int y :: .int x :: st) M Q ↔ (1 ≤ zfr 3 ∧ zcs st + 13 ≤ zlo 3) ∧ zQ 3 73 L (.int (if x < y then y else x) :: st) M Q := zq_max (n := 31) (b := false) (by decide +kernel) (by decide +kernel)
theorem q3_73 : zQ 3 73 L (.int x :: .int y :: .ref a :: st) M Q ↔ (a < zNC ∧ zk a = 7 ∧ zin y (zn a) = true) ∧ zQ 3 74 L st (zup M a y.toNatClampNeg x) Q := zq_iast (by decide +kernel)
theorem q3_74i : zQ 3 74 [v0, v1, v2, v3, .int y, .int x] st M Q ↔ zQ 3 77 [v0, v1, v2, v3, .int y, .int (x + 1)] st M Q := zq_inc (k := 5) (n := 1) (x := x) (v := 1) (by decide +kernel) (by decide +kernel) rfl rfl rfl rfl
theorem q3_74r : zQ 3 74 [v0, v1, v2, v3, .ref r1, .int x] st M Q ↔ zQ 3 77 [v0, v1, v2, v3, .ref r1, .int (x + 1)] st M Q := zq_inc (k := 5) (n := 1) (x := x) (v := 1) (by decide +kernel) (by decide +kernel) rfl rfl rfl rfl
theorem q3_74n : zQ 3 74 [v0, v1, v2, v3, .null, .int x] st M Q ↔ zQ 3 77 [v0, v1, v2, v3, .null, .int (x + 1)] st M Q := zq_inc (k := 5) (n := 1) (x := x) (v := 1) (by decide +kernel) (by decide +kernel) rfl rfl rfl rfl
theorem q3_77 : zQ 3 77 L st M Q ↔ zQ 3 40 L st M Q := zq_jmp (off := (-37)) (by decide +kernel) (by decide)
theorem q3_80i : zQ 3 80 [v0, v1, .int y, .int x, v4, v5] st M Q ↔ zQ 3 83 [v0, v1, .int y, .int (x + (-1)), v4, v5] st M Q := zq_inc (k := 3) (n := (-1)) (x := x) (v := (-1)) (by decide +kernel) (by decide +kernel) rfl rfl rfl rfl
theorem q3_80r : zQ 3 80 [v0, v1, .ref r1, .int x, v4, v5] st M Q ↔ zQ 3 83 [v0, v1, .ref r1, .int (x + (-1)), v4, v5] st M Q := zq_inc (k := 3) (n := (-1)) (x := x) (v := (-1)) (by decide +kernel) (by decide +kernel) rfl rfl rfl rfl
theorem q3_80n : zQ 3 80 [v0, v1, .null, .int x, v4, v5] st M Q ↔ zQ 3 83 [v0, v1, .null, .int (x + (-1)), v4, v5] st M Q := zq_inc (k := 3) (n := (-1)) (x := x) (v := (-1)) (by decide +kernel) (by decide +kernel) rfl rfl rfl rfl
theorem q3_83 : zQ 3 83 L st M Q ↔ zQ 3 20 L st M Q := zq_jmp (off := (-63)) (by decide +kernel) (by decide)
theorem q3_86 : zQ 3 86 L [] M Q ↔ Q none M := zq_reV (by decide +kernel) (by decide +kernel)
-- 4 SandKeepers$Seating.livesBy(LSandKeepers$Town;III)I
theorem q4_0 : zQ 4 0 [v0, v1, v2, .int x, v4, v5] st M Q ↔ zQ 4 1 [v0, v1, v2, .int x, v4, v5] (.int x :: st) M Q := zq_go (i := .iload_n 3) (by decide +kernel) rfl
theorem q4_1 : zQ 4 1 [v0, v1, .int x, v3, v4, v5] st M Q ↔ zQ 4 2 [v0, v1, .int x, v3, v4, v5] (.int x :: st) M Q := zq_go (i := .iload_n 2) (by decide +kernel) rfl
theorem q4_2 : zQ 4 2 L (.int y :: .int x :: st) M Q ↔ (x = y → zQ 4 14 L st M Q) ∧ (¬ x = y → zQ 4 5 L st M Q) := zq_br (i := .if_icmp .eq 12) (off := 12) (by decide +kernel) rfl (by decide) rfl
theorem q4_5 : zQ 4 5 [v0, v1, v2, v3, .int x, v5] st M Q ↔ zQ 4 7 [v0, v1, v2, v3, .int x, v5] (.int x :: st) M Q := zq_go (i := .iload 4) (by decide +kernel) rfl
theorem q4_7 : zQ 4 7 [v0, v1, v2, .int x, v4, v5] st M Q ↔ zQ 4 8 [v0, v1, v2, .int x, v4, v5] (.int x :: st) M Q := zq_go (i := .iload_n 3) (by decide +kernel) rfl
theorem q4_8 : zQ 4 8 L (.int y :: .int x :: st) M Q ↔ zQ 4 9 L (.int (x >>> (y &&& 31)) :: st) M Q := zq_go (i := .ishr) (by decide +kernel) rfl
theorem q4_9 : zQ 4 9 L st M Q ↔ zQ 4 10 L (.int 1 :: st) M Q := zq_con (n := 1) (by decide +kernel) (by decide +kernel) rfl
theorem q4_10 : zQ 4 10 L (.int y :: .int x :: st) M Q ↔ zQ 4 11 L (.int (x &&& y) :: st) M Q := zq_go (i := .iand) (by decide +kernel) rfl
theorem q4_11 : zQ 4 11 L (.int x :: st) M Q ↔ (x = 0 → zQ 4 16 L st M Q) ∧ (¬ x = 0 → zQ 4 14 L st M Q) := zq_br (i := .ifCond .eq 5) (off := 5) (by decide +kernel) rfl (by decide) rfl
theorem q4_14 : zQ 4 14 L st M Q ↔ zQ 4 15 L (.int (-1) :: st) M Q := zq_con (n := (-1)) (by decide +kernel) (by decide +kernel) rfl
theorem q4_15 : zQ 4 15 L [.int x] M Q ↔ Q (zI x) M := zq_reI (by decide +kernel) (by decide +kernel)
theorem q4_16 : zQ 4 16 [.ref a, v1, v2, v3, v4, v5] st M Q ↔ zQ 4 17 [.ref a, v1, v2, v3, v4, v5] (.ref a :: st) M Q := zq_go (i := .aload_n 0) (by decide +kernel) rfl
theorem q4_17 : zQ 4 17 L (.ref a :: st) M Q ↔ (a < zNC ∧ zk a = 1) ∧ zQ 4 20 L (zfv a 0 M :: st) M Q := zq_getf (n := 9) (b := false) (by decide +kernel) (by decide +kernel)
theorem q4_20 : zQ 4 20 [v0, v1, v2, v3, .int x, v5] st M Q ↔ zQ 4 22 [v0, v1, v2, v3, .int x, v5] (.int x :: st) M Q := zq_go (i := .iload 4) (by decide +kernel) rfl
theorem q4_22 : zQ 4 22 L st M Q ↔ zQ 4 23 L (.int 1 :: st) M Q := zq_con (n := 1) (by decide +kernel) (by decide +kernel) rfl
theorem q4_23 : zQ 4 23 [v0, v1, v2, .int x, v4, v5] st M Q ↔ zQ 4 24 [v0, v1, v2, .int x, v4, v5] (.int x :: st) M Q := zq_go (i := .iload_n 3) (by decide +kernel) rfl
theorem q4_24 : zQ 4 24 L (.int y :: .int x :: st) M Q ↔ zQ 4 25 L (.int (x <<< (y &&& 31)) :: st) M Q := zq_go (i := .ishl) (by decide +kernel) rfl
theorem q4_25 : zQ 4 25 L (.int y :: .int x :: st) M Q ↔ zQ 4 26 L (.int (x ||| y) :: st) M Q := zq_go (i := .ior) (by decide +kernel) rfl
theorem q4_26 : zQ 4 26 L (.int x :: .ref a :: st) M Q ↔ (a < zNC ∧ zk a = 7 ∧ zin x (zn a) = true) ∧ zQ 4 27 L (.int (M a x.toNatClampNeg) :: st) M Q := zq_iald (by decide +kernel)
theorem q4_27i : zQ 4 27 [v0, v1, v2, v3, .int y, v5] (.int x :: st) M Q ↔ zQ 4 29 [v0, v1, v2, v3, .int y, .int x] st M Q := zq_stI (i := .istore 5) (k := 5) (by decide +kernel) rfl (Nat.le_of_ble_eq_true rfl) rfl rfl
theorem q4_27r : zQ 4 27 [v0, v1, v2, v3, .ref r1, v5] (.int x :: st) M Q ↔ zQ 4 29 [v0, v1, v2, v3, .ref r1, .int x] st M Q := zq_stI (i := .istore 5) (k := 5) (by decide +kernel) rfl (Nat.le_of_ble_eq_true rfl) rfl rfl
theorem q4_27n : zQ 4 27 [v0, v1, v2, v3, .null, v5] (.int x :: st) M Q ↔ zQ 4 29 [v0, v1, v2, v3, .null, .int x] st M Q := zq_stI (i := .istore 5) (k := 5) (by decide +kernel) rfl (Nat.le_of_ble_eq_true rfl) rfl rfl
theorem q4_29 : zQ 4 29 [v0, v1, v2, v3, v4, .int x] st M Q ↔ zQ 4 31 [v0, v1, v2, v3, v4, .int x] (.int x :: st) M Q := zq_go (i := .iload 5) (by decide +kernel) rfl
theorem q4_31 : zQ 4 31 L st M Q ↔ zQ 4 32 L (.int (-1) :: st) M Q := zq_con (n := (-1)) (by decide +kernel) (by decide +kernel) rfl
theorem q4_32 : zQ 4 32 L (.int y :: .int x :: st) M Q ↔ (x = y → zQ 4 35 L st M Q) ∧ (¬ x = y → zQ 4 39 L st M Q) := zq_bn (i := .if_icmp .ne 7) (off := 7) (by decide +kernel) rfl (by decide) rfl
theorem q4_35 : zQ 4 35 L st M Q ↔ zQ 4 36 L (.int (-1) :: st) M Q := zq_con (n := (-1)) (by decide +kernel) (by decide +kernel) rfl
theorem q4_36 : zQ 4 36 L st M Q ↔ zQ 4 48 L st M Q := zq_jmp (off := 12) (by decide +kernel) (by decide)
theorem q4_39 : zQ 4 39 [v0, v1, v2, v3, v4, .int x] st M Q ↔ zQ 4 41 [v0, v1, v2, v3, v4, .int x] (.int x :: st) M Q := zq_go (i := .iload 5) (by decide +kernel) rfl
theorem q4_41 : zQ 4 41 [v0, .ref a, v2, v3, v4, v5] st M Q ↔ zQ 4 42 [v0, .ref a, v2, v3, v4, v5] (.ref a :: st) M Q := zq_go (i := .aload_n 1) (by decide +kernel) rfl
theorem q4_42 : zQ 4 42 [v0, v1, .int x, v3, v4, v5] st M Q ↔ zQ 4 43 [v0, v1, .int x, v3, v4, v5] (.int x :: st) M Q := zq_go (i := .iload_n 2) (by decide +kernel) rfl
theorem q4_43 : zQ 4 43 [v0, v1, v2, .int x, v4, v5] st M Q ↔ zQ 4 44 [v0, v1, v2, .int x, v4, v5] (.int x :: st) M Q := zq_go (i := .iload_n 3) (by decide +kernel) rfl
theorem q4_44 : zQ 4 44 L (.int x2 :: .int x1 :: .ref a :: st) M Q ↔ (zcs st ≤ 8 ∧ a < zNC ∧ zk a = 4) ∧ zQ 34 0 [.ref a, .int x1, .int x2, .null] [] M (fun r M1 => zQ 4 47 L (zpush r st) M1 Q) := zq_callV (n := 37) (j := 34) (b := true) (As := [.int x1, .int x2]) (by decide +kernel) (by decide +kernel) ⟨by decide +kernel, by decide +kernel, rfl, by decide +kernel, by decide +kernel, Nat.le_of_ble_eq_true rfl⟩ rfl
theorem q4_47 : zQ 4 47 L (.int y :: .int x :: st) M Q ↔ zQ 4 48 L (.int (x + y) :: st) M Q := zq_go (i := .iadd) (by decide +kernel) rfl
theorem q4_48 : zQ 4 48 L [.int x] M Q ↔ Q (zI x) M := zq_reI (by decide +kernel) (by decide +kernel)
-- 5 SandKeepers$Seating.keeperFor(ILSandKeepers$Town;)I
theorem q5_0 : zQ 5 0 L st M Q ↔ zQ 5 1 L (.int 0 :: st) M Q := zq_con (n := 0) (by decide +kernel) (by decide +kernel) rfl
theorem q5_1i : zQ 5 1 [v0, v1, .int y, v3, v4, v5] (.int x :: st) M Q ↔ zQ 5 2 [v0, v1, .int y, .int x, v4, v5] st M Q := zq_stI (i := .istore_n 3) (k := 3) (by decide +kernel) rfl (Nat.le_of_ble_eq_true rfl) rfl rfl
theorem q5_1r : zQ 5 1 [v0, v1, .ref r1, v3, v4, v5] (.int x :: st) M Q ↔ zQ 5 2 [v0, v1, .ref r1, .int x, v4, v5] st M Q := zq_stI (i := .istore_n 3) (k := 3) (by decide +kernel) rfl (Nat.le_of_ble_eq_true rfl) rfl rfl
theorem q5_1n : zQ 5 1 [v0, v1, .null, v3, v4, v5] (.int x :: st) M Q ↔ zQ 5 2 [v0, v1, .null, .int x, v4, v5] st M Q := zq_stI (i := .istore_n 3) (k := 3) (by decide +kernel) rfl (Nat.le_of_ble_eq_true rfl) rfl rfl
theorem q5_2 : zQ 5 2 L st M Q ↔ zQ 5 4 L (.int (-9) :: st) M Q := zq_bip (n := (-9)) (by decide +kernel) (by decide +kernel) rfl
theorem q5_4i : zQ 5 4 [v0, v1, v2, .int y, v4, v5] (.int x :: st) M Q ↔ zQ 5 6 [v0, v1, v2, .int y, .int x, v5] st M Q := zq_stI (i := .istore 4) (k := 4) (by decide +kernel) rfl (Nat.le_of_ble_eq_true rfl) rfl rfl
theorem q5_4r : zQ 5 4 [v0, v1, v2, .ref r1, v4, v5] (.int x :: st) M Q ↔ zQ 5 6 [v0, v1, v2, .ref r1, .int x, v5] st M Q := zq_stI (i := .istore 4) (k := 4) (by decide +kernel) rfl (Nat.le_of_ble_eq_true rfl) rfl rfl
theorem q5_4n : zQ 5 4 [v0, v1, v2, .null, v4, v5] (.int x :: st) M Q ↔ zQ 5 6 [v0, v1, v2, .null, .int x, v5] st M Q := zq_stI (i := .istore 4) (k := 4) (by decide +kernel) rfl (Nat.le_of_ble_eq_true rfl) rfl rfl
theorem q5_6 : zQ 5 6 L st M Q ↔ zQ 5 7 L (.int 0 :: st) M Q := zq_con (n := 0) (by decide +kernel) (by decide +kernel) rfl
theorem q5_7i : zQ 5 7 [v0, v1, v2, v3, .int y, v5] (.int x :: st) M Q ↔ zQ 5 9 [v0, v1, v2, v3, .int y, .int x] st M Q := zq_stI (i := .istore 5) (k := 5) (by decide +kernel) rfl (Nat.le_of_ble_eq_true rfl) rfl rfl
theorem q5_7r : zQ 5 7 [v0, v1, v2, v3, .ref r1, v5] (.int x :: st) M Q ↔ zQ 5 9 [v0, v1, v2, v3, .ref r1, .int x] st M Q := zq_stI (i := .istore 5) (k := 5) (by decide +kernel) rfl (Nat.le_of_ble_eq_true rfl) rfl rfl
theorem q5_7n : zQ 5 7 [v0, v1, v2, v3, .null, v5] (.int x :: st) M Q ↔ zQ 5 9 [v0, v1, v2, v3, .null, .int x] st M Q := zq_stI (i := .istore 5) (k := 5) (by decide +kernel) rfl (Nat.le_of_ble_eq_true rfl) rfl rfl
theorem q5_9 : zQ 5 9 [v0, v1, v2, v3, v4, .int x] st M Q ↔ zQ 5 11 [v0, v1, v2, v3, v4, .int x] (.int x :: st) M Q := zq_go (i := .iload 5) (by decide +kernel) rfl
theorem q5_11 : zQ 5 11 [v0, .int x, v2, v3, v4, v5] st M Q ↔ zQ 5 12 [v0, .int x, v2, v3, v4, v5] (.int x :: st) M Q := zq_go (i := .iload_n 1) (by decide +kernel) rfl
theorem q5_12 : zQ 5 12 L (.int y :: .int x :: st) M Q ↔ (y < x → zQ 5 48 L st M Q) ∧ (¬ y < x → zQ 5 15 L st M Q) := zq_br (i := .if_icmp .gt 36) (off := 36) (by decide +kernel) rfl (by decide) rfl
theorem q5_15 : zQ 5 15 [.ref a, v1, v2, v3, v4, v5] st M Q ↔ zQ 5 16 [.ref a, v1, v2, v3, v4, v5] (.ref a :: st) M Q := zq_go (i := .aload_n 0) (by decide +kernel) rfl
theorem q5_16 : zQ 5 16 [v0, v1, .ref a, v3, v4, v5] st M Q ↔ zQ 5 17 [v0, v1, .ref a, v3, v4, v5] (.ref a :: st) M Q := zq_go (i := .aload_n 2) (by decide +kernel) rfl
theorem q5_17 : zQ 5 17 [v0, v1, v2, v3, v4, .int x] st M Q ↔ zQ 5 19 [v0, v1, v2, v3, v4, .int x] (.int x :: st) M Q := zq_go (i := .iload 5) (by decide +kernel) rfl
theorem q5_19 : zQ 5 19 [v0, v1, v2, .int x, v4, v5] st M Q ↔ zQ 5 20 [v0, v1, v2, .int x, v4, v5] (.int x :: st) M Q := zq_go (i := .iload_n 3) (by decide +kernel) rfl
theorem q5_20 : zQ 5 20 L (.int x2 :: .int x1 :: .ref r1 :: .ref a :: st) M Q ↔ (zcs st ≤ 8 ∧ a < zNC ∧ zk a = 1) ∧ zQ 6 0 [.ref a, .ref r1, .int x1, .int x2, .null, .null] [] M (fun r M1 => zQ 5 23 L (zpush r st) M1 Q) := zq_callV (n := 40) (j := 6) (b := false) (As := [.ref r1, .int x1, .int x2]) (by decide +kernel) (by decide +kernel) ⟨by decide +kernel, by decide +kernel, rfl, by decide +kernel, by decide +kernel, Nat.le_of_ble_eq_true rfl⟩ rfl
theorem q5_23i : zQ 5 23 [v0, v1, v2, .int y, v4, v5] (.int x :: st) M Q ↔ zQ 5 25 [v0, v1, v2, .int y, .int x, v5] st M Q := zq_stI (i := .istore 4) (k := 4) (by decide +kernel) rfl (Nat.le_of_ble_eq_true rfl) rfl rfl
theorem q5_23r : zQ 5 23 [v0, v1, v2, .ref r1, v4, v5] (.int x :: st) M Q ↔ zQ 5 25 [v0, v1, v2, .ref r1, .int x, v5] st M Q := zq_stI (i := .istore 4) (k := 4) (by decide +kernel) rfl (Nat.le_of_ble_eq_true rfl) rfl rfl
theorem q5_23n : zQ 5 23 [v0, v1, v2, .null, v4, v5] (.int x :: st) M Q ↔ zQ 5 25 [v0, v1, v2, .null, .int x, v5] st M Q := zq_stI (i := .istore 4) (k := 4) (by decide +kernel) rfl (Nat.le_of_ble_eq_true rfl) rfl rfl
theorem q5_25 : zQ 5 25 [v0, v1, v2, v3, .int x, v5] st M Q ↔ zQ 5 27 [v0, v1, v2, v3, .int x, v5] (.int x :: st) M Q := zq_go (i := .iload 4) (by decide +kernel) rfl
theorem q5_27 : zQ 5 27 L st M Q ↔ zQ 5 29 L (.int (-9) :: st) M Q := zq_bip (n := (-9)) (by decide +kernel) (by decide +kernel) rfl
theorem q5_29 : zQ 5 29 L (.int y :: .int x :: st) M Q ↔ (x = y → zQ 5 32 L st M Q) ∧ (¬ x = y → zQ 5 35 L st M Q) := zq_bn (i := .if_icmp .ne 6) (off := 6) (by decide +kernel) rfl (by decide) rfl
theorem q5_32 : zQ 5 32 L st M Q ↔ zQ 5 34 L (.int (-9) :: st) M Q := zq_bip (n := (-9)) (by decide +kernel) (by decide +kernel) rfl
theorem q5_34 : zQ 5 34 L [.int x] M Q ↔ Q (zI x) M := zq_reI (by decide +kernel) (by decide +kernel)
theorem q5_35 : zQ 5 35 [v0, v1, v2, .int x, v4, v5] st M Q ↔ zQ 5 36 [v0, v1, v2, .int x, v4, v5] (.int x :: st) M Q := zq_go (i := .iload_n 3) (by decide +kernel) rfl
theorem q5_36 : zQ 5 36 L st M Q ↔ zQ 5 37 L (.int 1 :: st) M Q := zq_con (n := 1) (by decide +kernel) (by decide +kernel) rfl
theorem q5_37 : zQ 5 37 [v0, v1, v2, v3, .int x, v5] st M Q ↔ zQ 5 39 [v0, v1, v2, v3, .int x, v5] (.int x :: st) M Q := zq_go (i := .iload 4) (by decide +kernel) rfl
theorem q5_39 : zQ 5 39 L (.int y :: .int x :: st) M Q ↔ zQ 5 40 L (.int (x <<< (y &&& 31)) :: st) M Q := zq_go (i := .ishl) (by decide +kernel) rfl
theorem q5_40 : zQ 5 40 L (.int y :: .int x :: st) M Q ↔ zQ 5 41 L (.int (x ||| y) :: st) M Q := zq_go (i := .ior) (by decide +kernel) rfl
theorem q5_41i : zQ 5 41 [v0, v1, .int y, v3, v4, v5] (.int x :: st) M Q ↔ zQ 5 42 [v0, v1, .int y, .int x, v4, v5] st M Q := zq_stI (i := .istore_n 3) (k := 3) (by decide +kernel) rfl (Nat.le_of_ble_eq_true rfl) rfl rfl
theorem q5_41r : zQ 5 41 [v0, v1, .ref r1, v3, v4, v5] (.int x :: st) M Q ↔ zQ 5 42 [v0, v1, .ref r1, .int x, v4, v5] st M Q := zq_stI (i := .istore_n 3) (k := 3) (by decide +kernel) rfl (Nat.le_of_ble_eq_true rfl) rfl rfl
theorem q5_41n : zQ 5 41 [v0, v1, .null, v3, v4, v5] (.int x :: st) M Q ↔ zQ 5 42 [v0, v1, .null, .int x, v4, v5] st M Q := zq_stI (i := .istore_n 3) (k := 3) (by decide +kernel) rfl (Nat.le_of_ble_eq_true rfl) rfl rfl
theorem q5_42i : zQ 5 42 [v0, v1, v2, v3, .int y, .int x] st M Q ↔ zQ 5 45 [v0, v1, v2, v3, .int y, .int (x + 1)] st M Q := zq_inc (k := 5) (n := 1) (x := x) (v := 1) (by decide +kernel) (by decide +kernel) rfl rfl rfl rfl
theorem q5_42r : zQ 5 42 [v0, v1, v2, v3, .ref r1, .int x] st M Q ↔ zQ 5 45 [v0, v1, v2, v3, .ref r1, .int (x + 1)] st M Q := zq_inc (k := 5) (n := 1) (x := x) (v := 1) (by decide +kernel) (by decide +kernel) rfl rfl rfl rfl
theorem q5_42n : zQ 5 42 [v0, v1, v2, v3, .null, .int x] st M Q ↔ zQ 5 45 [v0, v1, v2, v3, .null, .int (x + 1)] st M Q := zq_inc (k := 5) (n := 1) (x := x) (v := 1) (by decide +kernel) (by decide +kernel) rfl rfl rfl rfl
theorem q5_45 : zQ 5 45 L st M Q ↔ zQ 5 9 L st M Q := zq_jmp (off := (-36)) (by decide +kernel) (by decide)
theorem q5_48 : zQ 5 48 [v0, v1, v2, v3, .int x, v5] st M Q ↔ zQ 5 50 [v0, v1, v2, v3, .int x, v5] (.int x :: st) M Q := zq_go (i := .iload 4) (by decide +kernel) rfl
theorem q5_50 : zQ 5 50 L [.int x] M Q ↔ Q (zI x) M := zq_reI (by decide +kernel) (by decide +kernel)
-- 6 SandKeepers$Seating.firstOfMost(LSandKeepers$Town;II)I
theorem q6_0 : zQ 6 0 L st M Q ↔ zQ 6 1 L (.int 0 :: st) M Q := zq_con (n := 0) (by decide +kernel) (by decide +kernel) rfl
theorem q6_1i : zQ 6 1 [v0, v1, v2, .int y, v4, v5] (.int x :: st) M Q ↔ zQ 6 3 [v0, v1, v2, .int y, .int x, v5] st M Q := zq_stI (i := .istore 4) (k := 4) (by decide +kernel) rfl (Nat.le_of_ble_eq_true rfl) rfl rfl
theorem q6_1r : zQ 6 1 [v0, v1, v2, .ref r1, v4, v5] (.int x :: st) M Q ↔ zQ 6 3 [v0, v1, v2, .ref r1, .int x, v5] st M Q := zq_stI (i := .istore 4) (k := 4) (by decide +kernel) rfl (Nat.le_of_ble_eq_true rfl) rfl rfl
theorem q6_1n : zQ 6 1 [v0, v1, v2, .null, v4, v5] (.int x :: st) M Q ↔ zQ 6 3 [v0, v1, v2, .null, .int x, v5] st M Q := zq_stI (i := .istore 4) (k := 4) (by decide +kernel) rfl (Nat.le_of_ble_eq_true rfl) rfl rfl
theorem q6_3 : zQ 6 3 [v0, v1, v2, v3, .int x, v5] st M Q ↔ zQ 6 5 [v0, v1, v2, v3, .int x, v5] (.int x :: st) M Q := zq_go (i := .iload 4) (by decide +kernel) rfl
theorem q6_5 : zQ 6 5 [v0, .ref a, v2, v3, v4, v5] st M Q ↔ zQ 6 6 [v0, .ref a, v2, v3, v4, v5] (.ref a :: st) M Q := zq_go (i := .aload_n 1) (by decide +kernel) rfl
theorem q6_6 : zQ 6 6 L (.ref a :: st) M Q ↔ (a < zNC ∧ zk a = 4) ∧ zQ 6 9 L (zfv a 7 M :: st) M Q := zq_getf (n := 15) (b := true) (by decide +kernel) (by decide +kernel)
theorem q6_9 : zQ 6 9 L (.int y :: .int x :: st) M Q ↔ (y ≤ x → zQ 6 49 L st M Q) ∧ (¬ y ≤ x → zQ 6 12 L st M Q) := zq_br (i := .if_icmp .ge 40) (off := 40) (by decide +kernel) rfl (by decide) rfl
theorem q6_12 : zQ 6 12 [.ref a, v1, v2, v3, v4, v5] st M Q ↔ zQ 6 13 [.ref a, v1, v2, v3, v4, v5] (.ref a :: st) M Q := zq_go (i := .aload_n 0) (by decide +kernel) rfl
theorem q6_13 : zQ 6 13 [v0, .ref a, v2, v3, v4, v5] st M Q ↔ zQ 6 14 [v0, .ref a, v2, v3, v4, v5] (.ref a :: st) M Q := zq_go (i := .aload_n 1) (by decide +kernel) rfl
theorem q6_14 : zQ 6 14 [v0, v1, .int x, v3, v4, v5] st M Q ↔ zQ 6 15 [v0, v1, .int x, v3, v4, v5] (.int x :: st) M Q := zq_go (i := .iload_n 2) (by decide +kernel) rfl
theorem q6_15 : zQ 6 15 [v0, v1, v2, v3, .int x, v5] st M Q ↔ zQ 6 17 [v0, v1, v2, v3, .int x, v5] (.int x :: st) M Q := zq_go (i := .iload 4) (by decide +kernel) rfl
theorem q6_17 : zQ 6 17 [v0, v1, v2, .int x, v4, v5] st M Q ↔ zQ 6 18 [v0, v1, v2, .int x, v4, v5] (.int x :: st) M Q := zq_go (i := .iload_n 3) (by decide +kernel) rfl
theorem q6_18 : zQ 6 18 L (.int x3 :: .int x2 :: .int x1 :: .ref r1 :: .ref a :: st) M Q ↔ (zcs st ≤ 8 ∧ a < zNC ∧ zk a = 1) ∧ zQ 4 0 [.ref a, .ref r1, .int x1, .int x2, .int x3, .null] [] M (fun r M1 => zQ 6 21 L (zpush r st) M1 Q) := zq_callV (n := 27) (j := 4) (b := false) (As := [.ref r1, .int x1, .int x2, .int x3]) (by decide +kernel) (by decide +kernel) ⟨by decide +kernel, by decide +kernel, rfl, by decide +kernel, by decide +kernel, Nat.le_of_ble_eq_true rfl⟩ rfl
theorem q6_21i : zQ 6 21 [v0, v1, v2, v3, .int y, v5] (.int x :: st) M Q ↔ zQ 6 23 [v0, v1, v2, v3, .int y, .int x] st M Q := zq_stI (i := .istore 5) (k := 5) (by decide +kernel) rfl (Nat.le_of_ble_eq_true rfl) rfl rfl
theorem q6_21r : zQ 6 21 [v0, v1, v2, v3, .ref r1, v5] (.int x :: st) M Q ↔ zQ 6 23 [v0, v1, v2, v3, .ref r1, .int x] st M Q := zq_stI (i := .istore 5) (k := 5) (by decide +kernel) rfl (Nat.le_of_ble_eq_true rfl) rfl rfl
theorem q6_21n : zQ 6 21 [v0, v1, v2, v3, .null, v5] (.int x :: st) M Q ↔ zQ 6 23 [v0, v1, v2, v3, .null, .int x] st M Q := zq_stI (i := .istore 5) (k := 5) (by decide +kernel) rfl (Nat.le_of_ble_eq_true rfl) rfl rfl
theorem q6_23 : zQ 6 23 [v0, v1, v2, v3, v4, .int x] st M Q ↔ zQ 6 25 [v0, v1, v2, v3, v4, .int x] (.int x :: st) M Q := zq_go (i := .iload 5) (by decide +kernel) rfl
theorem q6_25 : zQ 6 25 L st M Q ↔ zQ 6 26 L (.int (-1) :: st) M Q := zq_con (n := (-1)) (by decide +kernel) (by decide +kernel) rfl
theorem q6_26 : zQ 6 26 L (.int y :: .int x :: st) M Q ↔ (x = y → zQ 6 43 L st M Q) ∧ (¬ x = y → zQ 6 29 L st M Q) := zq_br (i := .if_icmp .eq 17) (off := 17) (by decide +kernel) rfl (by decide) rfl
theorem q6_29 : zQ 6 29 [v0, v1, v2, v3, v4, .int x] st M Q ↔ zQ 6 31 [v0, v1, v2, v3, v4, .int x] (.int x :: st) M Q := zq_go (i := .iload 5) (by decide +kernel) rfl
theorem q6_31 : zQ 6 31 [.ref a, v1, v2, v3, v4, v5] st M Q ↔ zQ 6 32 [.ref a, v1, v2, v3, v4, v5] (.ref a :: st) M Q := zq_go (i := .aload_n 0) (by decide +kernel) rfl
theorem q6_32 : zQ 6 32 L (.ref a :: st) M Q ↔ (a < zNC ∧ zk a = 1) ∧ zQ 6 35 L (zfv a 0 M :: st) M Q := zq_getf (n := 9) (b := false) (by decide +kernel) (by decide +kernel)
theorem q6_35 : zQ 6 35 [v0, v1, v2, .int x, v4, v5] st M Q ↔ zQ 6 36 [v0, v1, v2, .int x, v4, v5] (.int x :: st) M Q := zq_go (i := .iload_n 3) (by decide +kernel) rfl
theorem q6_36 : zQ 6 36 L (.int x :: .ref a :: st) M Q ↔ (a < zNC ∧ zk a = 7 ∧ zin x (zn a) = true) ∧ zQ 6 37 L (.int (M a x.toNatClampNeg) :: st) M Q := zq_iald (by decide +kernel)
theorem q6_37 : zQ 6 37 L (.int y :: .int x :: st) M Q ↔ (x = y → zQ 6 40 L st M Q) ∧ (¬ x = y → zQ 6 43 L st M Q) := zq_bn (i := .if_icmp .ne 6) (off := 6) (by decide +kernel) rfl (by decide) rfl
theorem q6_40 : zQ 6 40 [v0, v1, v2, v3, .int x, v5] st M Q ↔ zQ 6 42 [v0, v1, v2, v3, .int x, v5] (.int x :: st) M Q := zq_go (i := .iload 4) (by decide +kernel) rfl
theorem q6_42 : zQ 6 42 L [.int x] M Q ↔ Q (zI x) M := zq_reI (by decide +kernel) (by decide +kernel)
theorem q6_43i : zQ 6 43 [v0, v1, v2, .int y, .int x, v5] st M Q ↔ zQ 6 46 [v0, v1, v2, .int y, .int (x + 1), v5] st M Q := zq_inc (k := 4) (n := 1) (x := x) (v := 1) (by decide +kernel) (by decide +kernel) rfl rfl rfl rfl
theorem q6_43r : zQ 6 43 [v0, v1, v2, .ref r1, .int x, v5] st M Q ↔ zQ 6 46 [v0, v1, v2, .ref r1, .int (x + 1), v5] st M Q := zq_inc (k := 4) (n := 1) (x := x) (v := 1) (by decide +kernel) (by decide +kernel) rfl rfl rfl rfl
theorem q6_43n : zQ 6 43 [v0, v1, v2, .null, .int x, v5] st M Q ↔ zQ 6 46 [v0, v1, v2, .null, .int (x + 1), v5] st M Q := zq_inc (k := 4) (n := 1) (x := x) (v := 1) (by decide +kernel) (by decide +kernel) rfl rfl rfl rfl
theorem q6_46 : zQ 6 46 L st M Q ↔ zQ 6 3 L st M Q := zq_jmp (off := (-43)) (by decide +kernel) (by decide)
theorem q6_49 : zQ 6 49 L st M Q ↔ zQ 6 51 L (.int (-9) :: st) M Q := zq_bip (n := (-9)) (by decide +kernel) (by decide +kernel) rfl
theorem q6_51 : zQ 6 51 L [.int x] M Q ↔ Q (zI x) M := zq_reI (by decide +kernel) (by decide +kernel)
-- 7 SandKeepers$Sheet.begin(II)V
theorem q7_0 : zQ 7 0 [.ref a, v1, v2, v3] st M Q ↔ zQ 7 1 [.ref a, v1, v2, v3] (.ref a :: st) M Q := zq_go (i := .aload_n 0) (by decide +kernel) rfl
theorem q7_1 : zQ 7 1 L st M Q ↔ zQ 7 2 L (.int 1 :: st) M Q := zq_con (n := 1) (by decide +kernel) (by decide +kernel) rfl
theorem q7_2 : zQ 7 2 L (.int x :: .ref a :: st) M Q ↔ (a < zNC ∧ zk a = 2 ∧ zf a 1 = none ∧ (x = 0 ∨ x = 1)) ∧ zQ 7 5 L st (zup M a 1 x) Q := zq_putz (n := 15) (b := false) (by decide +kernel) (by decide +kernel) (by decide +kernel)
theorem q7_5 : zQ 7 5 [.ref a, v1, v2, v3] st M Q ↔ zQ 7 6 [.ref a, v1, v2, v3] (.ref a :: st) M Q := zq_go (i := .aload_n 0) (by decide +kernel) rfl
theorem q7_6 : zQ 7 6 [v0, .int x, v2, v3] st M Q ↔ zQ 7 7 [v0, .int x, v2, v3] (.int x :: st) M Q := zq_go (i := .iload_n 1) (by decide +kernel) rfl
theorem q7_7 : zQ 7 7 L (.int x :: .ref a :: st) M Q ↔ (a < zNC ∧ zk a = 2 ∧ zf a 2 = none) ∧ zQ 7 10 L st (zup M a 2 x) Q := zq_putf (n := 19) (b := false) (by decide +kernel) (by decide +kernel) (by decide +kernel)
theorem q7_10 : zQ 7 10 [.ref a, v1, v2, v3] st M Q ↔ zQ 7 11 [.ref a, v1, v2, v3] (.ref a :: st) M Q := zq_go (i := .aload_n 0) (by decide +kernel) rfl
theorem q7_11 : zQ 7 11 [v0, v1, .int x, v3] st M Q ↔ zQ 7 12 [v0, v1, .int x, v3] (.int x :: st) M Q := zq_go (i := .iload_n 2) (by decide +kernel) rfl
theorem q7_12 : zQ 7 12 L (.int x :: .ref a :: st) M Q ↔ (a < zNC ∧ zk a = 2 ∧ zf a 3 = none) ∧ zQ 7 15 L st (zup M a 3 x) Q := zq_putf (n := 23) (b := false) (by decide +kernel) (by decide +kernel) (by decide +kernel)
theorem q7_15 : zQ 7 15 L st M Q ↔ zQ 7 16 L (.int 0 :: st) M Q := zq_con (n := 0) (by decide +kernel) (by decide +kernel) rfl
theorem q7_16i : zQ 7 16 [v0, v1, .int y, v3] (.int x :: st) M Q ↔ zQ 7 17 [v0, v1, .int y, .int x] st M Q := zq_stI (i := .istore_n 3) (k := 3) (by decide +kernel) rfl (Nat.le_of_ble_eq_true rfl) rfl rfl
theorem q7_16r : zQ 7 16 [v0, v1, .ref r1, v3] (.int x :: st) M Q ↔ zQ 7 17 [v0, v1, .ref r1, .int x] st M Q := zq_stI (i := .istore_n 3) (k := 3) (by decide +kernel) rfl (Nat.le_of_ble_eq_true rfl) rfl rfl
theorem q7_16n : zQ 7 16 [v0, v1, .null, v3] (.int x :: st) M Q ↔ zQ 7 17 [v0, v1, .null, .int x] st M Q := zq_stI (i := .istore_n 3) (k := 3) (by decide +kernel) rfl (Nat.le_of_ble_eq_true rfl) rfl rfl
theorem q7_17 : zQ 7 17 [v0, v1, v2, .int x] st M Q ↔ zQ 7 18 [v0, v1, v2, .int x] (.int x :: st) M Q := zq_go (i := .iload_n 3) (by decide +kernel) rfl
theorem q7_18 : zQ 7 18 L st M Q ↔ zQ 7 20 L (.int 60 :: st) M Q := zq_bip (n := 60) (by decide +kernel) (by decide +kernel) rfl
theorem q7_20 : zQ 7 20 L (.int y :: .int x :: st) M Q ↔ (y ≤ x → zQ 7 36 L st M Q) ∧ (¬ y ≤ x → zQ 7 23 L st M Q) := zq_br (i := .if_icmp .ge 16) (off := 16) (by decide +kernel) rfl (by decide) rfl
theorem q7_23 : zQ 7 23 [.ref a, v1, v2, v3] st M Q ↔ zQ 7 24 [.ref a, v1, v2, v3] (.ref a :: st) M Q := zq_go (i := .aload_n 0) (by decide +kernel) rfl
theorem q7_24 : zQ 7 24 L (.ref a :: st) M Q ↔ (a < zNC ∧ zk a = 2) ∧ zQ 7 27 L (zfv a 0 M :: st) M Q := zq_getf (n := 9) (b := false) (by decide +kernel) (by decide +kernel)
theorem q7_27 : zQ 7 27 [v0, v1, v2, .int x] st M Q ↔ zQ 7 28 [v0, v1, v2, .int x] (.int x :: st) M Q := zq_go (i := .iload_n 3) (by decide +kernel) rfl
theorem q7_28 : zQ 7 28 L st M Q ↔ zQ 7 29 L (.int 0 :: st) M Q := zq_con (n := 0) (by decide +kernel) (by decide +kernel) rfl
theorem q7_29 : zQ 7 29 L (.int x :: .int y :: .ref a :: st) M Q ↔ (a < zNC ∧ zk a = 7 ∧ zin y (zn a) = true) ∧ zQ 7 30 L st (zup M a y.toNatClampNeg x) Q := zq_iast (by decide +kernel)
theorem q7_30i : zQ 7 30 [v0, v1, .int y, .int x] st M Q ↔ zQ 7 33 [v0, v1, .int y, .int (x + 1)] st M Q := zq_inc (k := 3) (n := 1) (x := x) (v := 1) (by decide +kernel) (by decide +kernel) rfl rfl rfl rfl
theorem q7_30r : zQ 7 30 [v0, v1, .ref r1, .int x] st M Q ↔ zQ 7 33 [v0, v1, .ref r1, .int (x + 1)] st M Q := zq_inc (k := 3) (n := 1) (x := x) (v := 1) (by decide +kernel) (by decide +kernel) rfl rfl rfl rfl
theorem q7_30n : zQ 7 30 [v0, v1, .null, .int x] st M Q ↔ zQ 7 33 [v0, v1, .null, .int (x + 1)] st M Q := zq_inc (k := 3) (n := 1) (x := x) (v := 1) (by decide +kernel) (by decide +kernel) rfl rfl rfl rfl
theorem q7_33 : zQ 7 33 L st M Q ↔ zQ 7 17 L st M Q := zq_jmp (off := (-16)) (by decide +kernel) (by decide)
theorem q7_36 : zQ 7 36 L [] M Q ↔ Q none M := zq_reV (by decide +kernel) (by decide +kernel)
-- 8 SandKeepers$Sheet.cutToLane(I)I
theorem q8_0 : zQ 8 0 [.ref a, v1] st M Q ↔ zQ 8 1 [.ref a, v1] (.ref a :: st) M Q := zq_go (i := .aload_n 0) (by decide +kernel) rfl
theorem q8_1 : zQ 8 1 L (.ref a :: st) M Q ↔ (a < zNC ∧ zk a = 2) ∧ zQ 8 4 L (zfv a 2 M :: st) M Q := zq_getf (n := 19) (b := false) (by decide +kernel) (by decide +kernel)
theorem q8_32 : zQ 8 32 [v0, .int x] st M Q ↔ zQ 8 33 [v0, .int x] (.int x :: st) M Q := zq_go (i := .iload_n 1) (by decide +kernel) rfl
theorem q8_33 : zQ 8 33 L (.int x :: st) M Q ↔ zQ 8 34 L (.int x.toInt8.toInt32 :: st) M Q := zq_go (i := .i2b) (by decide +kernel) rfl
theorem q8_34 : zQ 8 34 L [.int x] M Q ↔ Q (zI x) M := zq_reI (by decide +kernel) (by decide +kernel)
theorem q8_35 : zQ 8 35 [v0, .int x] st M Q ↔ zQ 8 36 [v0, .int x] (.int x :: st) M Q := zq_go (i := .iload_n 1) (by decide +kernel) rfl
theorem q8_36 : zQ 8 36 L (.int x :: st) M Q ↔ zQ 8 37 L (.int x.toInt16.toInt32 :: st) M Q := zq_go (i := .i2s) (by decide +kernel) rfl
theorem q8_37 : zQ 8 37 L [.int x] M Q ↔ Q (zI x) M := zq_reI (by decide +kernel) (by decide +kernel)
theorem q8_38 : zQ 8 38 [v0, .int x] st M Q ↔ zQ 8 39 [v0, .int x] (.int x :: st) M Q := zq_go (i := .iload_n 1) (by decide +kernel) rfl
theorem q8_39 : zQ 8 39 L [.int x] M Q ↔ Q (zI x) M := zq_reI (by decide +kernel) (by decide +kernel)
-- 9 SandKeepers$Sheet.hasCells(II)Z
theorem q9_0 : zQ 9 0 [v0, .int x, v2] st M Q ↔ zQ 9 1 [v0, .int x, v2] (.int x :: st) M Q := zq_go (i := .iload_n 1) (by decide +kernel) rfl
theorem q9_1 : zQ 9 1 L (.int x :: st) M Q ↔ (x < 0 → zQ 9 26 L st M Q) ∧ (¬ x < 0 → zQ 9 4 L st M Q) := zq_br (i := .ifCond .lt 25) (off := 25) (by decide +kernel) rfl (by decide) rfl
theorem q9_4 : zQ 9 4 [v0, .int x, v2] st M Q ↔ zQ 9 5 [v0, .int x, v2] (.int x :: st) M Q := zq_go (i := .iload_n 1) (by decide +kernel) rfl
theorem q9_5 : zQ 9 5 [.ref a, v1, v2] st M Q ↔ zQ 9 6 [.ref a, v1, v2] (.ref a :: st) M Q := zq_go (i := .aload_n 0) (by decide +kernel) rfl
theorem q9_6 : zQ 9 6 L (.ref a :: st) M Q ↔ (a < zNC ∧ zk a = 2) ∧ zQ 9 9 L (zfv a 3 M :: st) M Q := zq_getf (n := 23) (b := false) (by decide +kernel) (by decide +kernel)
theorem q9_9 : zQ 9 9 L (.int y :: .int x :: st) M Q ↔ (y < x → zQ 9 26 L st M Q) ∧ (¬ y < x → zQ 9 12 L st M Q) := zq_br (i := .if_icmp .gt 17) (off := 17) (by decide +kernel) rfl (by decide) rfl
theorem q9_12 : zQ 9 12 [v0, v1, .int x] st M Q ↔ zQ 9 13 [v0, v1, .int x] (.int x :: st) M Q := zq_go (i := .iload_n 2) (by decide +kernel) rfl
theorem q9_13 : zQ 9 13 [.ref a, v1, v2] st M Q ↔ zQ 9 14 [.ref a, v1, v2] (.ref a :: st) M Q := zq_go (i := .aload_n 0) (by decide +kernel) rfl
theorem q9_14 : zQ 9 14 L (.ref a :: st) M Q ↔ (a < zNC ∧ zk a = 2) ∧ zQ 9 17 L (zfv a 3 M :: st) M Q := zq_getf (n := 23) (b := false) (by decide +kernel) (by decide +kernel)
theorem q9_17 : zQ 9 17 [v0, .int x, v2] st M Q ↔ zQ 9 18 [v0, .int x, v2] (.int x :: st) M Q := zq_go (i := .iload_n 1) (by decide +kernel) rfl
theorem q9_18 : zQ 9 18 L (.int y :: .int x :: st) M Q ↔ zQ 9 19 L (.int (x - y) :: st) M Q := zq_go (i := .isub) (by decide +kernel) rfl
theorem q9_19 : zQ 9 19 L (.int y :: .int x :: st) M Q ↔ (y < x → zQ 9 26 L st M Q) ∧ (¬ y < x → zQ 9 22 L st M Q) := zq_br (i := .if_icmp .gt 7) (off := 7) (by decide +kernel) rfl (by decide) rfl
theorem q9_22 : zQ 9 22 L st M Q ↔ zQ 9 23 L (.int 1 :: st) M Q := zq_con (n := 1) (by decide +kernel) (by decide +kernel) rfl
theorem q9_23 : zQ 9 23 L st M Q ↔ zQ 9 27 L st M Q := zq_jmp (off := 4) (by decide +kernel) (by decide)
theorem q9_26 : zQ 9 26 L st M Q ↔ zQ 9 27 L (.int 0 :: st) M Q := zq_con (n := 0) (by decide +kernel) (by decide +kernel) rfl
theorem q9_27 : zQ 9 27 L [.int x] M Q ↔ (x = 0 ∨ x = 1) ∧ Q (zI x) M := zq_reZ (by decide +kernel) (by decide +kernel)
-- 10 SandKeepers$Sheet.faultOfRow(I)I
theorem q10_0 : zQ 10 0 [.ref a, v1] st M Q ↔ zQ 10 1 [.ref a, v1] (.ref a :: st) M Q := zq_go (i := .aload_n 0) (by decide +kernel) rfl
theorem q10_1 : zQ 10 1 L (.ref a :: st) M Q ↔ (a < zNC ∧ zk a = 2) ∧ zQ 10 4 L (zfv a 1 M :: st) M Q := zq_getf (n := 15) (b := false) (by decide +kernel) (by decide +kernel)
theorem q10_4 : zQ 10 4 L (.int x :: st) M Q ↔ (x = 0 → zQ 10 7 L st M Q) ∧ (¬ x = 0 → zQ 10 9 L st M Q) := zq_bn (i := .ifCond .ne 5) (off := 5) (by decide +kernel) rfl (by decide) rfl
theorem q10_7 : zQ 10 7 L st M Q ↔ zQ 10 8 L (.int 1 :: st) M Q := zq_con (n := 1) (by decide +kernel) (by decide +kernel) rfl
theorem q10_8 : zQ 10 8 L [.int x] M Q ↔ Q (zI x) M := zq_reI (by decide +kernel) (by decide +kernel)
theorem q10_9 : zQ 10 9 [.ref a, v1] st M Q ↔ zQ 10 10 [.ref a, v1] (.ref a :: st) M Q := zq_go (i := .aload_n 0) (by decide +kernel) rfl
theorem q10_10 : zQ 10 10 L (.ref a :: st) M Q ↔ (a < zNC ∧ zk a = 2) ∧ zQ 10 13 L (zfv a 2 M :: st) M Q := zq_getf (n := 19) (b := false) (by decide +kernel) (by decide +kernel)
theorem q10_13 : zQ 10 13 [v0, .int x] st M Q ↔ zQ 10 14 [v0, .int x] (.int x :: st) M Q := zq_go (i := .iload_n 1) (by decide +kernel) rfl
theorem q10_14 : zQ 10 14 L (.int y :: .int x :: st) M Q ↔ (x = y → zQ 10 17 L st M Q) ∧ (¬ x = y → zQ 10 21 L st M Q) := zq_bn (i := .if_icmp .ne 7) (off := 7) (by decide +kernel) rfl (by decide) rfl
theorem q10_17 : zQ 10 17 L st M Q ↔ zQ 10 18 L (.int 0 :: st) M Q := zq_con (n := 0) (by decide +kernel) (by decide +kernel) rfl
theorem q10_18 : zQ 10 18 L st M Q ↔ zQ 10 22 L st M Q := zq_jmp (off := 4) (by decide +kernel) (by decide)
theorem q10_21 : zQ 10 21 L st M Q ↔ zQ 10 22 L (.int 2 :: st) M Q := zq_con (n := 2) (by decide +kernel) (by decide +kernel) rfl
theorem q10_22 : zQ 10 22 L [.int x] M Q ↔ Q (zI x) M := zq_reI (by decide +kernel) (by decide +kernel)
-- 11 SandKeepers$Sheet.faultOfCells(III)I
theorem q11_0 : zQ 11 0 [.ref a, v1, v2, v3, v4] st M Q ↔ zQ 11 1 [.ref a, v1, v2, v3, v4] (.ref a :: st) M Q := zq_go (i := .aload_n 0) (by decide +kernel) rfl
theorem q11_1 : zQ 11 1 [v0, .int x, v2, v3, v4] st M Q ↔ zQ 11 2 [v0, .int x, v2, v3, v4] (.int x :: st) M Q := zq_go (i := .iload_n 1) (by decide +kernel) rfl
theorem q11_2 : zQ 11 2 L (.int x1 :: .ref a :: st) M Q ↔ (zcs st ≤ 8 ∧ a < zNC ∧ zk a = 2) ∧ zQ 10 0 [.ref a, .int x1] [] M (fun r M1 => zQ 11 5 L (zpush r st) M1 Q) := zq_callV (n := 26) (j := 10) (b := false) (As := [.int x1]) (by decide +kernel) (by decide +kernel) ⟨by decide +kernel, by decide +kernel, rfl, by decide +kernel, by decide +kernel, Nat.le_of_ble_eq_true rfl⟩ rfl
theorem q11_5i : zQ 11 5 [v0, v1, v2, .int y, v4] (.int x :: st) M Q ↔ zQ 11 7 [v0, v1, v2, .int y, .int x] st M Q := zq_stI (i := .istore 4) (k := 4) (by decide +kernel) rfl (Nat.le_of_ble_eq_true rfl) rfl rfl
theorem q11_5r : zQ 11 5 [v0, v1, v2, .ref r1, v4] (.int x :: st) M Q ↔ zQ 11 7 [v0, v1, v2, .ref r1, .int x] st M Q := zq_stI (i := .istore 4) (k := 4) (by decide +kernel) rfl (Nat.le_of_ble_eq_true rfl) rfl rfl
theorem q11_5n : zQ 11 5 [v0, v1, v2, .null, v4] (.int x :: st) M Q ↔ zQ 11 7 [v0, v1, v2, .null, .int x] st M Q := zq_stI (i := .istore 4) (k := 4) (by decide +kernel) rfl (Nat.le_of_ble_eq_true rfl) rfl rfl
theorem q11_7 : zQ 11 7 [v0, v1, v2, v3, .int x] st M Q ↔ zQ 11 9 [v0, v1, v2, v3, .int x] (.int x :: st) M Q := zq_go (i := .iload 4) (by decide +kernel) rfl
theorem q11_9 : zQ 11 9 L (.int x :: st) M Q ↔ (x = 0 → zQ 11 15 L st M Q) ∧ (¬ x = 0 → zQ 11 12 L st M Q) := zq_br (i := .ifCond .eq 6) (off := 6) (by decide +kernel) rfl (by decide) rfl
theorem q11_12 : zQ 11 12 [v0, v1, v2, v3, .int x] st M Q ↔ zQ 11 14 [v0, v1, v2, v3, .int x] (.int x :: st) M Q := zq_go (i := .iload 4) (by decide +kernel) rfl
theorem q11_14 : zQ 11 14 L [.int x] M Q ↔ Q (zI x) M := zq_reI (by decide +kernel) (by decide +kernel)
theorem q11_15 : zQ 11 15 [v0, v1, v2, .int x, v4] st M Q ↔ zQ 11 16 [v0, v1, v2, .int x, v4] (.int x :: st) M Q := zq_go (i := .iload_n 3) (by decide +kernel) rfl
theorem q11_16 : zQ 11 16 L (.int x :: st) M Q ↔ (0 ≤ x → zQ 11 21 L st M Q) ∧ (¬ 0 ≤ x → zQ 11 19 L st M Q) := zq_br (i := .ifCond .ge 5) (off := 5) (by decide +kernel) rfl (by decide) rfl
theorem q11_19 : zQ 11 19 L st M Q ↔ zQ 11 20 L (.int 4 :: st) M Q := zq_con (n := 4) (by decide +kernel) (by decide +kernel) rfl
theorem q11_20 : zQ 11 20 L [.int x] M Q ↔ Q (zI x) M := zq_reI (by decide +kernel) (by decide +kernel)
theorem q11_21 : zQ 11 21 [.ref a, v1, v2, v3, v4] st M Q ↔ zQ 11 22 [.ref a, v1, v2, v3, v4] (.ref a :: st) M Q := zq_go (i := .aload_n 0) (by decide +kernel) rfl
theorem q11_22 : zQ 11 22 [v0, v1, .int x, v3, v4] st M Q ↔ zQ 11 23 [v0, v1, .int x, v3, v4] (.int x :: st) M Q := zq_go (i := .iload_n 2) (by decide +kernel) rfl
theorem q11_23 : zQ 11 23 [v0, v1, v2, .int x, v4] st M Q ↔ zQ 11 24 [v0, v1, v2, .int x, v4] (.int x :: st) M Q := zq_go (i := .iload_n 3) (by decide +kernel) rfl
theorem q11_24 : zQ 11 24 L (.int x2 :: .int x1 :: .ref a :: st) M Q ↔ (zcs st ≤ 8 ∧ a < zNC ∧ zk a = 2) ∧ zQ 9 0 [.ref a, .int x1, .int x2] [] M (fun r M1 => zQ 11 27 L (zpush r st) M1 Q) := zq_callV (n := 30) (j := 9) (b := false) (As := [.int x1, .int x2]) (by decide +kernel) (by decide +kernel) ⟨by decide +kernel, by decide +kernel, rfl, by decide +kernel, by decide +kernel, Nat.le_of_ble_eq_true rfl⟩ rfl
theorem q11_27 : zQ 11 27 L (.int x :: st) M Q ↔ (x = 0 → zQ 11 34 L st M Q) ∧ (¬ x = 0 → zQ 11 30 L st M Q) := zq_br (i := .ifCond .eq 7) (off := 7) (by decide +kernel) rfl (by decide) rfl
theorem q11_30 : zQ 11 30 L st M Q ↔ zQ 11 31 L (.int 0 :: st) M Q := zq_con (n := 0) (by decide +kernel) (by decide +kernel) rfl
theorem q11_31 : zQ 11 31 L st M Q ↔ zQ 11 35 L st M Q := zq_jmp (off := 4) (by decide +kernel) (by decide)
theorem q11_34 : zQ 11 34 L st M Q ↔ zQ 11 35 L (.int 3 :: st) M Q := zq_con (n := 3) (by decide +kernel) (by decide +kernel) rfl
theorem q11_35 : zQ 11 35 L [.int x] M Q ↔ Q (zI x) M := zq_reI (by decide +kernel) (by decide +kernel)
-- 12 SandKeepers$Tale.play(LSandKeepers$Town;LSandKeepers$Sheet;II)I
theorem q12_0 : zQ 12 0 [.ref a, v1, v2, v3, v4, v5] st M Q ↔ zQ 12 1 [.ref a, v1, v2, v3, v4, v5] (.ref a :: st) M Q := zq_go (i := .aload_n 0) (by decide +kernel) rfl
theorem q12_1 : zQ 12 1 L (.ref a :: st) M Q ↔ (a < zNC ∧ zk a = 3) ∧ zQ 12 4 L (zfv a 0 M :: st) M Q := zq_getf (n := 12) (b := false) (by decide +kernel) (by decide +kernel)
theorem q12_4 : zQ 12 4 [v0, .ref a, v2, v3, v4, v5] st M Q ↔ zQ 12 5 [v0, .ref a, v2, v3, v4, v5] (.ref a :: st) M Q := zq_go (i := .aload_n 1) (by decide +kernel) rfl
theorem q12_5 : zQ 12 5 L (.ref r1 :: .ref a :: st) M Q ↔ (zcs st ≤ 8 ∧ a < zNC ∧ zk a = 4) ∧ zQ 18 0 [.ref a, .ref r1, .null] [] M (fun r M1 => zQ 12 8 L (zpush r st) M1 Q) := zq_callV (n := 22) (j := 18) (b := true) (As := [.ref r1]) (by decide +kernel) (by decide +kernel) ⟨by decide +kernel, by decide +kernel, rfl, by decide +kernel, by decide +kernel, Nat.le_of_ble_eq_true rfl⟩ rfl
theorem q12_8 : zQ 12 8 [.ref a, v1, v2, v3, v4, v5] st M Q ↔ zQ 12 9 [.ref a, v1, v2, v3, v4, v5] (.ref a :: st) M Q := zq_go (i := .aload_n 0) (by decide +kernel) rfl
theorem q12_9 : zQ 12 9 L st M Q ↔ zQ 12 10 L (.int 0 :: st) M Q := zq_con (n := 0) (by decide +kernel) (by decide +kernel) rfl
theorem q12_10 : zQ 12 10 L (.int x :: .ref a :: st) M Q ↔ (a < zNC ∧ zk a = 3 ∧ zf a 2 = none) ∧ zQ 12 13 L st (zup M a 2 x) Q := zq_putf (n := 26) (b := false) (by decide +kernel) (by decide +kernel) (by decide +kernel)
theorem q12_13 : zQ 12 13 L st M Q ↔ zQ 12 14 L (.int 0 :: st) M Q := zq_con (n := 0) (by decide +kernel) (by decide +kernel) rfl
theorem q12_14i : zQ 12 14 [v0, v1, v2, v3, .int y, v5] (.int x :: st) M Q ↔ zQ 12 16 [v0, v1, v2, v3, .int y, .int x] st M Q := zq_stI (i := .istore 5) (k := 5) (by decide +kernel) rfl (Nat.le_of_ble_eq_true rfl) rfl rfl
theorem q12_14r : zQ 12 14 [v0, v1, v2, v3, .ref r1, v5] (.int x :: st) M Q ↔ zQ 12 16 [v0, v1, v2, v3, .ref r1, .int x] st M Q := zq_stI (i := .istore 5) (k := 5) (by decide +kernel) rfl (Nat.le_of_ble_eq_true rfl) rfl rfl
theorem q12_14n : zQ 12 14 [v0, v1, v2, v3, .null, v5] (.int x :: st) M Q ↔ zQ 12 16 [v0, v1, v2, v3, .null, .int x] st M Q := zq_stI (i := .istore 5) (k := 5) (by decide +kernel) rfl (Nat.le_of_ble_eq_true rfl) rfl rfl
theorem q12_16 : zQ 12 16 [v0, v1, v2, v3, v4, .int x] st M Q ↔ zQ 12 18 [v0, v1, v2, v3, v4, .int x] (.int x :: st) M Q := zq_go (i := .iload 5) (by decide +kernel) rfl
theorem q12_18 : zQ 12 18 L st M Q ↔ zQ 12 20 L (.int 6 :: st) M Q := zq_bip (n := 6) (by decide +kernel) (by decide +kernel) rfl
theorem q12_20 : zQ 12 20 L (.int y :: .int x :: st) M Q ↔ (y ≤ x → zQ 12 38 L st M Q) ∧ (¬ y ≤ x → zQ 12 23 L st M Q) := zq_br (i := .if_icmp .ge 18) (off := 18) (by decide +kernel) rfl (by decide) rfl
theorem q12_23 : zQ 12 23 [.ref a, v1, v2, v3, v4, v5] st M Q ↔ zQ 12 24 [.ref a, v1, v2, v3, v4, v5] (.ref a :: st) M Q := zq_go (i := .aload_n 0) (by decide +kernel) rfl
theorem q12_24 : zQ 12 24 L (.ref a :: st) M Q ↔ (a < zNC ∧ zk a = 3) ∧ zQ 12 27 L (zfv a 1 M :: st) M Q := zq_getf (n := 18) (b := false) (by decide +kernel) (by decide +kernel)
theorem q12_27 : zQ 12 27 [v0, v1, v2, v3, v4, .int x] st M Q ↔ zQ 12 29 [v0, v1, v2, v3, v4, .int x] (.int x :: st) M Q := zq_go (i := .iload 5) (by decide +kernel) rfl
theorem q12_29 : zQ 12 29 L st M Q ↔ zQ 12 31 L (.int (-9) :: st) M Q := zq_bip (n := (-9)) (by decide +kernel) (by decide +kernel) rfl
theorem q12_31 : zQ 12 31 L (.int x :: .int y :: .ref a :: st) M Q ↔ (a < zNC ∧ zk a = 7 ∧ zin y (zn a) = true) ∧ zQ 12 32 L st (zup M a y.toNatClampNeg x) Q := zq_iast (by decide +kernel)
theorem q12_32i : zQ 12 32 [v0, v1, v2, v3, .int y, .int x] st M Q ↔ zQ 12 35 [v0, v1, v2, v3, .int y, .int (x + 1)] st M Q := zq_inc (k := 5) (n := 1) (x := x) (v := 1) (by decide +kernel) (by decide +kernel) rfl rfl rfl rfl
theorem q12_32r : zQ 12 32 [v0, v1, v2, v3, .ref r1, .int x] st M Q ↔ zQ 12 35 [v0, v1, v2, v3, .ref r1, .int (x + 1)] st M Q := zq_inc (k := 5) (n := 1) (x := x) (v := 1) (by decide +kernel) (by decide +kernel) rfl rfl rfl rfl
theorem q12_32n : zQ 12 32 [v0, v1, v2, v3, .null, .int x] st M Q ↔ zQ 12 35 [v0, v1, v2, v3, .null, .int (x + 1)] st M Q := zq_inc (k := 5) (n := 1) (x := x) (v := 1) (by decide +kernel) (by decide +kernel) rfl rfl rfl rfl
theorem q12_35 : zQ 12 35 L st M Q ↔ zQ 12 16 L st M Q := zq_jmp (off := (-19)) (by decide +kernel) (by decide)
theorem q12_38 : zQ 12 38 L st M Q ↔ zQ 12 39 L (.int 0 :: st) M Q := zq_con (n := 0) (by decide +kernel) (by decide +kernel) rfl
theorem q12_39i : zQ 12 39 [v0, v1, v2, v3, .int y, v5] (.int x :: st) M Q ↔ zQ 12 41 [v0, v1, v2, v3, .int y, .int x] st M Q := zq_stI (i := .istore 5) (k := 5) (by decide +kernel) rfl (Nat.le_of_ble_eq_true rfl) rfl rfl
theorem q12_39r : zQ 12 39 [v0, v1, v2, v3, .ref r1, v5] (.int x :: st) M Q ↔ zQ 12 41 [v0, v1, v2, v3, .ref r1, .int x] st M Q := zq_stI (i := .istore 5) (k := 5) (by decide +kernel) rfl (Nat.le_of_ble_eq_true rfl) rfl rfl
theorem q12_39n : zQ 12 39 [v0, v1, v2, v3, .null, v5] (.int x :: st) M Q ↔ zQ 12 41 [v0, v1, v2, v3, .null, .int x] st M Q := zq_stI (i := .istore 5) (k := 5) (by decide +kernel) rfl (Nat.le_of_ble_eq_true rfl) rfl rfl
theorem q12_41 : zQ 12 41 [v0, v1, v2, v3, v4, .int x] st M Q ↔ zQ 12 43 [v0, v1, v2, v3, v4, .int x] (.int x :: st) M Q := zq_go (i := .iload 5) (by decide +kernel) rfl
theorem q12_43 : zQ 12 43 [v0, v1, v2, v3, .int x, v5] st M Q ↔ zQ 12 45 [v0, v1, v2, v3, .int x, v5] (.int x :: st) M Q := zq_go (i := .iload 4) (by decide +kernel) rfl
theorem q12_45 : zQ 12 45 L (.int y :: .int x :: st) M Q ↔ (y ≤ x → zQ 12 88 L st M Q) ∧ (¬ y ≤ x → zQ 12 48 L st M Q) := zq_br (i := .if_icmp .ge 43) (off := 43) (by decide +kernel) rfl (by decide) rfl
theorem q12_48 : zQ 12 48 [.ref a, v1, v2, v3, v4, v5] st M Q ↔ zQ 12 49 [.ref a, v1, v2, v3, v4, v5] (.ref a :: st) M Q := zq_go (i := .aload_n 0) (by decide +kernel) rfl
theorem q12_49 : zQ 12 49 [v0, v1, .ref a, v3, v4, v5] st M Q ↔ zQ 12 50 [v0, v1, .ref a, v3, v4, v5] (.ref a :: st) M Q := zq_go (i := .aload_n 2) (by decide +kernel) rfl
theorem q12_50 : zQ 12 50 L (.ref a :: st) M Q ↔ (a < zNC ∧ zk a = 2) ∧ zQ 12 53 L (zfv a 0 M :: st) M Q := zq_getf (n := 30) (b := true) (by decide +kernel) (by decide +kernel)
theorem q12_53 : zQ 12 53 [v0, v1, v2, .int x, v4, v5] st M Q ↔ zQ 12 54 [v0, v1, v2, .int x, v4, v5] (.int x :: st) M Q := zq_go (i := .iload_n 3) (by decide +kernel) rfl
theorem q12_54 : zQ 12 54 L st M Q ↔ zQ 12 55 L (.int 2 :: st) M Q := zq_con (n := 2) (by decide +kernel) (by decide +kernel) rfl
theorem q12_55 : zQ 12 55 [v0, v1, v2, v3, v4, .int x] st M Q ↔ zQ 12 57 [v0, v1, v2, v3, v4, .int x] (.int x :: st) M Q := zq_go (i := .iload 5) (by decide +kernel) rfl
theorem q12_57 : zQ 12 57 L (.int y :: .int x :: st) M Q ↔ zQ 12 58 L (.int (x * y) :: st) M Q := zq_go (i := .imul) (by decide +kernel) rfl
theorem q12_58 : zQ 12 58 L (.int y :: .int x :: st) M Q ↔ zQ 12 59 L (.int (x + y) :: st) M Q := zq_go (i := .iadd) (by decide +kernel) rfl
theorem q12_59 : zQ 12 59 L (.int x :: .ref a :: st) M Q ↔ (a < zNC ∧ zk a = 7 ∧ zin x (zn a) = true) ∧ zQ 12 60 L (.int (M a x.toNatClampNeg) :: st) M Q := zq_iald (by decide +kernel)
theorem q12_60 : zQ 12 60 [v0, v1, .ref a, v3, v4, v5] st M Q ↔ zQ 12 61 [v0, v1, .ref a, v3, v4, v5] (.ref a :: st) M Q := zq_go (i := .aload_n 2) (by decide +kernel) rfl
theorem q12_61 : zQ 12 61 L (.ref a :: st) M Q ↔ (a < zNC ∧ zk a = 2) ∧ zQ 12 64 L (zfv a 0 M :: st) M Q := zq_getf (n := 30) (b := true) (by decide +kernel) (by decide +kernel)
theorem q12_64 : zQ 12 64 [v0, v1, v2, .int x, v4, v5] st M Q ↔ zQ 12 65 [v0, v1, v2, .int x, v4, v5] (.int x :: st) M Q := zq_go (i := .iload_n 3) (by decide +kernel) rfl
theorem q12_65 : zQ 12 65 L st M Q ↔ zQ 12 66 L (.int 2 :: st) M Q := zq_con (n := 2) (by decide +kernel) (by decide +kernel) rfl
theorem q12_66 : zQ 12 66 [v0, v1, v2, v3, v4, .int x] st M Q ↔ zQ 12 68 [v0, v1, v2, v3, v4, .int x] (.int x :: st) M Q := zq_go (i := .iload 5) (by decide +kernel) rfl
theorem q12_68 : zQ 12 68 L (.int y :: .int x :: st) M Q ↔ zQ 12 69 L (.int (x * y) :: st) M Q := zq_go (i := .imul) (by decide +kernel) rfl
theorem q12_69 : zQ 12 69 L (.int y :: .int x :: st) M Q ↔ zQ 12 70 L (.int (x + y) :: st) M Q := zq_go (i := .iadd) (by decide +kernel) rfl
theorem q12_70 : zQ 12 70 L st M Q ↔ zQ 12 71 L (.int 1 :: st) M Q := zq_con (n := 1) (by decide +kernel) (by decide +kernel) rfl
theorem q12_71 : zQ 12 71 L (.int y :: .int x :: st) M Q ↔ zQ 12 72 L (.int (x + y) :: st) M Q := zq_go (i := .iadd) (by decide +kernel) rfl
theorem q12_72 : zQ 12 72 L (.int x :: .ref a :: st) M Q ↔ (a < zNC ∧ zk a = 7 ∧ zin x (zn a) = true) ∧ zQ 12 73 L (.int (M a x.toNatClampNeg) :: st) M Q := zq_iald (by decide +kernel)
theorem q12_73 : zQ 12 73 L (.int x2 :: .int x1 :: .ref a :: st) M Q ↔ (zcs st ≤ 8 ∧ a < zNC ∧ zk a = 3) ∧ zQ 13 0 [.ref a, .int x1, .int x2, .null] [] M (fun r M1 => zQ 12 76 L (zpush r st) M1 Q) := zq_callV (n := 35) (j := 13) (b := false) (As := [.int x1, .int x2]) (by decide +kernel) (by decide +kernel) ⟨by decide +kernel, by decide +kernel, rfl, by decide +kernel, by decide +kernel, Nat.le_of_ble_eq_true rfl⟩ rfl
theorem q12_76 : zQ 12 76 L (.int x :: st) M Q ↔ (x = 0 → zQ 12 79 L st M Q) ∧ (¬ x = 0 → zQ 12 82 L st M Q) := zq_bn (i := .ifCond .ne 6) (off := 6) (by decide +kernel) rfl (by decide) rfl
theorem q12_79 : zQ 12 79 [v0, v1, v2, v3, v4, .int x] st M Q ↔ zQ 12 81 [v0, v1, v2, v3, v4, .int x] (.int x :: st) M Q := zq_go (i := .iload 5) (by decide +kernel) rfl
theorem q12_81 : zQ 12 81 L [.int x] M Q ↔ Q (zI x) M := zq_reI (by decide +kernel) (by decide +kernel)
theorem q12_82i : zQ 12 82 [v0, v1, v2, v3, .int y, .int x] st M Q ↔ zQ 12 85 [v0, v1, v2, v3, .int y, .int (x + 1)] st M Q := zq_inc (k := 5) (n := 1) (x := x) (v := 1) (by decide +kernel) (by decide +kernel) rfl rfl rfl rfl
theorem q12_82r : zQ 12 82 [v0, v1, v2, v3, .ref r1, .int x] st M Q ↔ zQ 12 85 [v0, v1, v2, v3, .ref r1, .int (x + 1)] st M Q := zq_inc (k := 5) (n := 1) (x := x) (v := 1) (by decide +kernel) (by decide +kernel) rfl rfl rfl rfl
theorem q12_82n : zQ 12 82 [v0, v1, v2, v3, .null, .int x] st M Q ↔ zQ 12 85 [v0, v1, v2, v3, .null, .int (x + 1)] st M Q := zq_inc (k := 5) (n := 1) (x := x) (v := 1) (by decide +kernel) (by decide +kernel) rfl rfl rfl rfl
theorem q12_85 : zQ 12 85 L st M Q ↔ zQ 12 41 L st M Q := zq_jmp (off := (-44)) (by decide +kernel) (by decide)
theorem q12_88 : zQ 12 88 L st M Q ↔ zQ 12 90 L (.int (-9) :: st) M Q := zq_bip (n := (-9)) (by decide +kernel) (by decide +kernel) rfl
theorem q12_90 : zQ 12 90 L [.int x] M Q ↔ Q (zI x) M := zq_reI (by decide +kernel) (by decide +kernel)
-- 13 SandKeepers$Tale.playPair(II)Z
theorem q13_0 : zQ 13 0 [v0, v1, .int x, v3] st M Q ↔ zQ 13 1 [v0, v1, .int x, v3] (.int x :: st) M Q := zq_go (i := .iload_n 2) (by decide +kernel) rfl
theorem q13_1 : zQ 13 1 L st M Q ↔ zQ 13 3 L (.int 9 :: st) M Q := zq_bip (n := 9) (by decide +kernel) (by decide +kernel) rfl
theorem q13_3 : zQ 13 3 L (.int y :: .int x :: st) M Q ↔ (x = y → zQ 13 6 L st M Q) ∧ (¬ x = y → zQ 13 12 L st M Q) := zq_bn (i := .if_icmp .ne 9) (off := 9) (by decide +kernel) rfl (by decide) rfl
theorem q13_6 : zQ 13 6 [.ref a, v1, v2, v3] st M Q ↔ zQ 13 7 [.ref a, v1, v2, v3] (.ref a :: st) M Q := zq_go (i := .aload_n 0) (by decide +kernel) rfl
theorem q13_7 : zQ 13 7 [v0, .int x, v2, v3] st M Q ↔ zQ 13 8 [v0, .int x, v2, v3] (.int x :: st) M Q := zq_go (i := .iload_n 1) (by decide +kernel) rfl
theorem q13_8 : zQ 13 8 L (.int x1 :: .ref a :: st) M Q ↔ (zcs st ≤ 8 ∧ a < zNC ∧ zk a = 3) ∧ zQ 14 0 [.ref a, .int x1, .null, .null] [] M (fun r M1 => zQ 13 11 L (zpush r st) M1 Q) := zq_callV (n := 39) (j := 14) (b := false) (As := [.int x1]) (by decide +kernel) (by decide +kernel) ⟨by decide +kernel, by decide +kernel, rfl, by decide +kernel, by decide +kernel, Nat.le_of_ble_eq_true rfl⟩ rfl
theorem q13_11 : zQ 13 11 L [.int x] M Q ↔ (x = 0 ∨ x = 1) ∧ Q (zI x) M := zq_reZ (by decide +kernel) (by decide +kernel)
theorem q13_12 : zQ 13 12 [.ref a, v1, v2, v3] st M Q ↔ zQ 13 13 [.ref a, v1, v2, v3] (.ref a :: st) M Q := zq_go (i := .aload_n 0) (by decide +kernel) rfl
theorem q13_13 : zQ 13 13 L (.ref a :: st) M Q ↔ (a < zNC ∧ zk a = 3) ∧ zQ 13 16 L (zfv a 0 M :: st) M Q := zq_getf (n := 12) (b := false) (by decide +kernel) (by decide +kernel)
theorem q13_16 : zQ 13 16 L (.ref a :: st) M Q ↔ (zcs st ≤ 8 ∧ a < zNC ∧ zk a = 4) ∧ zQ 27 0 [.ref a, .null, .null] [] M (fun r M1 => zQ 13 19 L (zpush r st) M1 Q) := zq_callV (n := 43) (j := 27) (b := true) (As := []) (by decide +kernel) (by decide +kernel) ⟨by decide +kernel, by decide +kernel, rfl, by decide +kernel, by decide +kernel, Nat.le_of_ble_eq_true rfl⟩ rfl
theorem q13_19i : zQ 13 19 [v0, v1, .int y, v3] (.int x :: st) M Q ↔ zQ 13 20 [v0, v1, .int y, .int x] st M Q := zq_stI (i := .istore_n 3) (k := 3) (by decide +kernel) rfl (Nat.le_of_ble_eq_true rfl) rfl rfl
theorem q13_19r : zQ 13 19 [v0, v1, .ref r1, v3] (.int x :: st) M Q ↔ zQ 13 20 [v0, v1, .ref r1, .int x] st M Q := zq_stI (i := .istore_n 3) (k := 3) (by decide +kernel) rfl (Nat.le_of_ble_eq_true rfl) rfl rfl
theorem q13_19n : zQ 13 19 [v0, v1, .null, v3] (.int x :: st) M Q ↔ zQ 13 20 [v0, v1, .null, .int x] st M Q := zq_stI (i := .istore_n 3) (k := 3) (by decide +kernel) rfl (Nat.le_of_ble_eq_true rfl) rfl rfl
theorem q13_20 : zQ 13 20 [.ref a, v1, v2, v3] st M Q ↔ zQ 13 21 [.ref a, v1, v2, v3] (.ref a :: st) M Q := zq_go (i := .aload_n 0) (by decide +kernel) rfl
theorem q13_21 : zQ 13 21 L (.ref a :: st) M Q ↔ (a < zNC ∧ zk a = 3) ∧ zQ 13 24 L (zfv a 0 M :: st) M Q := zq_getf (n := 12) (b := false) (by decide +kernel) (by decide +kernel)
theorem q13_24 : zQ 13 24 [v0, .int x, v2, v3] st M Q ↔ zQ 13 25 [v0, .int x, v2, v3] (.int x :: st) M Q := zq_go (i := .iload_n 1) (by decide +kernel) rfl
theorem q13_25 : zQ 13 25 L (.int x1 :: .ref a :: st) M Q ↔ (zcs st ≤ 8 ∧ a < zNC ∧ zk a = 4) ∧ zQ 17 0 [.ref a, .int x1] [] M (fun r M1 => zQ 13 28 L (zpush r st) M1 Q) := zq_callV (n := 47) (j := 17) (b := true) (As := [.int x1]) (by decide +kernel) (by decide +kernel) ⟨by decide +kernel, by decide +kernel, rfl, by decide +kernel, by decide +kernel, Nat.le_of_ble_eq_true rfl⟩ rfl
theorem q13_28 : zQ 13 28 L (.int x :: st) M Q ↔ (x = 0 → zQ 13 43 L st M Q) ∧ (¬ x = 0 → zQ 13 31 L st M Q) := zq_br (i := .ifCond .eq 15) (off := 15) (by decide +kernel) rfl (by decide) rfl
theorem q13_31 : zQ 13 31 [.ref a, v1, v2, v3] st M Q ↔ zQ 13 32 [.ref a, v1, v2, v3] (.ref a :: st) M Q := zq_go (i := .aload_n 0) (by decide +kernel) rfl
theorem q13_32 : zQ 13 32 L (.ref a :: st) M Q ↔ (a < zNC ∧ zk a = 3) ∧ zQ 13 35 L (zfv a 0 M :: st) M Q := zq_getf (n := 12) (b := false) (by decide +kernel) (by decide +kernel)
theorem q13_35 : zQ 13 35 [v0, .int x, v2, v3] st M Q ↔ zQ 13 36 [v0, .int x, v2, v3] (.int x :: st) M Q := zq_go (i := .iload_n 1) (by decide +kernel) rfl
theorem q13_36 : zQ 13 36 [v0, v1, .int x, v3] st M Q ↔ zQ 13 37 [v0, v1, .int x, v3] (.int x :: st) M Q := zq_go (i := .iload_n 2) (by decide +kernel) rfl
theorem q13_37 : zQ 13 37 L (.int x2 :: .int x1 :: .ref a :: st) M Q ↔ (zcs st ≤ 8 ∧ a < zNC ∧ zk a = 4) ∧ zQ 32 0 [.ref a, .int x1, .int x2] [] M (fun r M1 => zQ 13 40 L (zpush r st) M1 Q) := zq_callV (n := 50) (j := 32) (b := true) (As := [.int x1, .int x2]) (by decide +kernel) (by decide +kernel) ⟨by decide +kernel, by decide +kernel, rfl, by decide +kernel, by decide +kernel, Nat.le_of_ble_eq_true rfl⟩ rfl
theorem q13_40 : zQ 13 40 L (.int x :: st) M Q ↔ (x = 0 → zQ 13 43 L st M Q) ∧ (¬ x = 0 → zQ 13 45 L st M Q) := zq_bn (i := .ifCond .ne 5) (off := 5) (by decide +kernel) rfl (by decide) rfl
theorem q13_43 : zQ 13 43 L st M Q ↔ zQ 13 44 L (.int 0 :: st) M Q := zq_con (n := 0) (by decide +kernel) (by decide +kernel) rfl
theorem q13_44 : zQ 13 44 L [.int x] M Q ↔ (x = 0 ∨ x = 1) ∧ Q (zI x) M := zq_reZ (by decide +kernel) (by decide +kernel)
theorem q13_45 : zQ 13 45 [.ref a, v1, v2, v3] st M Q ↔ zQ 13 46 [.ref a, v1, v2, v3] (.ref a :: st) M Q := zq_go (i := .aload_n 0) (by decide +kernel) rfl
theorem q13_46 : zQ 13 46 [v0, v1, v2, .int x] st M Q ↔ zQ 13 47 [v0, v1, v2, .int x] (.int x :: st) M Q := zq_go (i := .iload_n 3) (by decide +kernel) rfl
theorem q13_47 : zQ 13 47 L (.int x1 :: .ref a :: st) M Q ↔ (zcs st ≤ 8 ∧ a < zNC ∧ zk a = 3) ∧ zQ 15 0 [.ref a, .int x1, .null, .null] [] M (fun r M1 => zQ 13 50 L (zpush r st) M1 Q) := zq_callV (n := 53) (j := 15) (b := false) (As := [.int x1]) (by decide +kernel) (by decide +kernel) ⟨by decide +kernel, by decide +kernel, rfl, by decide +kernel, by decide +kernel, Nat.le_of_ble_eq_true rfl⟩ rfl
theorem q13_50 : zQ 13 50 L st M Q ↔ zQ 13 51 L (.int 1 :: st) M Q := zq_con (n := 1) (by decide +kernel) (by decide +kernel) rfl
theorem q13_51 : zQ 13 51 L [.int x] M Q ↔ (x = 0 ∨ x = 1) ∧ Q (zI x) M := zq_reZ (by decide +kernel) (by decide +kernel)
-- 14 SandKeepers$Tale.playYears(I)Z
theorem q14_0 : zQ 14 0 [.ref a, v1, v2, v3] st M Q ↔ zQ 14 1 [.ref a, v1, v2, v3] (.ref a :: st) M Q := zq_go (i := .aload_n 0) (by decide +kernel) rfl
theorem q14_1 : zQ 14 1 L (.ref a :: st) M Q ↔ (a < zNC ∧ zk a = 3) ∧ zQ 14 4 L (zfv a 0 M :: st) M Q := zq_getf (n := 12) (b := false) (by decide +kernel) (by decide +kernel)
theorem q14_4 : zQ 14 4 L (.ref a :: st) M Q ↔ (a < zNC ∧ zk a = 4) ∧ zQ 14 7 L (zfv a 8 M :: st) M Q := zq_getf (n := 57) (b := true) (by decide +kernel) (by decide +kernel)
theorem q14_7 : zQ 14 7 [v0, .int x, v2, v3] st M Q ↔ zQ 14 8 [v0, .int x, v2, v3] (.int x :: st) M Q := zq_go (i := .iload_n 1) (by decide +kernel) rfl
theorem q14_8 : zQ 14 8 L (.int y :: .int x :: st) M Q ↔ zQ 14 9 L (.int (x + y) :: st) M Q := zq_go (i := .iadd) (by decide +kernel) rfl
theorem q14_9 : zQ 14 9 L st M Q ↔ zQ 14 12 L (.int 999 :: st) M Q := zq_sip (n := 999) (by decide +kernel) (by decide +kernel) rfl
theorem q14_12 : zQ 14 12 L (.int y :: .int x :: st) M Q ↔ (x ≤ y → zQ 14 17 L st M Q) ∧ (¬ x ≤ y → zQ 14 15 L st M Q) := zq_br (i := .if_icmp .le 5) (off := 5) (by decide +kernel) rfl (by decide) rfl
theorem q14_15 : zQ 14 15 L st M Q ↔ zQ 14 16 L (.int 0 :: st) M Q := zq_con (n := 0) (by decide +kernel) (by decide +kernel) rfl
theorem q14_16 : zQ 14 16 L [.int x] M Q ↔ (x = 0 ∨ x = 1) ∧ Q (zI x) M := zq_reZ (by decide +kernel) (by decide +kernel)
theorem q14_17 : zQ 14 17 L st M Q ↔ zQ 14 18 L (.int 0 :: st) M Q := zq_con (n := 0) (by decide +kernel) (by decide +kernel) rfl
theorem q14_18i : zQ 14 18 [v0, .int y, v2, v3] (.int x :: st) M Q ↔ zQ 14 19 [v0, .int y, .int x, v3] st M Q := zq_stI (i := .istore_n 2) (k := 2) (by decide +kernel) rfl (Nat.le_of_ble_eq_true rfl) rfl rfl
theorem q14_18r : zQ 14 18 [v0, .ref r1, v2, v3] (.int x :: st) M Q ↔ zQ 14 19 [v0, .ref r1, .int x, v3] st M Q := zq_stI (i := .istore_n 2) (k := 2) (by decide +kernel) rfl (Nat.le_of_ble_eq_true rfl) rfl rfl
theorem q14_18n : zQ 14 18 [v0, .null, v2, v3] (.int x :: st) M Q ↔ zQ 14 19 [v0, .null, .int x, v3] st M Q := zq_stI (i := .istore_n 2) (k := 2) (by decide +kernel) rfl (Nat.le_of_ble_eq_true rfl) rfl rfl
theorem q14_19 : zQ 14 19 [v0, v1, .int x, v3] st M Q ↔ zQ 14 20 [v0, v1, .int x, v3] (.int x :: st) M Q := zq_go (i := .iload_n 2) (by decide +kernel) rfl
theorem q14_20 : zQ 14 20 [v0, .int x, v2, v3] st M Q ↔ zQ 14 21 [v0, .int x, v2, v3] (.int x :: st) M Q := zq_go (i := .iload_n 1) (by decide +kernel) rfl
theorem q14_21 : zQ 14 21 L (.int y :: .int x :: st) M Q ↔ (y ≤ x → zQ 14 60 L st M Q) ∧ (¬ y ≤ x → zQ 14 24 L st M Q) := zq_br (i := .if_icmp .ge 39) (off := 39) (by decide +kernel) rfl (by decide) rfl
theorem q14_24 : zQ 14 24 [.ref a, v1, v2, v3] st M Q ↔ zQ 14 25 [.ref a, v1, v2, v3] (.ref a :: st) M Q := zq_go (i := .aload_n 0) (by decide +kernel) rfl
theorem q14_25 : zQ 14 25 L (.ref a :: st) M Q ↔ (a < zNC ∧ zk a = 3) ∧ zQ 14 28 L (zfv a 0 M :: st) M Q := zq_getf (n := 12) (b := false) (by decide +kernel) (by decide +kernel)
theorem q14_28 : zQ 14 28 L (.ref a :: st) M Q ↔ (zcs st ≤ 8 ∧ a < zNC ∧ zk a = 4) ∧ zQ 27 0 [.ref a, .null, .null] [] M (fun r M1 => zQ 14 31 L (zpush r st) M1 Q) := zq_callV (n := 43) (j := 27) (b := true) (As := []) (by decide +kernel) (by decide +kernel) ⟨by decide +kernel, by decide +kernel, rfl, by decide +kernel, by decide +kernel, Nat.le_of_ble_eq_true rfl⟩ rfl
theorem q14_31i : zQ 14 31 [v0, v1, .int y, v3] (.int x :: st) M Q ↔ zQ 14 32 [v0, v1, .int y, .int x] st M Q := zq_stI (i := .istore_n 3) (k := 3) (by decide +kernel) rfl (Nat.le_of_ble_eq_true rfl) rfl rfl
theorem q14_31r : zQ 14 31 [v0, v1, .ref r1, v3] (.int x :: st) M Q ↔ zQ 14 32 [v0, v1, .ref r1, .int x] st M Q := zq_stI (i := .istore_n 3) (k := 3) (by decide +kernel) rfl (Nat.le_of_ble_eq_true rfl) rfl rfl
theorem q14_31n : zQ 14 31 [v0, v1, .null, v3] (.int x :: st) M Q ↔ zQ 14 32 [v0, v1, .null, .int x] st M Q := zq_stI (i := .istore_n 3) (k := 3) (by decide +kernel) rfl (Nat.le_of_ble_eq_true rfl) rfl rfl
theorem q14_32 : zQ 14 32 [.ref a, v1, v2, v3] st M Q ↔ zQ 14 33 [.ref a, v1, v2, v3] (.ref a :: st) M Q := zq_go (i := .aload_n 0) (by decide +kernel) rfl
theorem q14_33 : zQ 14 33 L (.ref a :: st) M Q ↔ (a < zNC ∧ zk a = 3) ∧ zQ 14 36 L (zfv a 0 M :: st) M Q := zq_getf (n := 12) (b := false) (by decide +kernel) (by decide +kernel)
theorem q14_36 : zQ 14 36 L (.ref a :: st) M Q ↔ (zcs st ≤ 8 ∧ a < zNC ∧ zk a = 4) ∧ zQ 31 0 [.ref a, .null] [] M (fun r M1 => zQ 14 39 L (zpush r st) M1 Q) := zq_callV (n := 60) (j := 31) (b := true) (As := []) (by decide +kernel) (by decide +kernel) ⟨by decide +kernel, by decide +kernel, rfl, by decide +kernel, by decide +kernel, Nat.le_of_ble_eq_true rfl⟩ rfl
theorem q14_39 : zQ 14 39 [.ref a, v1, v2, v3] st M Q ↔ zQ 14 40 [.ref a, v1, v2, v3] (.ref a :: st) M Q := zq_go (i := .aload_n 0) (by decide +kernel) rfl
theorem q14_40 : zQ 14 40 L (.ref a :: st) M Q ↔ zQ 14 41 L (.ref a :: .ref a :: st) M Q := zq_go (i := .dup) (by decide +kernel) rfl
theorem q14_41 : zQ 14 41 L (.ref a :: st) M Q ↔ (a < zNC ∧ zk a = 3) ∧ zQ 14 44 L (zfv a 2 M :: st) M Q := zq_getf (n := 26) (b := false) (by decide +kernel) (by decide +kernel)
theorem q14_44 : zQ 14 44 L st M Q ↔ zQ 14 45 L (.int 1 :: st) M Q := zq_con (n := 1) (by decide +kernel) (by decide +kernel) rfl
theorem q14_45 : zQ 14 45 L (.int y :: .int x :: st) M Q ↔ zQ 14 46 L (.int (x + y) :: st) M Q := zq_go (i := .iadd) (by decide +kernel) rfl
theorem q14_46 : zQ 14 46 L (.int x :: .ref a :: st) M Q ↔ (a < zNC ∧ zk a = 3 ∧ zf a 2 = none) ∧ zQ 14 49 L st (zup M a 2 x) Q := zq_putf (n := 26) (b := false) (by decide +kernel) (by decide +kernel) (by decide +kernel)
theorem q14_49 : zQ 14 49 [.ref a, v1, v2, v3] st M Q ↔ zQ 14 50 [.ref a, v1, v2, v3] (.ref a :: st) M Q := zq_go (i := .aload_n 0) (by decide +kernel) rfl
theorem q14_50 : zQ 14 50 [v0, v1, v2, .int x] st M Q ↔ zQ 14 51 [v0, v1, v2, .int x] (.int x :: st) M Q := zq_go (i := .iload_n 3) (by decide +kernel) rfl
theorem q14_51 : zQ 14 51 L (.int x1 :: .ref a :: st) M Q ↔ (zcs st ≤ 8 ∧ a < zNC ∧ zk a = 3) ∧ zQ 15 0 [.ref a, .int x1, .null, .null] [] M (fun r M1 => zQ 14 54 L (zpush r st) M1 Q) := zq_callV (n := 53) (j := 15) (b := false) (As := [.int x1]) (by decide +kernel) (by decide +kernel) ⟨by decide +kernel, by decide +kernel, rfl, by decide +kernel, by decide +kernel, Nat.le_of_ble_eq_true rfl⟩ rfl
theorem q14_54i : zQ 14 54 [v0, .int y, .int x, v3] st M Q ↔ zQ 14 57 [v0, .int y, .int (x + 1), v3] st M Q := zq_inc (k := 2) (n := 1) (x := x) (v := 1) (by decide +kernel) (by decide +kernel) rfl rfl rfl rfl
theorem q14_54r : zQ 14 54 [v0, .ref r1, .int x, v3] st M Q ↔ zQ 14 57 [v0, .ref r1, .int (x + 1), v3] st M Q := zq_inc (k := 2) (n := 1) (x := x) (v := 1) (by decide +kernel) (by decide +kernel) rfl rfl rfl rfl
theorem q14_54n : zQ 14 54 [v0, .null, .int x, v3] st M Q ↔ zQ 14 57 [v0, .null, .int (x + 1), v3] st M Q := zq_inc (k := 2) (n := 1) (x := x) (v := 1) (by decide +kernel) (by decide +kernel) rfl rfl rfl rfl
theorem q14_57 : zQ 14 57 L st M Q ↔ zQ 14 19 L st M Q := zq_jmp (off := (-38)) (by decide +kernel) (by decide)
theorem q14_60 : zQ 14 60 L st M Q ↔ zQ 14 61 L (.int 1 :: st) M Q := zq_con (n := 1) (by decide +kernel) (by decide +kernel) rfl
theorem q14_61 : zQ 14 61 L [.int x] M Q ↔ (x = 0 ∨ x = 1) ∧ Q (zI x) M := zq_reZ (by decide +kernel) (by decide +kernel)
-- 15 SandKeepers$Tale.noteDeaths(I)V
theorem q15_0 : zQ 15 0 [v0, .int x, v2, v3] st M Q ↔ zQ 15 1 [v0, .int x, v2, v3] (.int x :: st) M Q := zq_go (i := .iload_n 1) (by decide +kernel) rfl
theorem q15_1 : zQ 15 1 [.ref a, v1, v2, v3] st M Q ↔ zQ 15 2 [.ref a, v1, v2, v3] (.ref a :: st) M Q := zq_go (i := .aload_n 0) (by decide +kernel) rfl
theorem q15_2 : zQ 15 2 L (.ref a :: st) M Q ↔ (a < zNC ∧ zk a = 3) ∧ zQ 15 5 L (zfv a 0 M :: st) M Q := zq_getf (n := 12) (b := false) (by decide +kernel) (by decide +kernel)
theorem q15_5 : zQ 15 5 L (.ref a :: st) M Q ↔ (zcs st ≤ 8 ∧ a < zNC ∧ zk a = 4) ∧ zQ 27 0 [.ref a, .null, .null] [] M (fun r M1 => zQ 15 8 L (zpush r st) M1 Q) := zq_callV (n := 43) (j := 27) (b := true) (As := []) (by decide +kernel) (by decide +kernel) ⟨by decide +kernel, by decide +kernel, rfl, by decide +kernel, by decide +kernel, Nat.le_of_ble_eq_true rfl⟩ rfl
theorem q15_8 : zQ 15 8 L st M Q ↔ zQ 15 9 L (.int (-1) :: st) M Q := zq_con (n := (-1)) (by decide +kernel) (by decide +kernel) rfl
theorem q15_9 : zQ 15 9 L (.int y :: .int x :: st) M Q ↔ zQ 15 10 L (.int (x ^^^ y) :: st) M Q := zq_go (i := .ixor) (by decide +kernel) rfl
theorem q15_10 : zQ 15 10 L (.int y :: .int x :: st) M Q ↔ zQ 15 11 L (.int (x &&& y) :: st) M Q := zq_go (i := .iand) (by decide +kernel) rfl
theorem q15_11i : zQ 15 11 [v0, .int y, v2, v3] (.int x :: st) M Q ↔ zQ 15 12 [v0, .int y, .int x, v3] st M Q := zq_stI (i := .istore_n 2) (k := 2) (by decide +kernel) rfl (Nat.le_of_ble_eq_true rfl) rfl rfl
theorem q15_11r : zQ 15 11 [v0, .ref r1, v2, v3] (.int x :: st) M Q ↔ zQ 15 12 [v0, .ref r1, .int x, v3] st M Q := zq_stI (i := .istore_n 2) (k := 2) (by decide +kernel) rfl (Nat.le_of_ble_eq_true rfl) rfl rfl
theorem q15_11n : zQ 15 11 [v0, .null, v2, v3] (.int x :: st) M Q ↔ zQ 15 12 [v0, .null, .int x, v3] st M Q := zq_stI (i := .istore_n 2) (k := 2) (by decide +kernel) rfl (Nat.le_of_ble_eq_true rfl) rfl rfl
theorem q15_12 : zQ 15 12 L st M Q ↔ zQ 15 13 L (.int 0 :: st) M Q := zq_con (n := 0) (by decide +kernel) (by decide +kernel) rfl
theorem q15_13i : zQ 15 13 [v0, v1, .int y, v3] (.int x :: st) M Q ↔ zQ 15 14 [v0, v1, .int y, .int x] st M Q := zq_stI (i := .istore_n 3) (k := 3) (by decide +kernel) rfl (Nat.le_of_ble_eq_true rfl) rfl rfl
theorem q15_13r : zQ 15 13 [v0, v1, .ref r1, v3] (.int x :: st) M Q ↔ zQ 15 14 [v0, v1, .ref r1, .int x] st M Q := zq_stI (i := .istore_n 3) (k := 3) (by decide +kernel) rfl (Nat.le_of_ble_eq_true rfl) rfl rfl
theorem q15_13n : zQ 15 13 [v0, v1, .null, v3] (.int x :: st) M Q ↔ zQ 15 14 [v0, v1, .null, .int x] st M Q := zq_stI (i := .istore_n 3) (k := 3) (by decide +kernel) rfl (Nat.le_of_ble_eq_true rfl) rfl rfl
theorem q15_14 : zQ 15 14 [v0, v1, v2, .int x] st M Q ↔ zQ 15 15 [v0, v1, v2, .int x] (.int x :: st) M Q := zq_go (i := .iload_n 3) (by decide +kernel) rfl
theorem q15_15 : zQ 15 15 L st M Q ↔ zQ 15 17 L (.int 6 :: st) M Q := zq_bip (n := 6) (by decide +kernel) (by decide +kernel) rfl
theorem q15_17 : zQ 15 17 L (.int y :: .int x :: st) M Q ↔ (y ≤ x → zQ 15 44 L st M Q) ∧ (¬ y ≤ x → zQ 15 20 L st M Q) := zq_br (i := .if_icmp .ge 27) (off := 27) (by decide +kernel) rfl (by decide) rfl
theorem q15_20 : zQ 15 20 [v0, v1, .int x, v3] st M Q ↔ zQ 15 21 [v0, v1, .int x, v3] (.int x :: st) M Q := zq_go (i := .iload_n 2) (by decide +kernel) rfl
theorem q15_21 : zQ 15 21 [v0, v1, v2, .int x] st M Q ↔ zQ 15 22 [v0, v1, v2, .int x] (.int x :: st) M Q := zq_go (i := .iload_n 3) (by decide +kernel) rfl
theorem q15_22 : zQ 15 22 L (.int y :: .int x :: st) M Q ↔ zQ 15 23 L (.int (x >>> (y &&& 31)) :: st) M Q := zq_go (i := .ishr) (by decide +kernel) rfl
theorem q15_23 : zQ 15 23 L st M Q ↔ zQ 15 24 L (.int 1 :: st) M Q := zq_con (n := 1) (by decide +kernel) (by decide +kernel) rfl
theorem q15_24 : zQ 15 24 L (.int y :: .int x :: st) M Q ↔ zQ 15 25 L (.int (x &&& y) :: st) M Q := zq_go (i := .iand) (by decide +kernel) rfl
theorem q15_25 : zQ 15 25 L (.int x :: st) M Q ↔ (x = 0 → zQ 15 38 L st M Q) ∧ (¬ x = 0 → zQ 15 28 L st M Q) := zq_br (i := .ifCond .eq 13) (off := 13) (by decide +kernel) rfl (by decide) rfl
theorem q15_28 : zQ 15 28 [.ref a, v1, v2, v3] st M Q ↔ zQ 15 29 [.ref a, v1, v2, v3] (.ref a :: st) M Q := zq_go (i := .aload_n 0) (by decide +kernel) rfl
theorem q15_29 : zQ 15 29 L (.ref a :: st) M Q ↔ (a < zNC ∧ zk a = 3) ∧ zQ 15 32 L (zfv a 1 M :: st) M Q := zq_getf (n := 18) (b := false) (by decide +kernel) (by decide +kernel)
theorem q15_32 : zQ 15 32 [v0, v1, v2, .int x] st M Q ↔ zQ 15 33 [v0, v1, v2, .int x] (.int x :: st) M Q := zq_go (i := .iload_n 3) (by decide +kernel) rfl
theorem q15_33 : zQ 15 33 [.ref a, v1, v2, v3] st M Q ↔ zQ 15 34 [.ref a, v1, v2, v3] (.ref a :: st) M Q := zq_go (i := .aload_n 0) (by decide +kernel) rfl
theorem q15_34 : zQ 15 34 L (.ref a :: st) M Q ↔ (a < zNC ∧ zk a = 3) ∧ zQ 15 37 L (zfv a 2 M :: st) M Q := zq_getf (n := 26) (b := false) (by decide +kernel) (by decide +kernel)
theorem q15_37 : zQ 15 37 L (.int x :: .int y :: .ref a :: st) M Q ↔ (a < zNC ∧ zk a = 7 ∧ zin y (zn a) = true) ∧ zQ 15 38 L st (zup M a y.toNatClampNeg x) Q := zq_iast (by decide +kernel)
theorem q15_38i : zQ 15 38 [v0, v1, .int y, .int x] st M Q ↔ zQ 15 41 [v0, v1, .int y, .int (x + 1)] st M Q := zq_inc (k := 3) (n := 1) (x := x) (v := 1) (by decide +kernel) (by decide +kernel) rfl rfl rfl rfl
theorem q15_38r : zQ 15 38 [v0, v1, .ref r1, .int x] st M Q ↔ zQ 15 41 [v0, v1, .ref r1, .int (x + 1)] st M Q := zq_inc (k := 3) (n := 1) (x := x) (v := 1) (by decide +kernel) (by decide +kernel) rfl rfl rfl rfl
theorem q15_38n : zQ 15 38 [v0, v1, .null, .int x] st M Q ↔ zQ 15 41 [v0, v1, .null, .int (x + 1)] st M Q := zq_inc (k := 3) (n := 1) (x := x) (v := 1) (by decide +kernel) (by decide +kernel) rfl rfl rfl rfl
theorem q15_41 : zQ 15 41 L st M Q ↔ zQ 15 14 L st M Q := zq_jmp (off := (-27)) (by decide +kernel) (by decide)
theorem q15_44 : zQ 15 44 L [] M Q ↔ Q none M := zq_reV (by decide +kernel) (by decide +kernel)
-- 16 SandKeepers$Tale.answerTo(I)I
theorem q16_0 : zQ 16 0 [v0, .int x] st M Q ↔ zQ 16 1 [v0, .int x] (.int x :: st) M Q := zq_go (i := .iload_n 1) (by decide +kernel) rfl
theorem q16_1 : zQ 16 1 L (.int x :: st) M Q ↔ (x = 0 → zQ 16 4 L st M Q) ∧ (¬ x = 0 → zQ 16 15 L st M Q) := zq_bn (i := .ifCond .ne 14) (off := 14) (by decide +kernel) rfl (by decide) rfl
theorem q16_4 : zQ 16 4 [.ref a, v1] st M Q ↔ zQ 16 5 [.ref a, v1] (.ref a :: st) M Q := zq_go (i := .aload_n 0) (by decide +kernel) rfl
theorem q16_5 : zQ 16 5 L (.ref a :: st) M Q ↔ (a < zNC ∧ zk a = 3) ∧ zQ 16 8 L (zfv a 0 M :: st) M Q := zq_getf (n := 12) (b := false) (by decide +kernel) (by decide +kernel)
theorem q16_8 : zQ 16 8 L (.ref a :: st) M Q ↔ (zcs st ≤ 8 ∧ a < zNC ∧ zk a = 4) ∧ zQ 27 0 [.ref a, .null, .null] [] M (fun r M1 => zQ 16 11 L (zpush r st) M1 Q) := zq_callV (n := 43) (j := 27) (b := true) (As := []) (by decide +kernel) (by decide +kernel) ⟨by decide +kernel, by decide +kernel, rfl, by decide +kernel, by decide +kernel, Nat.le_of_ble_eq_true rfl⟩ rfl
theorem q16_11 : zQ 16 11 L (.int x1 :: st) M Q ↔ zcs st ≤ 8 ∧ zQ 156 0 [.int x1] [] M (fun r M1 => zQ 16 14 L (zpush r st) M1 Q) := zq_callS (n := 63) (j := 156) (b := false) (As := [.int x1]) (by decide +kernel) (by decide +kernel) ⟨by decide +kernel, by decide +kernel, rfl, by decide +kernel, by decide +kernel, Nat.le_of_ble_eq_true rfl⟩ rfl
theorem q16_14 : zQ 16 14 L [.int x] M Q ↔ Q (zI x) M := zq_reI (by decide +kernel) (by decide +kernel)
theorem q16_15 : zQ 16 15 [v0, .int x] st M Q ↔ zQ 16 16 [v0, .int x] (.int x :: st) M Q := zq_go (i := .iload_n 1) (by decide +kernel) rfl
theorem q16_16 : zQ 16 16 L st M Q ↔ zQ 16 17 L (.int 2 :: st) M Q := zq_con (n := 2) (by decide +kernel) (by decide +kernel) rfl
theorem q16_17 : zQ 16 17 L (.int y :: .int x :: st) M Q ↔ (x = y → zQ 16 20 L st M Q) ∧ (¬ x = y → zQ 16 25 L st M Q) := zq_bn (i := .if_icmp .ne 8) (off := 8) (by decide +kernel) rfl (by decide) rfl
theorem q16_20 : zQ 16 20 [.ref a, v1] st M Q ↔ zQ 16 21 [.ref a, v1] (.ref a :: st) M Q := zq_go (i := .aload_n 0) (by decide +kernel) rfl
theorem q16_21 : zQ 16 21 L (.ref a :: st) M Q ↔ (a < zNC ∧ zk a = 3) ∧ zQ 16 24 L (zfv a 2 M :: st) M Q := zq_getf (n := 26) (b := false) (by decide +kernel) (by decide +kernel)
theorem q16_24 : zQ 16 24 L [.int x] M Q ↔ Q (zI x) M := zq_reI (by decide +kernel) (by decide +kernel)
theorem q16_25 : zQ 16 25 [v0, .int x] st M Q ↔ zQ 16 26 [v0, .int x] (.int x :: st) M Q := zq_go (i := .iload_n 1) (by decide +kernel) rfl
theorem q16_26 : zQ 16 26 L st M Q ↔ zQ 16 27 L (.int 3 :: st) M Q := zq_con (n := 3) (by decide +kernel) (by decide +kernel) rfl
theorem q16_27 : zQ 16 27 L (.int y :: .int x :: st) M Q ↔ (x = y → zQ 16 30 L st M Q) ∧ (¬ x = y → zQ 16 38 L st M Q) := zq_bn (i := .if_icmp .ne 11) (off := 11) (by decide +kernel) rfl (by decide) rfl
theorem q16_30 : zQ 16 30 [.ref a, v1] st M Q ↔ zQ 16 31 [.ref a, v1] (.ref a :: st) M Q := zq_go (i := .aload_n 0) (by decide +kernel) rfl
theorem q16_31 : zQ 16 31 L (.ref a :: st) M Q ↔ (a < zNC ∧ zk a = 3) ∧ zQ 16 34 L (zfv a 0 M :: st) M Q := zq_getf (n := 12) (b := false) (by decide +kernel) (by decide +kernel)
theorem q16_34 : zQ 16 34 L (.ref a :: st) M Q ↔ (zcs st ≤ 8 ∧ a < zNC ∧ zk a = 4) ∧ zQ 27 0 [.ref a, .null, .null] [] M (fun r M1 => zQ 16 37 L (zpush r st) M1 Q) := zq_callV (n := 43) (j := 27) (b := true) (As := []) (by decide +kernel) (by decide +kernel) ⟨by decide +kernel, by decide +kernel, rfl, by decide +kernel, by decide +kernel, Nat.le_of_ble_eq_true rfl⟩ rfl
theorem q16_37 : zQ 16 37 L [.int x] M Q ↔ Q (zI x) M := zq_reI (by decide +kernel) (by decide +kernel)
theorem q16_38 : zQ 16 38 [v0, .int x] st M Q ↔ zQ 16 39 [v0, .int x] (.int x :: st) M Q := zq_go (i := .iload_n 1) (by decide +kernel) rfl
theorem q16_39 : zQ 16 39 L st M Q ↔ zQ 16 41 L (.int 20 :: st) M Q := zq_bip (n := 20) (by decide +kernel) (by decide +kernel) rfl
theorem q16_41 : zQ 16 41 L (.int y :: .int x :: st) M Q ↔ zQ 16 42 L (.int (x - y) :: st) M Q := zq_go (i := .isub) (by decide +kernel) rfl
theorem q16_42 : zQ 16 42 L st M Q ↔ zQ 16 44 L (.int 6 :: st) M Q := zq_bip (n := 6) (by decide +kernel) (by decide +kernel) rfl
theorem q16_44 : zQ 16 44 L (.int x2 :: .int x1 :: st) M Q ↔ zcs st ≤ 8 ∧ zQ 74 0 [.int x1, .int x2] [] M (fun r M1 => zQ 16 47 L (zpush r st) M1 Q) := zq_callS (n := 69) (j := 74) (b := true) (As := [.int x1, .int x2]) (by decide +kernel) (by decide +kernel) ⟨by decide +kernel, by decide +kernel, rfl, by decide +kernel, by decide +kernel, Nat.le_of_ble_eq_true rfl⟩ rfl
theorem q16_47 : zQ 16 47 L (.int x :: st) M Q ↔ (x = 0 → zQ 16 60 L st M Q) ∧ (¬ x = 0 → zQ 16 50 L st M Q) := zq_br (i := .ifCond .eq 13) (off := 13) (by decide +kernel) rfl (by decide) rfl
theorem q16_50 : zQ 16 50 [.ref a, v1] st M Q ↔ zQ 16 51 [.ref a, v1] (.ref a :: st) M Q := zq_go (i := .aload_n 0) (by decide +kernel) rfl
theorem q16_51 : zQ 16 51 L (.ref a :: st) M Q ↔ (a < zNC ∧ zk a = 3) ∧ zQ 16 54 L (zfv a 1 M :: st) M Q := zq_getf (n := 18) (b := false) (by decide +kernel) (by decide +kernel)
theorem q16_54 : zQ 16 54 [v0, .int x] st M Q ↔ zQ 16 55 [v0, .int x] (.int x :: st) M Q := zq_go (i := .iload_n 1) (by decide +kernel) rfl
theorem q16_55 : zQ 16 55 L st M Q ↔ zQ 16 57 L (.int 20 :: st) M Q := zq_bip (n := 20) (by decide +kernel) (by decide +kernel) rfl
theorem q16_57 : zQ 16 57 L (.int y :: .int x :: st) M Q ↔ zQ 16 58 L (.int (x - y) :: st) M Q := zq_go (i := .isub) (by decide +kernel) rfl
theorem q16_58 : zQ 16 58 L (.int x :: .ref a :: st) M Q ↔ (a < zNC ∧ zk a = 7 ∧ zin x (zn a) = true) ∧ zQ 16 59 L (.int (M a x.toNatClampNeg) :: st) M Q := zq_iald (by decide +kernel)
theorem q16_59 : zQ 16 59 L [.int x] M Q ↔ Q (zI x) M := zq_reI (by decide +kernel) (by decide +kernel)
theorem q16_60 : zQ 16 60 [.ref a, v1] st M Q ↔ zQ 16 61 [.ref a, v1] (.ref a :: st) M Q := zq_go (i := .aload_n 0) (by decide +kernel) rfl
theorem q16_61 : zQ 16 61 L (.ref a :: st) M Q ↔ (a < zNC ∧ zk a = 3) ∧ zQ 16 64 L (zfv a 0 M :: st) M Q := zq_getf (n := 12) (b := false) (by decide +kernel) (by decide +kernel)
theorem q16_64 : zQ 16 64 [v0, .int x] st M Q ↔ zQ 16 65 [v0, .int x] (.int x :: st) M Q := zq_go (i := .iload_n 1) (by decide +kernel) rfl
theorem q16_65 : zQ 16 65 L st M Q ↔ zQ 16 67 L (.int 10 :: st) M Q := zq_bip (n := 10) (by decide +kernel) (by decide +kernel) rfl
theorem q16_67 : zQ 16 67 L (.int y :: .int x :: st) M Q ↔ zQ 16 68 L (.int (x - y) :: st) M Q := zq_go (i := .isub) (by decide +kernel) rfl
theorem q16_68 : zQ 16 68 L (.int x1 :: .ref a :: st) M Q ↔ (zcs st ≤ 8 ∧ a < zNC ∧ zk a = 4) ∧ zQ 17 0 [.ref a, .int x1] [] M (fun r M1 => zQ 16 71 L (zpush r st) M1 Q) := zq_callV (n := 47) (j := 17) (b := true) (As := [.int x1]) (by decide +kernel) (by decide +kernel) ⟨by decide +kernel, by decide +kernel, rfl, by decide +kernel, by decide +kernel, Nat.le_of_ble_eq_true rfl⟩ rfl
theorem q16_71 : zQ 16 71 L (.int x :: st) M Q ↔ (x = 0 → zQ 16 89 L st M Q) ∧ (¬ x = 0 → zQ 16 74 L st M Q) := zq_br (i := .ifCond .eq 18) (off := 18) (by decide +kernel) rfl (by decide) rfl
theorem q16_74 : zQ 16 74 [.ref a, v1] st M Q ↔ zQ 16 75 [.ref a, v1] (.ref a :: st) M Q := zq_go (i := .aload_n 0) (by decide +kernel) rfl
theorem q16_75 : zQ 16 75 L (.ref a :: st) M Q ↔ (a < zNC ∧ zk a = 3) ∧ zQ 16 78 L (zfv a 0 M :: st) M Q := zq_getf (n := 12) (b := false) (by decide +kernel) (by decide +kernel)
theorem q16_78 : zQ 16 78 L (.ref a :: st) M Q ↔ (a < zNC ∧ zk a = 4) ∧ zQ 16 81 L (zfv a 1 M :: st) M Q := zq_getf (n := 72) (b := true) (by decide +kernel) (by decide +kernel)
theorem q16_81 : zQ 16 81 [v0, .int x] st M Q ↔ zQ 16 82 [v0, .int x] (.int x :: st) M Q := zq_go (i := .iload_n 1) (by decide +kernel) rfl
theorem q16_82 : zQ 16 82 L st M Q ↔ zQ 16 84 L (.int 10 :: st) M Q := zq_bip (n := 10) (by decide +kernel) (by decide +kernel) rfl
theorem q16_84 : zQ 16 84 L (.int y :: .int x :: st) M Q ↔ zQ 16 85 L (.int (x - y) :: st) M Q := zq_go (i := .isub) (by decide +kernel) rfl
theorem q16_85 : zQ 16 85 L (.int x :: .ref a :: st) M Q ↔ (a < zNC ∧ zk a = 7 ∧ zin x (zn a) = true) ∧ zQ 16 86 L (.int (M a x.toNatClampNeg) :: st) M Q := zq_iald (by decide +kernel)
theorem q16_86 : zQ 16 86 L st M Q ↔ zQ 16 91 L st M Q := zq_jmp (off := 5) (by decide +kernel) (by decide)
theorem q16_89 : zQ 16 89 L st M Q ↔ zQ 16 91 L (.int (-9) :: st) M Q := zq_bip (n := (-9)) (by decide +kernel) (by decide +kernel) rfl
theorem q16_91 : zQ 16 91 L [.int x] M Q ↔ Q (zI x) M := zq_reI (by decide +kernel) (by decide +kernel)
-- 17 SandKeepers$Town.has(I)Z
theorem q17_0 : zQ 17 0 [v0, .int x] st M Q ↔ zQ 17 1 [v0, .int x] (.int x :: st) M Q := zq_go (i := .iload_n 1) (by decide +kernel) rfl
theorem q17_1 : zQ 17 1 [.ref a, v1] st M Q ↔ zQ 17 2 [.ref a, v1] (.ref a :: st) M Q := zq_go (i := .aload_n 0) (by decide +kernel) rfl
theorem q17_2 : zQ 17 2 L (.ref a :: st) M Q ↔ (a < zNC ∧ zk a = 4) ∧ zQ 17 5 L (zfv a 7 M :: st) M Q := zq_getf (n := 34) (b := false) (by decide +kernel) (by decide +kernel)
theorem q17_5 : zQ 17 5 L (.int x2 :: .int x1 :: st) M Q ↔ zcs st ≤ 8 ∧ zQ 74 0 [.int x1, .int x2] [] M (fun r M1 => zQ 17 8 L (zpush r st) M1 Q) := zq_callS (n := 38) (j := 74) (b := true) (As := [.int x1, .int x2]) (by decide +kernel) (by decide +kernel) ⟨by decide +kernel, by decide +kernel, rfl, by decide +kernel, by decide +kernel, Nat.le_of_ble_eq_true rfl⟩ rfl
theorem q17_8 : zQ 17 8 L [.int x] M Q ↔ (x = 0 ∨ x = 1) ∧ Q (zI x) M := zq_reZ (by decide +kernel) (by decide +kernel)
-- 18 SandKeepers$Town.becomeLike(LSandKeepers$Town;)V
theorem q18_0 : zQ 18 0 [.ref a, v1, v2] st M Q ↔ zQ 18 1 [.ref a, v1, v2] (.ref a :: st) M Q := zq_go (i := .aload_n 0) (by decide +kernel) rfl
theorem q18_1 : zQ 18 1 [v0, .ref a, v2] st M Q ↔ zQ 18 2 [v0, .ref a, v2] (.ref a :: st) M Q := zq_go (i := .aload_n 1) (by decide +kernel) rfl
theorem q18_2 : zQ 18 2 L (.ref a :: st) M Q ↔ (a < zNC ∧ zk a = 4) ∧ zQ 18 5 L (zfv a 7 M :: st) M Q := zq_getf (n := 34) (b := false) (by decide +kernel) (by decide +kernel)
theorem q18_5 : zQ 18 5 L (.int x :: .ref a :: st) M Q ↔ (a < zNC ∧ zk a = 4 ∧ zf a 7 = none) ∧ zQ 18 8 L st (zup M a 7 x) Q := zq_putf (n := 34) (b := false) (by decide +kernel) (by decide +kernel) (by decide +kernel)
theorem q18_8 : zQ 18 8 [.ref a, v1, v2] st M Q ↔ zQ 18 9 [.ref a, v1, v2] (.ref a :: st) M Q := zq_go (i := .aload_n 0) (by decide +kernel) rfl
theorem q18_9 : zQ 18 9 [v0, .ref a, v2] st M Q ↔ zQ 18 10 [v0, .ref a, v2] (.ref a :: st) M Q := zq_go (i := .aload_n 1) (by decide +kernel) rfl
theorem q18_10 : zQ 18 10 L (.ref a :: st) M Q ↔ (a < zNC ∧ zk a = 4) ∧ zQ 18 13 L (zfv a 8 M :: st) M Q := zq_getf (n := 42) (b := false) (by decide +kernel) (by decide +kernel)
theorem q18_13 : zQ 18 13 L (.int x :: .ref a :: st) M Q ↔ (a < zNC ∧ zk a = 4 ∧ zf a 8 = none) ∧ zQ 18 16 L st (zup M a 8 x) Q := zq_putf (n := 42) (b := false) (by decide +kernel) (by decide +kernel) (by decide +kernel)
theorem q18_16 : zQ 18 16 L st M Q ↔ zQ 18 17 L (.int 0 :: st) M Q := zq_con (n := 0) (by decide +kernel) (by decide +kernel) rfl
theorem q18_17i : zQ 18 17 [v0, .int y, v2] (.int x :: st) M Q ↔ zQ 18 18 [v0, .int y, .int x] st M Q := zq_stI (i := .istore_n 2) (k := 2) (by decide +kernel) rfl (Nat.le_of_ble_eq_true rfl) rfl rfl
theorem q18_17r : zQ 18 17 [v0, .ref r1, v2] (.int x :: st) M Q ↔ zQ 18 18 [v0, .ref r1, .int x] st M Q := zq_stI (i := .istore_n 2) (k := 2) (by decide +kernel) rfl (Nat.le_of_ble_eq_true rfl) rfl rfl
theorem q18_17n : zQ 18 17 [v0, .null, v2] (.int x :: st) M Q ↔ zQ 18 18 [v0, .null, .int x] st M Q := zq_stI (i := .istore_n 2) (k := 2) (by decide +kernel) rfl (Nat.le_of_ble_eq_true rfl) rfl rfl
theorem q18_18 : zQ 18 18 [v0, v1, .int x] st M Q ↔ zQ 18 19 [v0, v1, .int x] (.int x :: st) M Q := zq_go (i := .iload_n 2) (by decide +kernel) rfl
theorem q18_19 : zQ 18 19 L st M Q ↔ zQ 18 21 L (.int 6 :: st) M Q := zq_bip (n := 6) (by decide +kernel) (by decide +kernel) rfl
theorem q18_21 : zQ 18 21 L (.int y :: .int x :: st) M Q ↔ (y ≤ x → zQ 18 114 L st M Q) ∧ (¬ y ≤ x → zQ 18 24 L st M Q) := zq_br (i := .if_icmp .ge 93) (off := 93) (by decide +kernel) rfl (by decide) rfl
theorem q18_24 : zQ 18 24 [.ref a, v1, v2] st M Q ↔ zQ 18 25 [.ref a, v1, v2] (.ref a :: st) M Q := zq_go (i := .aload_n 0) (by decide +kernel) rfl
theorem q18_25 : zQ 18 25 L (.ref a :: st) M Q ↔ (a < zNC ∧ zk a = 4) ∧ zQ 18 28 L (zfv a 0 M :: st) M Q := zq_getf (n := 9) (b := false) (by decide +kernel) (by decide +kernel)
theorem q18_28 : zQ 18 28 [v0, v1, .int x] st M Q ↔ zQ 18 29 [v0, v1, .int x] (.int x :: st) M Q := zq_go (i := .iload_n 2) (by decide +kernel) rfl
theorem q18_29 : zQ 18 29 [v0, .ref a, v2] st M Q ↔ zQ 18 30 [v0, .ref a, v2] (.ref a :: st) M Q := zq_go (i := .aload_n 1) (by decide +kernel) rfl
theorem q18_30 : zQ 18 30 L (.ref a :: st) M Q ↔ (a < zNC ∧ zk a = 4) ∧ zQ 18 33 L (zfv a 0 M :: st) M Q := zq_getf (n := 9) (b := false) (by decide +kernel) (by decide +kernel)
theorem q18_33 : zQ 18 33 [v0, v1, .int x] st M Q ↔ zQ 18 34 [v0, v1, .int x] (.int x :: st) M Q := zq_go (i := .iload_n 2) (by decide +kernel) rfl
theorem q18_34 : zQ 18 34 L (.int x :: .ref a :: st) M Q ↔ (a < zNC ∧ zk a = 7 ∧ zin x (zn a) = true) ∧ zQ 18 35 L (.int (M a x.toNatClampNeg) :: st) M Q := zq_iald (by decide +kernel)
theorem q18_35 : zQ 18 35 L (.int x :: .int y :: .ref a :: st) M Q ↔ (a < zNC ∧ zk a = 7 ∧ zin y (zn a) = true) ∧ zQ 18 36 L st (zup M a y.toNatClampNeg x) Q := zq_iast (by decide +kernel)
theorem q18_36 : zQ 18 36 [.ref a, v1, v2] st M Q ↔ zQ 18 37 [.ref a, v1, v2] (.ref a :: st) M Q := zq_go (i := .aload_n 0) (by decide +kernel) rfl
theorem q18_37 : zQ 18 37 L (.ref a :: st) M Q ↔ (a < zNC ∧ zk a = 4) ∧ zQ 18 40 L (zfv a 1 M :: st) M Q := zq_getf (n := 15) (b := false) (by decide +kernel) (by decide +kernel)
theorem q18_40 : zQ 18 40 [v0, v1, .int x] st M Q ↔ zQ 18 41 [v0, v1, .int x] (.int x :: st) M Q := zq_go (i := .iload_n 2) (by decide +kernel) rfl
theorem q18_41 : zQ 18 41 [v0, .ref a, v2] st M Q ↔ zQ 18 42 [v0, .ref a, v2] (.ref a :: st) M Q := zq_go (i := .aload_n 1) (by decide +kernel) rfl
theorem q18_42 : zQ 18 42 L (.ref a :: st) M Q ↔ (a < zNC ∧ zk a = 4) ∧ zQ 18 45 L (zfv a 1 M :: st) M Q := zq_getf (n := 15) (b := false) (by decide +kernel) (by decide +kernel)
theorem q18_45 : zQ 18 45 [v0, v1, .int x] st M Q ↔ zQ 18 46 [v0, v1, .int x] (.int x :: st) M Q := zq_go (i := .iload_n 2) (by decide +kernel) rfl
theorem q18_46 : zQ 18 46 L (.int x :: .ref a :: st) M Q ↔ (a < zNC ∧ zk a = 7 ∧ zin x (zn a) = true) ∧ zQ 18 47 L (.int (M a x.toNatClampNeg) :: st) M Q := zq_iald (by decide +kernel)
theorem q18_47 : zQ 18 47 L (.int x :: .int y :: .ref a :: st) M Q ↔ (a < zNC ∧ zk a = 7 ∧ zin y (zn a) = true) ∧ zQ 18 48 L st (zup M a y.toNatClampNeg x) Q := zq_iast (by decide +kernel)
theorem q18_48 : zQ 18 48 [.ref a, v1, v2] st M Q ↔ zQ 18 49 [.ref a, v1, v2] (.ref a :: st) M Q := zq_go (i := .aload_n 0) (by decide +kernel) rfl
theorem q18_49 : zQ 18 49 L (.ref a :: st) M Q ↔ (a < zNC ∧ zk a = 4) ∧ zQ 18 52 L (zfv a 2 M :: st) M Q := zq_getf (n := 18) (b := false) (by decide +kernel) (by decide +kernel)
theorem q18_52 : zQ 18 52 [v0, v1, .int x] st M Q ↔ zQ 18 53 [v0, v1, .int x] (.int x :: st) M Q := zq_go (i := .iload_n 2) (by decide +kernel) rfl
theorem q18_53 : zQ 18 53 [v0, .ref a, v2] st M Q ↔ zQ 18 54 [v0, .ref a, v2] (.ref a :: st) M Q := zq_go (i := .aload_n 1) (by decide +kernel) rfl
theorem q18_54 : zQ 18 54 L (.ref a :: st) M Q ↔ (a < zNC ∧ zk a = 4) ∧ zQ 18 57 L (zfv a 2 M :: st) M Q := zq_getf (n := 18) (b := false) (by decide +kernel) (by decide +kernel)
theorem q18_57 : zQ 18 57 [v0, v1, .int x] st M Q ↔ zQ 18 58 [v0, v1, .int x] (.int x :: st) M Q := zq_go (i := .iload_n 2) (by decide +kernel) rfl
theorem q18_58 : zQ 18 58 L (.int x :: .ref a :: st) M Q ↔ (a < zNC ∧ zk a = 7 ∧ zin x (zn a) = true) ∧ zQ 18 59 L (.int (M a x.toNatClampNeg) :: st) M Q := zq_iald (by decide +kernel)
theorem q18_59 : zQ 18 59 L (.int x :: .int y :: .ref a :: st) M Q ↔ (a < zNC ∧ zk a = 7 ∧ zin y (zn a) = true) ∧ zQ 18 60 L st (zup M a y.toNatClampNeg x) Q := zq_iast (by decide +kernel)
theorem q18_60 : zQ 18 60 [.ref a, v1, v2] st M Q ↔ zQ 18 61 [.ref a, v1, v2] (.ref a :: st) M Q := zq_go (i := .aload_n 0) (by decide +kernel) rfl
theorem q18_61 : zQ 18 61 L (.ref a :: st) M Q ↔ (a < zNC ∧ zk a = 4) ∧ zQ 18 64 L (zfv a 3 M :: st) M Q := zq_getf (n := 21) (b := false) (by decide +kernel) (by decide +kernel)
theorem q18_64 : zQ 18 64 [v0, v1, .int x] st M Q ↔ zQ 18 65 [v0, v1, .int x] (.int x :: st) M Q := zq_go (i := .iload_n 2) (by decide +kernel) rfl
theorem q18_65 : zQ 18 65 [v0, .ref a, v2] st M Q ↔ zQ 18 66 [v0, .ref a, v2] (.ref a :: st) M Q := zq_go (i := .aload_n 1) (by decide +kernel) rfl
theorem q18_66 : zQ 18 66 L (.ref a :: st) M Q ↔ (a < zNC ∧ zk a = 4) ∧ zQ 18 69 L (zfv a 3 M :: st) M Q := zq_getf (n := 21) (b := false) (by decide +kernel) (by decide +kernel)
theorem q18_69 : zQ 18 69 [v0, v1, .int x] st M Q ↔ zQ 18 70 [v0, v1, .int x] (.int x :: st) M Q := zq_go (i := .iload_n 2) (by decide +kernel) rfl
theorem q18_70 : zQ 18 70 L (.int x :: .ref a :: st) M Q ↔ (a < zNC ∧ zk a = 7 ∧ zin x (zn a) = true) ∧ zQ 18 71 L (.int (M a x.toNatClampNeg) :: st) M Q := zq_iald (by decide +kernel)
theorem q18_71 : zQ 18 71 L (.int x :: .int y :: .ref a :: st) M Q ↔ (a < zNC ∧ zk a = 7 ∧ zin y (zn a) = true) ∧ zQ 18 72 L st (zup M a y.toNatClampNeg x) Q := zq_iast (by decide +kernel)
theorem q18_72 : zQ 18 72 [.ref a, v1, v2] st M Q ↔ zQ 18 73 [.ref a, v1, v2] (.ref a :: st) M Q := zq_go (i := .aload_n 0) (by decide +kernel) rfl
theorem q18_73 : zQ 18 73 L (.ref a :: st) M Q ↔ (a < zNC ∧ zk a = 4) ∧ zQ 18 76 L (zfv a 4 M :: st) M Q := zq_getf (n := 24) (b := false) (by decide +kernel) (by decide +kernel)
theorem q18_76 : zQ 18 76 [v0, v1, .int x] st M Q ↔ zQ 18 77 [v0, v1, .int x] (.int x :: st) M Q := zq_go (i := .iload_n 2) (by decide +kernel) rfl
theorem q18_77 : zQ 18 77 [v0, .ref a, v2] st M Q ↔ zQ 18 78 [v0, .ref a, v2] (.ref a :: st) M Q := zq_go (i := .aload_n 1) (by decide +kernel) rfl
theorem q18_78 : zQ 18 78 L (.ref a :: st) M Q ↔ (a < zNC ∧ zk a = 4) ∧ zQ 18 81 L (zfv a 4 M :: st) M Q := zq_getf (n := 24) (b := false) (by decide +kernel) (by decide +kernel)
theorem q18_81 : zQ 18 81 [v0, v1, .int x] st M Q ↔ zQ 18 82 [v0, v1, .int x] (.int x :: st) M Q := zq_go (i := .iload_n 2) (by decide +kernel) rfl
theorem q18_82 : zQ 18 82 L (.int x :: .ref a :: st) M Q ↔ (a < zNC ∧ zk a = 7 ∧ zin x (zn a) = true) ∧ zQ 18 83 L (.int (M a x.toNatClampNeg) :: st) M Q := zq_iald (by decide +kernel)
theorem q18_83 : zQ 18 83 L (.int x :: .int y :: .ref a :: st) M Q ↔ (a < zNC ∧ zk a = 7 ∧ zin y (zn a) = true) ∧ zQ 18 84 L st (zup M a y.toNatClampNeg x) Q := zq_iast (by decide +kernel)
theorem q18_84 : zQ 18 84 [.ref a, v1, v2] st M Q ↔ zQ 18 85 [.ref a, v1, v2] (.ref a :: st) M Q := zq_go (i := .aload_n 0) (by decide +kernel) rfl
theorem q18_85 : zQ 18 85 L (.ref a :: st) M Q ↔ (a < zNC ∧ zk a = 4) ∧ zQ 18 88 L (zfv a 5 M :: st) M Q := zq_getf (n := 27) (b := false) (by decide +kernel) (by decide +kernel)
theorem q18_88 : zQ 18 88 [v0, v1, .int x] st M Q ↔ zQ 18 89 [v0, v1, .int x] (.int x :: st) M Q := zq_go (i := .iload_n 2) (by decide +kernel) rfl
theorem q18_89 : zQ 18 89 [v0, .ref a, v2] st M Q ↔ zQ 18 90 [v0, .ref a, v2] (.ref a :: st) M Q := zq_go (i := .aload_n 1) (by decide +kernel) rfl
theorem q18_90 : zQ 18 90 L (.ref a :: st) M Q ↔ (a < zNC ∧ zk a = 4) ∧ zQ 18 93 L (zfv a 5 M :: st) M Q := zq_getf (n := 27) (b := false) (by decide +kernel) (by decide +kernel)
theorem q18_93 : zQ 18 93 [v0, v1, .int x] st M Q ↔ zQ 18 94 [v0, v1, .int x] (.int x :: st) M Q := zq_go (i := .iload_n 2) (by decide +kernel) rfl
theorem q18_94 : zQ 18 94 L (.int x :: .ref a :: st) M Q ↔ (a < zNC ∧ zk a = 7 ∧ zin x (zn a) = true) ∧ zQ 18 95 L (.int (M a x.toNatClampNeg) :: st) M Q := zq_iald (by decide +kernel)
theorem q18_95 : zQ 18 95 L (.int x :: .int y :: .ref a :: st) M Q ↔ (a < zNC ∧ zk a = 7 ∧ zin y (zn a) = true) ∧ zQ 18 96 L st (zup M a y.toNatClampNeg x) Q := zq_iast (by decide +kernel)
theorem q18_96 : zQ 18 96 [.ref a, v1, v2] st M Q ↔ zQ 18 97 [.ref a, v1, v2] (.ref a :: st) M Q := zq_go (i := .aload_n 0) (by decide +kernel) rfl
theorem q18_97 : zQ 18 97 L (.ref a :: st) M Q ↔ (a < zNC ∧ zk a = 4) ∧ zQ 18 100 L (zfv a 6 M :: st) M Q := zq_getf (n := 30) (b := false) (by decide +kernel) (by decide +kernel)
theorem q18_100 : zQ 18 100 [v0, v1, .int x] st M Q ↔ zQ 18 101 [v0, v1, .int x] (.int x :: st) M Q := zq_go (i := .iload_n 2) (by decide +kernel) rfl
theorem q18_101 : zQ 18 101 [v0, .ref a, v2] st M Q ↔ zQ 18 102 [v0, .ref a, v2] (.ref a :: st) M Q := zq_go (i := .aload_n 1) (by decide +kernel) rfl
theorem q18_102 : zQ 18 102 L (.ref a :: st) M Q ↔ (a < zNC ∧ zk a = 4) ∧ zQ 18 105 L (zfv a 6 M :: st) M Q := zq_getf (n := 30) (b := false) (by decide +kernel) (by decide +kernel)
theorem q18_105 : zQ 18 105 [v0, v1, .int x] st M Q ↔ zQ 18 106 [v0, v1, .int x] (.int x :: st) M Q := zq_go (i := .iload_n 2) (by decide +kernel) rfl
theorem q18_106 : zQ 18 106 L (.int x :: .ref a :: st) M Q ↔ (a < zNC ∧ zk a = 8 ∧ zin x (zn a) = true) ∧ zQ 18 107 L (.int (M a x.toNatClampNeg) :: st) M Q := zq_bald (by decide +kernel)
theorem q18_107 : zQ 18 107 L (.int x :: .int y :: .ref a :: st) M Q ↔ (a < zNC ∧ zk a = 8 ∧ zin y (zn a) = true) ∧ zQ 18 108 L st (zup M a y.toNatClampNeg (vp_nar .boolean x)) Q := zq_bast (by decide +kernel)
theorem q18_108i : zQ 18 108 [v0, .int y, .int x] st M Q ↔ zQ 18 111 [v0, .int y, .int (x + 1)] st M Q := zq_inc (k := 2) (n := 1) (x := x) (v := 1) (by decide +kernel) (by decide +kernel) rfl rfl rfl rfl
theorem q18_108r : zQ 18 108 [v0, .ref r1, .int x] st M Q ↔ zQ 18 111 [v0, .ref r1, .int (x + 1)] st M Q := zq_inc (k := 2) (n := 1) (x := x) (v := 1) (by decide +kernel) (by decide +kernel) rfl rfl rfl rfl
theorem q18_108n : zQ 18 108 [v0, .null, .int x] st M Q ↔ zQ 18 111 [v0, .null, .int (x + 1)] st M Q := zq_inc (k := 2) (n := 1) (x := x) (v := 1) (by decide +kernel) (by decide +kernel) rfl rfl rfl rfl
theorem q18_111 : zQ 18 111 L st M Q ↔ zQ 18 18 L st M Q := zq_jmp (off := (-93)) (by decide +kernel) (by decide)
theorem q18_114 : zQ 18 114 L [] M Q ↔ Q none M := zq_reV (by decide +kernel) (by decide +kernel)
-- 19 SandKeepers$Town.readText(LSandKeepers$Sheet;II)I
theorem q19_0 : zQ 19 0 L st M Q ↔ zQ 19 1 L (.int 0 :: st) M Q := zq_con (n := 0) (by decide +kernel) (by decide +kernel) rfl
theorem q19_1i : zQ 19 1 [v0, v1, v2, .int y, v4] (.int x :: st) M Q ↔ zQ 19 3 [v0, v1, v2, .int y, .int x] st M Q := zq_stI (i := .istore 4) (k := 4) (by decide +kernel) rfl (Nat.le_of_ble_eq_true rfl) rfl rfl
theorem q19_1r : zQ 19 1 [v0, v1, v2, .ref r1, v4] (.int x :: st) M Q ↔ zQ 19 3 [v0, v1, v2, .ref r1, .int x] st M Q := zq_stI (i := .istore 4) (k := 4) (by decide +kernel) rfl (Nat.le_of_ble_eq_true rfl) rfl rfl
theorem q19_1n : zQ 19 1 [v0, v1, v2, .null, v4] (.int x :: st) M Q ↔ zQ 19 3 [v0, v1, v2, .null, .int x] st M Q := zq_stI (i := .istore 4) (k := 4) (by decide +kernel) rfl (Nat.le_of_ble_eq_true rfl) rfl rfl
theorem q19_3 : zQ 19 3 [v0, v1, v2, v3, .int x] st M Q ↔ zQ 19 5 [v0, v1, v2, v3, .int x] (.int x :: st) M Q := zq_go (i := .iload 4) (by decide +kernel) rfl
theorem q19_5 : zQ 19 5 [v0, v1, v2, .int x, v4] st M Q ↔ zQ 19 6 [v0, v1, v2, .int x, v4] (.int x :: st) M Q := zq_go (i := .iload_n 3) (by decide +kernel) rfl
theorem q19_6 : zQ 19 6 L (.int y :: .int x :: st) M Q ↔ (y ≤ x → zQ 19 36 L st M Q) ∧ (¬ y ≤ x → zQ 19 9 L st M Q) := zq_br (i := .if_icmp .ge 30) (off := 30) (by decide +kernel) rfl (by decide) rfl
theorem q19_9 : zQ 19 9 [.ref a, v1, v2, v3, v4] st M Q ↔ zQ 19 10 [.ref a, v1, v2, v3, v4] (.ref a :: st) M Q := zq_go (i := .aload_n 0) (by decide +kernel) rfl
theorem q19_10 : zQ 19 10 [v0, v1, v2, v3, .int x] st M Q ↔ zQ 19 12 [v0, v1, v2, v3, .int x] (.int x :: st) M Q := zq_go (i := .iload 4) (by decide +kernel) rfl
theorem q19_12 : zQ 19 12 [v0, .ref a, v2, v3, v4] st M Q ↔ zQ 19 13 [v0, .ref a, v2, v3, v4] (.ref a :: st) M Q := zq_go (i := .aload_n 1) (by decide +kernel) rfl
theorem q19_13 : zQ 19 13 L (.ref a :: st) M Q ↔ (a < zNC ∧ zk a = 2) ∧ zQ 19 16 L (zfv a 0 M :: st) M Q := zq_getf (n := 45) (b := true) (by decide +kernel) (by decide +kernel)
theorem q19_16 : zQ 19 16 [v0, v1, .int x, v3, v4] st M Q ↔ zQ 19 17 [v0, v1, .int x, v3, v4] (.int x :: st) M Q := zq_go (i := .iload_n 2) (by decide +kernel) rfl
theorem q19_17 : zQ 19 17 [v0, v1, v2, v3, .int x] st M Q ↔ zQ 19 19 [v0, v1, v2, v3, .int x] (.int x :: st) M Q := zq_go (i := .iload 4) (by decide +kernel) rfl
theorem q19_19 : zQ 19 19 L (.int y :: .int x :: st) M Q ↔ zQ 19 20 L (.int (x + y) :: st) M Q := zq_go (i := .iadd) (by decide +kernel) rfl
theorem q19_20 : zQ 19 20 L (.int x :: .ref a :: st) M Q ↔ (a < zNC ∧ zk a = 7 ∧ zin x (zn a) = true) ∧ zQ 19 21 L (.int (M a x.toNatClampNeg) :: st) M Q := zq_iald (by decide +kernel)
theorem q19_21 : zQ 19 21 L (.int x2 :: .int x1 :: .ref a :: st) M Q ↔ (zcs st ≤ 8 ∧ a < zNC ∧ zk a = 4) ∧ zQ 20 0 [.ref a, .int x1, .int x2, .null] [] M (fun r M1 => zQ 19 24 L (zpush r st) M1 Q) := zq_callV (n := 50) (j := 20) (b := false) (As := [.int x1, .int x2]) (by decide +kernel) (by decide +kernel) ⟨by decide +kernel, by decide +kernel, rfl, by decide +kernel, by decide +kernel, Nat.le_of_ble_eq_true rfl⟩ rfl
theorem q19_24 : zQ 19 24 L (.int x :: st) M Q ↔ (x = 0 → zQ 19 27 L st M Q) ∧ (¬ x = 0 → zQ 19 30 L st M Q) := zq_bn (i := .ifCond .ne 6) (off := 6) (by decide +kernel) rfl (by decide) rfl
theorem q19_27 : zQ 19 27 [v0, v1, v2, v3, .int x] st M Q ↔ zQ 19 29 [v0, v1, v2, v3, .int x] (.int x :: st) M Q := zq_go (i := .iload 4) (by decide +kernel) rfl
theorem q19_29 : zQ 19 29 L [.int x] M Q ↔ Q (zI x) M := zq_reI (by decide +kernel) (by decide +kernel)
theorem q19_30i : zQ 19 30 [v0, v1, v2, .int y, .int x] st M Q ↔ zQ 19 33 [v0, v1, v2, .int y, .int (x + 1)] st M Q := zq_inc (k := 4) (n := 1) (x := x) (v := 1) (by decide +kernel) (by decide +kernel) rfl rfl rfl rfl
theorem q19_30r : zQ 19 30 [v0, v1, v2, .ref r1, .int x] st M Q ↔ zQ 19 33 [v0, v1, v2, .ref r1, .int (x + 1)] st M Q := zq_inc (k := 4) (n := 1) (x := x) (v := 1) (by decide +kernel) (by decide +kernel) rfl rfl rfl rfl
theorem q19_30n : zQ 19 30 [v0, v1, v2, .null, .int x] st M Q ↔ zQ 19 33 [v0, v1, v2, .null, .int (x + 1)] st M Q := zq_inc (k := 4) (n := 1) (x := x) (v := 1) (by decide +kernel) (by decide +kernel) rfl rfl rfl rfl
theorem q19_33 : zQ 19 33 L st M Q ↔ zQ 19 3 L st M Q := zq_jmp (off := (-30)) (by decide +kernel) (by decide)
theorem q19_36 : zQ 19 36 [v0, v1, v2, .int x, v4] st M Q ↔ zQ 19 37 [v0, v1, v2, .int x, v4] (.int x :: st) M Q := zq_go (i := .iload_n 3) (by decide +kernel) rfl
theorem q19_37 : zQ 19 37 L st M Q ↔ zQ 19 38 L (.int 2 :: st) M Q := zq_con (n := 2) (by decide +kernel) (by decide +kernel) rfl
theorem q19_38 : zQ 19 38 L (.int y :: .int x :: st) M Q ↔ (x < y → zQ 19 54 L st M Q) ∧ (¬ x < y → zQ 19 41 L st M Q) := zq_br (i := .if_icmp .lt 16) (off := 16) (by decide +kernel) rfl (by decide) rfl
theorem q19_41 : zQ 19 41 [v0, v1, v2, .int x, v4] st M Q ↔ zQ 19 42 [v0, v1, v2, .int x, v4] (.int x :: st) M Q := zq_go (i := .iload_n 3) (by decide +kernel) rfl
theorem q19_42 : zQ 19 42 L st M Q ↔ zQ 19 43 L (.int 2 :: st) M Q := zq_con (n := 2) (by decide +kernel) (by decide +kernel) rfl
theorem q19_43 : zQ 19 43 L st M Q ↔ zQ 19 45 L (.int 7 :: st) M Q := zq_bip (n := 7) (by decide +kernel) (by decide +kernel) rfl
theorem q19_45 : zQ 19 45 [.ref a, v1, v2, v3, v4] st M Q ↔ zQ 19 46 [.ref a, v1, v2, v3, v4] (.ref a :: st) M Q := zq_go (i := .aload_n 0) (by decide +kernel) rfl
theorem q19_46 : zQ 19 46 L (.ref a :: st) M Q ↔ (a < zNC ∧ zk a = 4) ∧ zQ 19 49 L (zfv a 7 M :: st) M Q := zq_getf (n := 34) (b := false) (by decide +kernel) (by decide +kernel)
theorem q19_49 : zQ 19 49 L (.int y :: .int x :: st) M Q ↔ zQ 19 50 L (.int (x * y) :: st) M Q := zq_go (i := .imul) (by decide +kernel) rfl
theorem q19_50 : zQ 19 50 L (.int y :: .int x :: st) M Q ↔ zQ 19 51 L (.int (x + y) :: st) M Q := zq_go (i := .iadd) (by decide +kernel) rfl
theorem q19_51 : zQ 19 51 L (.int y :: .int x :: st) M Q ↔ (y ≤ x → zQ 19 56 L st M Q) ∧ (¬ y ≤ x → zQ 19 54 L st M Q) := zq_br (i := .if_icmp .ge 5) (off := 5) (by decide +kernel) rfl (by decide) rfl
theorem q19_54 : zQ 19 54 [v0, v1, v2, .int x, v4] st M Q ↔ zQ 19 55 [v0, v1, v2, .int x, v4] (.int x :: st) M Q := zq_go (i := .iload_n 3) (by decide +kernel) rfl
theorem q19_55 : zQ 19 55 L [.int x] M Q ↔ Q (zI x) M := zq_reI (by decide +kernel) (by decide +kernel)
theorem q19_56 : zQ 19 56 [.ref a, v1, v2, v3, v4] st M Q ↔ zQ 19 57 [.ref a, v1, v2, v3, v4] (.ref a :: st) M Q := zq_go (i := .aload_n 0) (by decide +kernel) rfl
theorem q19_57 : zQ 19 57 L st M Q ↔ zQ 19 58 L (.int 0 :: st) M Q := zq_con (n := 0) (by decide +kernel) (by decide +kernel) rfl
theorem q19_58 : zQ 19 58 L (.int x :: .ref a :: st) M Q ↔ (a < zNC ∧ zk a = 4 ∧ zf a 8 = none) ∧ zQ 19 61 L st (zup M a 8 x) Q := zq_putf (n := 42) (b := false) (by decide +kernel) (by decide +kernel) (by decide +kernel)
theorem q19_61 : zQ 19 61 L st M Q ↔ zQ 19 62 L (.int 0 :: st) M Q := zq_con (n := 0) (by decide +kernel) (by decide +kernel) rfl
theorem q19_62i : zQ 19 62 [v0, v1, v2, .int y, v4] (.int x :: st) M Q ↔ zQ 19 64 [v0, v1, v2, .int y, .int x] st M Q := zq_stI (i := .istore 4) (k := 4) (by decide +kernel) rfl (Nat.le_of_ble_eq_true rfl) rfl rfl
theorem q19_62r : zQ 19 62 [v0, v1, v2, .ref r1, v4] (.int x :: st) M Q ↔ zQ 19 64 [v0, v1, v2, .ref r1, .int x] st M Q := zq_stI (i := .istore 4) (k := 4) (by decide +kernel) rfl (Nat.le_of_ble_eq_true rfl) rfl rfl
theorem q19_62n : zQ 19 62 [v0, v1, v2, .null, v4] (.int x :: st) M Q ↔ zQ 19 64 [v0, v1, v2, .null, .int x] st M Q := zq_stI (i := .istore 4) (k := 4) (by decide +kernel) rfl (Nat.le_of_ble_eq_true rfl) rfl rfl
theorem q19_64 : zQ 19 64 [v0, v1, v2, v3, .int x] st M Q ↔ zQ 19 66 [v0, v1, v2, v3, .int x] (.int x :: st) M Q := zq_go (i := .iload 4) (by decide +kernel) rfl
theorem q19_66 : zQ 19 66 [.ref a, v1, v2, v3, v4] st M Q ↔ zQ 19 67 [.ref a, v1, v2, v3, v4] (.ref a :: st) M Q := zq_go (i := .aload_n 0) (by decide +kernel) rfl
theorem q19_67 : zQ 19 67 L (.ref a :: st) M Q ↔ (a < zNC ∧ zk a = 4) ∧ zQ 19 70 L (zfv a 7 M :: st) M Q := zq_getf (n := 34) (b := false) (by decide +kernel) (by decide +kernel)
theorem q19_70 : zQ 19 70 L (.int y :: .int x :: st) M Q ↔ (y ≤ x → zQ 19 101 L st M Q) ∧ (¬ y ≤ x → zQ 19 73 L st M Q) := zq_br (i := .if_icmp .ge 31) (off := 31) (by decide +kernel) rfl (by decide) rfl
theorem q19_73 : zQ 19 73 [.ref a, v1, v2, v3, v4] st M Q ↔ zQ 19 74 [.ref a, v1, v2, v3, v4] (.ref a :: st) M Q := zq_go (i := .aload_n 0) (by decide +kernel) rfl
theorem q19_74 : zQ 19 74 L (.ref a :: st) M Q ↔ (a < zNC ∧ zk a = 4) ∧ zQ 19 77 L (zfv a 1 M :: st) M Q := zq_getf (n := 15) (b := false) (by decide +kernel) (by decide +kernel)
theorem q19_77 : zQ 19 77 [v0, v1, v2, v3, .int x] st M Q ↔ zQ 19 79 [v0, v1, v2, v3, .int x] (.int x :: st) M Q := zq_go (i := .iload 4) (by decide +kernel) rfl
theorem q19_79 : zQ 19 79 [.ref a, v1, v2, v3, v4] st M Q ↔ zQ 19 80 [.ref a, v1, v2, v3, v4] (.ref a :: st) M Q := zq_go (i := .aload_n 0) (by decide +kernel) rfl
theorem q19_80 : zQ 19 80 L (.ref a :: st) M Q ↔ (a < zNC ∧ zk a = 4) ∧ zQ 19 83 L (zfv a 2 M :: st) M Q := zq_getf (n := 18) (b := false) (by decide +kernel) (by decide +kernel)
theorem q19_83 : zQ 19 83 [v0, v1, v2, v3, .int x] st M Q ↔ zQ 19 85 [v0, v1, v2, v3, .int x] (.int x :: st) M Q := zq_go (i := .iload 4) (by decide +kernel) rfl
theorem q19_85 : zQ 19 85 L (.int x :: .ref a :: st) M Q ↔ (a < zNC ∧ zk a = 7 ∧ zin x (zn a) = true) ∧ zQ 19 86 L (.int (M a x.toNatClampNeg) :: st) M Q := zq_iald (by decide +kernel)
theorem q19_86 : zQ 19 86 L (.int x :: .int y :: .ref a :: st) M Q ↔ (a < zNC ∧ zk a = 7 ∧ zin y (zn a) = true) ∧ zQ 19 87 L st (zup M a y.toNatClampNeg x) Q := zq_iast (by decide +kernel)
theorem q19_87 : zQ 19 87 [.ref a, v1, v2, v3, v4] st M Q ↔ zQ 19 88 [.ref a, v1, v2, v3, v4] (.ref a :: st) M Q := zq_go (i := .aload_n 0) (by decide +kernel) rfl
theorem q19_88 : zQ 19 88 L (.ref a :: st) M Q ↔ (a < zNC ∧ zk a = 4) ∧ zQ 19 91 L (zfv a 6 M :: st) M Q := zq_getf (n := 30) (b := false) (by decide +kernel) (by decide +kernel)
theorem q19_91 : zQ 19 91 [v0, v1, v2, v3, .int x] st M Q ↔ zQ 19 93 [v0, v1, v2, v3, .int x] (.int x :: st) M Q := zq_go (i := .iload 4) (by decide +kernel) rfl
theorem q19_93 : zQ 19 93 L st M Q ↔ zQ 19 94 L (.int 0 :: st) M Q := zq_con (n := 0) (by decide +kernel) (by decide +kernel) rfl
theorem q19_94 : zQ 19 94 L (.int x :: .int y :: .ref a :: st) M Q ↔ (a < zNC ∧ zk a = 8 ∧ zin y (zn a) = true) ∧ zQ 19 95 L st (zup M a y.toNatClampNeg (vp_nar .boolean x)) Q := zq_bast (by decide +kernel)
theorem q19_95i : zQ 19 95 [v0, v1, v2, .int y, .int x] st M Q ↔ zQ 19 98 [v0, v1, v2, .int y, .int (x + 1)] st M Q := zq_inc (k := 4) (n := 1) (x := x) (v := 1) (by decide +kernel) (by decide +kernel) rfl rfl rfl rfl
theorem q19_95r : zQ 19 95 [v0, v1, v2, .ref r1, .int x] st M Q ↔ zQ 19 98 [v0, v1, v2, .ref r1, .int (x + 1)] st M Q := zq_inc (k := 4) (n := 1) (x := x) (v := 1) (by decide +kernel) (by decide +kernel) rfl rfl rfl rfl
theorem q19_95n : zQ 19 95 [v0, v1, v2, .null, .int x] st M Q ↔ zQ 19 98 [v0, v1, v2, .null, .int (x + 1)] st M Q := zq_inc (k := 4) (n := 1) (x := x) (v := 1) (by decide +kernel) (by decide +kernel) rfl rfl rfl rfl
theorem q19_98 : zQ 19 98 L st M Q ↔ zQ 19 64 L st M Q := zq_jmp (off := (-34)) (by decide +kernel) (by decide)
theorem q19_101 : zQ 19 101 L st M Q ↔ zQ 19 102 L (.int (-1) :: st) M Q := zq_con (n := (-1)) (by decide +kernel) (by decide +kernel) rfl
theorem q19_102 : zQ 19 102 L [.int x] M Q ↔ Q (zI x) M := zq_reI (by decide +kernel) (by decide +kernel)
-- 20 SandKeepers$Town.takesCode(II)Z
theorem q20_0 : zQ 20 0 [v0, .int x, v2, v3] st M Q ↔ zQ 20 1 [v0, .int x, v2, v3] (.int x :: st) M Q := zq_go (i := .iload_n 1) (by decide +kernel) rfl
theorem q20_1 : zQ 20 1 L (.int x :: st) M Q ↔ (x = 0 → zQ 20 4 L st M Q) ∧ (¬ x = 0 → zQ 20 16 L st M Q) := zq_bn (i := .ifCond .ne 15) (off := 15) (by decide +kernel) rfl (by decide) rfl
theorem q20_4 : zQ 20 4 [v0, v1, .int x, v3] st M Q ↔ zQ 20 5 [v0, v1, .int x, v3] (.int x :: st) M Q := zq_go (i := .iload_n 2) (by decide +kernel) rfl
theorem q20_5 : zQ 20 5 L st M Q ↔ zQ 20 7 L (.int 115 :: st) M Q := zq_bip (n := 115) (by decide +kernel) (by decide +kernel) rfl
theorem q20_7 : zQ 20 7 L (.int y :: .int x :: st) M Q ↔ (x = y → zQ 20 10 L st M Q) ∧ (¬ x = y → zQ 20 14 L st M Q) := zq_bn (i := .if_icmp .ne 7) (off := 7) (by decide +kernel) rfl (by decide) rfl
theorem q20_10 : zQ 20 10 L st M Q ↔ zQ 20 11 L (.int 1 :: st) M Q := zq_con (n := 1) (by decide +kernel) (by decide +kernel) rfl
theorem q20_11 : zQ 20 11 L st M Q ↔ zQ 20 15 L st M Q := zq_jmp (off := 4) (by decide +kernel) (by decide)
theorem q20_14 : zQ 20 14 L st M Q ↔ zQ 20 15 L (.int 0 :: st) M Q := zq_con (n := 0) (by decide +kernel) (by decide +kernel) rfl
theorem q20_15 : zQ 20 15 L [.int x] M Q ↔ (x = 0 ∨ x = 1) ∧ Q (zI x) M := zq_reZ (by decide +kernel) (by decide +kernel)
theorem q20_16 : zQ 20 16 [v0, .int x, v2, v3] st M Q ↔ zQ 20 17 [v0, .int x, v2, v3] (.int x :: st) M Q := zq_go (i := .iload_n 1) (by decide +kernel) rfl
theorem q20_17 : zQ 20 17 L st M Q ↔ zQ 20 18 L (.int 1 :: st) M Q := zq_con (n := 1) (by decide +kernel) (by decide +kernel) rfl
theorem q20_18 : zQ 20 18 L (.int y :: .int x :: st) M Q ↔ (x = y → zQ 20 21 L st M Q) ∧ (¬ x = y → zQ 20 52 L st M Q) := zq_bn (i := .if_icmp .ne 34) (off := 34) (by decide +kernel) rfl (by decide) rfl
theorem q20_21 : zQ 20 21 [.ref a, v1, v2, v3] st M Q ↔ zQ 20 22 [.ref a, v1, v2, v3] (.ref a :: st) M Q := zq_go (i := .aload_n 0) (by decide +kernel) rfl
theorem q20_22 : zQ 20 22 [v0, v1, .int x, v3] st M Q ↔ zQ 20 23 [v0, v1, .int x, v3] (.int x :: st) M Q := zq_go (i := .iload_n 2) (by decide +kernel) rfl
theorem q20_23 : zQ 20 23 L (.int x1 :: st) M Q ↔ zcs st ≤ 8 ∧ zQ 22 0 [.int x1] [] M (fun r M1 => zQ 20 26 L (zpush r st) M1 Q) := zq_callS (n := 53) (j := 22) (b := false) (As := [.int x1]) (by decide +kernel) (by decide +kernel) ⟨by decide +kernel, by decide +kernel, rfl, by decide +kernel, by decide +kernel, Nat.le_of_ble_eq_true rfl⟩ rfl
theorem q20_26 : zQ 20 26 L (.int x :: .ref a :: st) M Q ↔ (a < zNC ∧ zk a = 4 ∧ zf a 7 = none) ∧ zQ 20 29 L st (zup M a 7 x) Q := zq_putf (n := 34) (b := false) (by decide +kernel) (by decide +kernel) (by decide +kernel)
theorem q20_29 : zQ 20 29 [.ref a, v1, v2, v3] st M Q ↔ zQ 20 30 [.ref a, v1, v2, v3] (.ref a :: st) M Q := zq_go (i := .aload_n 0) (by decide +kernel) rfl
theorem q20_30 : zQ 20 30 L (.ref a :: st) M Q ↔ (a < zNC ∧ zk a = 4) ∧ zQ 20 33 L (zfv a 7 M :: st) M Q := zq_getf (n := 34) (b := false) (by decide +kernel) (by decide +kernel)
theorem q20_33 : zQ 20 33 L st M Q ↔ zQ 20 34 L (.int 2 :: st) M Q := zq_con (n := 2) (by decide +kernel) (by decide +kernel) rfl
theorem q20_34 : zQ 20 34 L (.int y :: .int x :: st) M Q ↔ (x < y → zQ 20 50 L st M Q) ∧ (¬ x < y → zQ 20 37 L st M Q) := zq_br (i := .if_icmp .lt 16) (off := 16) (by decide +kernel) rfl (by decide) rfl
theorem q20_37 : zQ 20 37 [.ref a, v1, v2, v3] st M Q ↔ zQ 20 38 [.ref a, v1, v2, v3] (.ref a :: st) M Q := zq_go (i := .aload_n 0) (by decide +kernel) rfl
theorem q20_38 : zQ 20 38 L (.ref a :: st) M Q ↔ (a < zNC ∧ zk a = 4) ∧ zQ 20 41 L (zfv a 7 M :: st) M Q := zq_getf (n := 34) (b := false) (by decide +kernel) (by decide +kernel)
theorem q20_41 : zQ 20 41 L st M Q ↔ zQ 20 43 L (.int 6 :: st) M Q := zq_bip (n := 6) (by decide +kernel) (by decide +kernel) rfl
theorem q20_43 : zQ 20 43 L (.int y :: .int x :: st) M Q ↔ (y < x → zQ 20 50 L st M Q) ∧ (¬ y < x → zQ 20 46 L st M Q) := zq_br (i := .if_icmp .gt 7) (off := 7) (by decide +kernel) rfl (by decide) rfl
theorem q20_46 : zQ 20 46 L st M Q ↔ zQ 20 47 L (.int 1 :: st) M Q := zq_con (n := 1) (by decide +kernel) (by decide +kernel) rfl
theorem q20_47 : zQ 20 47 L st M Q ↔ zQ 20 51 L st M Q := zq_jmp (off := 4) (by decide +kernel) (by decide)
theorem q20_50 : zQ 20 50 L st M Q ↔ zQ 20 51 L (.int 0 :: st) M Q := zq_con (n := 0) (by decide +kernel) (by decide +kernel) rfl
theorem q20_51 : zQ 20 51 L [.int x] M Q ↔ (x = 0 ∨ x = 1) ∧ Q (zI x) M := zq_reZ (by decide +kernel) (by decide +kernel)
theorem q20_52 : zQ 20 52 [v0, .int x, v2, v3] st M Q ↔ zQ 20 53 [v0, .int x, v2, v3] (.int x :: st) M Q := zq_go (i := .iload_n 1) (by decide +kernel) rfl
theorem q20_53 : zQ 20 53 L st M Q ↔ zQ 20 54 L (.int 2 :: st) M Q := zq_con (n := 2) (by decide +kernel) (by decide +kernel) rfl
theorem q20_54 : zQ 20 54 L (.int y :: .int x :: st) M Q ↔ zQ 20 55 L (.int (x - y) :: st) M Q := zq_go (i := .isub) (by decide +kernel) rfl
theorem q20_55 : zQ 20 55 L st M Q ↔ zQ 20 57 L (.int 7 :: st) M Q := zq_bip (n := 7) (by decide +kernel) (by decide +kernel) rfl
theorem q20_57 : zQ 20 57 L (.int y :: .int x :: st) M Q ↔ ¬ y = 0 ∧ zQ 20 58 L (.int (x / y) :: st) M Q := zq_div (by decide +kernel)
theorem q20_58i : zQ 20 58 [v0, v1, .int y, v3] (.int x :: st) M Q ↔ zQ 20 59 [v0, v1, .int y, .int x] st M Q := zq_stI (i := .istore_n 3) (k := 3) (by decide +kernel) rfl (Nat.le_of_ble_eq_true rfl) rfl rfl
theorem q20_58r : zQ 20 58 [v0, v1, .ref r1, v3] (.int x :: st) M Q ↔ zQ 20 59 [v0, v1, .ref r1, .int x] st M Q := zq_stI (i := .istore_n 3) (k := 3) (by decide +kernel) rfl (Nat.le_of_ble_eq_true rfl) rfl rfl
theorem q20_58n : zQ 20 58 [v0, v1, .null, v3] (.int x :: st) M Q ↔ zQ 20 59 [v0, v1, .null, .int x] st M Q := zq_stI (i := .istore_n 3) (k := 3) (by decide +kernel) rfl (Nat.le_of_ble_eq_true rfl) rfl rfl
theorem q20_59 : zQ 20 59 [.ref a, v1, v2, v3] st M Q ↔ zQ 20 60 [.ref a, v1, v2, v3] (.ref a :: st) M Q := zq_go (i := .aload_n 0) (by decide +kernel) rfl
theorem q20_60 : zQ 20 60 [v0, v1, v2, .int x] st M Q ↔ zQ 20 61 [v0, v1, v2, .int x] (.int x :: st) M Q := zq_go (i := .iload_n 3) (by decide +kernel) rfl
theorem q20_61 : zQ 20 61 L (.int x1 :: .ref a :: st) M Q ↔ (zcs st ≤ 8 ∧ a < zNC ∧ zk a = 4) ∧ zQ 17 0 [.ref a, .int x1] [] M (fun r M1 => zQ 20 64 L (zpush r st) M1 Q) := zq_callV (n := 57) (j := 17) (b := false) (As := [.int x1]) (by decide +kernel) (by decide +kernel) ⟨by decide +kernel, by decide +kernel, rfl, by decide +kernel, by decide +kernel, Nat.le_of_ble_eq_true rfl⟩ rfl
theorem q20_64 : zQ 20 64 L (.int x :: st) M Q ↔ (x = 0 → zQ 20 86 L st M Q) ∧ (¬ x = 0 → zQ 20 67 L st M Q) := zq_br (i := .ifCond .eq 22) (off := 22) (by decide +kernel) rfl (by decide) rfl
theorem q20_67 : zQ 20 67 [.ref a, v1, v2, v3] st M Q ↔ zQ 20 68 [.ref a, v1, v2, v3] (.ref a :: st) M Q := zq_go (i := .aload_n 0) (by decide +kernel) rfl
theorem q20_68 : zQ 20 68 [v0, v1, v2, .int x] st M Q ↔ zQ 20 69 [v0, v1, v2, .int x] (.int x :: st) M Q := zq_go (i := .iload_n 3) (by decide +kernel) rfl
theorem q20_69 : zQ 20 69 [v0, .int x, v2, v3] st M Q ↔ zQ 20 70 [v0, .int x, v2, v3] (.int x :: st) M Q := zq_go (i := .iload_n 1) (by decide +kernel) rfl
theorem q20_70 : zQ 20 70 L st M Q ↔ zQ 20 71 L (.int 2 :: st) M Q := zq_con (n := 2) (by decide +kernel) (by decide +kernel) rfl
theorem q20_71 : zQ 20 71 L (.int y :: .int x :: st) M Q ↔ zQ 20 72 L (.int (x - y) :: st) M Q := zq_go (i := .isub) (by decide +kernel) rfl
theorem q20_72 : zQ 20 72 L st M Q ↔ zQ 20 74 L (.int 7 :: st) M Q := zq_bip (n := 7) (by decide +kernel) (by decide +kernel) rfl
theorem q20_74 : zQ 20 74 L (.int y :: .int x :: st) M Q ↔ ¬ y = 0 ∧ zQ 20 75 L (.int (x - x / y * y) :: st) M Q := zq_rem (by decide +kernel)
theorem q20_75 : zQ 20 75 [v0, v1, .int x, v3] st M Q ↔ zQ 20 76 [v0, v1, .int x, v3] (.int x :: st) M Q := zq_go (i := .iload_n 2) (by decide +kernel) rfl
theorem q20_76 : zQ 20 76 L (.int x3 :: .int x2 :: .int x1 :: .ref a :: st) M Q ↔ (zcs st ≤ 8 ∧ a < zNC ∧ zk a = 4) ∧ zQ 21 0 [.ref a, .int x1, .int x2, .int x3, .null] [] M (fun r M1 => zQ 20 79 L (zpush r st) M1 Q) := zq_callV (n := 61) (j := 21) (b := false) (As := [.int x1, .int x2, .int x3]) (by decide +kernel) (by decide +kernel) ⟨by decide +kernel, by decide +kernel, rfl, by decide +kernel, by decide +kernel, Nat.le_of_ble_eq_true rfl⟩ rfl
theorem q20_79 : zQ 20 79 L (.int x :: st) M Q ↔ (x = 0 → zQ 20 86 L st M Q) ∧ (¬ x = 0 → zQ 20 82 L st M Q) := zq_br (i := .ifCond .eq 7) (off := 7) (by decide +kernel) rfl (by decide) rfl
theorem q20_82 : zQ 20 82 L st M Q ↔ zQ 20 83 L (.int 1 :: st) M Q := zq_con (n := 1) (by decide +kernel) (by decide +kernel) rfl
theorem q20_83 : zQ 20 83 L st M Q ↔ zQ 20 87 L st M Q := zq_jmp (off := 4) (by decide +kernel) (by decide)
theorem q20_86 : zQ 20 86 L st M Q ↔ zQ 20 87 L (.int 0 :: st) M Q := zq_con (n := 0) (by decide +kernel) (by decide +kernel) rfl
theorem q20_87 : zQ 20 87 L [.int x] M Q ↔ (x = 0 ∨ x = 1) ∧ Q (zI x) M := zq_reZ (by decide +kernel) (by decide +kernel)
-- 21 SandKeepers$Town.takesCodeOfHouse(III)Z
theorem q21_0 : zQ 21 0 [v0, v1, v2, .int x, v4] st M Q ↔ zQ 21 1 [v0, v1, v2, .int x, v4] (.int x :: st) M Q := zq_go (i := .iload_n 3) (by decide +kernel) rfl
theorem q21_1 : zQ 21 1 L (.int x1 :: st) M Q ↔ zcs st ≤ 8 ∧ zQ 22 0 [.int x1] [] M (fun r M1 => zQ 21 4 L (zpush r st) M1 Q) := zq_callS (n := 53) (j := 22) (b := false) (As := [.int x1]) (by decide +kernel) (by decide +kernel) ⟨by decide +kernel, by decide +kernel, rfl, by decide +kernel, by decide +kernel, Nat.le_of_ble_eq_true rfl⟩ rfl
theorem q21_4i : zQ 21 4 [v0, v1, v2, .int y, v4] (.int x :: st) M Q ↔ zQ 21 6 [v0, v1, v2, .int y, .int x] st M Q := zq_stI (i := .istore 4) (k := 4) (by decide +kernel) rfl (Nat.le_of_ble_eq_true rfl) rfl rfl
theorem q21_4r : zQ 21 4 [v0, v1, v2, .ref r1, v4] (.int x :: st) M Q ↔ zQ 21 6 [v0, v1, v2, .ref r1, .int x] st M Q := zq_stI (i := .istore 4) (k := 4) (by decide +kernel) rfl (Nat.le_of_ble_eq_true rfl) rfl rfl
theorem q21_4n : zQ 21 4 [v0, v1, v2, .null, v4] (.int x :: st) M Q ↔ zQ 21 6 [v0, v1, v2, .null, .int x] st M Q := zq_stI (i := .istore 4) (k := 4) (by decide +kernel) rfl (Nat.le_of_ble_eq_true rfl) rfl rfl
theorem q21_6 : zQ 21 6 [v0, v1, .int x, v3, v4] st M Q ↔ zQ 21 7 [v0, v1, .int x, v3, v4] (.int x :: st) M Q := zq_go (i := .iload_n 2) (by decide +kernel) rfl
theorem q21_7 : zQ 21 7 L (.int x :: st) M Q ↔ zQ 21 (ztgt 7 (ztabo 161 0 5 #[37, 49, 74, 96, 127, 146] x.toInt)) L st M Q := zq_tab (by decide +kernel) (by decide) (by decide)
theorem q21_44 : zQ 21 44 [v0, v1, v2, .int x, v4] st M Q ↔ zQ 21 45 [v0, v1, v2, .int x, v4] (.int x :: st) M Q := zq_go (i := .iload_n 3) (by decide +kernel) rfl
theorem q21_45 : zQ 21 45 L st M Q ↔ zQ 21 47 L (.int 59 :: st) M Q := zq_bip (n := 59) (by decide +kernel) (by decide +kernel) rfl
theorem q21_47 : zQ 21 47 L (.int y :: .int x :: st) M Q ↔ (x = y → zQ 21 50 L st M Q) ∧ (¬ x = y → zQ 21 54 L st M Q) := zq_bn (i := .if_icmp .ne 7) (off := 7) (by decide +kernel) rfl (by decide) rfl
theorem q21_50 : zQ 21 50 L st M Q ↔ zQ 21 51 L (.int 1 :: st) M Q := zq_con (n := 1) (by decide +kernel) (by decide +kernel) rfl
theorem q21_51 : zQ 21 51 L st M Q ↔ zQ 21 55 L st M Q := zq_jmp (off := 4) (by decide +kernel) (by decide)
theorem q21_54 : zQ 21 54 L st M Q ↔ zQ 21 55 L (.int 0 :: st) M Q := zq_con (n := 0) (by decide +kernel) (by decide +kernel) rfl
theorem q21_55 : zQ 21 55 L [.int x] M Q ↔ (x = 0 ∨ x = 1) ∧ Q (zI x) M := zq_reZ (by decide +kernel) (by decide +kernel)
theorem q21_56 : zQ 21 56 [.ref a, v1, v2, v3, v4] st M Q ↔ zQ 21 57 [.ref a, v1, v2, v3, v4] (.ref a :: st) M Q := zq_go (i := .aload_n 0) (by decide +kernel) rfl
theorem q21_57 : zQ 21 57 L (.ref a :: st) M Q ↔ (a < zNC ∧ zk a = 4) ∧ zQ 21 60 L (zfv a 0 M :: st) M Q := zq_getf (n := 9) (b := false) (by decide +kernel) (by decide +kernel)
theorem q21_60 : zQ 21 60 [v0, .int x, v2, v3, v4] st M Q ↔ zQ 21 61 [v0, .int x, v2, v3, v4] (.int x :: st) M Q := zq_go (i := .iload_n 1) (by decide +kernel) rfl
theorem q21_61 : zQ 21 61 [v0, v1, v2, .int x, v4] st M Q ↔ zQ 21 62 [v0, v1, v2, .int x, v4] (.int x :: st) M Q := zq_go (i := .iload_n 3) (by decide +kernel) rfl
theorem q21_62 : zQ 21 62 L (.int x1 :: st) M Q ↔ zcs st ≤ 8 ∧ zQ 23 0 [.int x1] [] M (fun r M1 => zQ 21 65 L (zpush r st) M1 Q) := zq_callS (n := 65) (j := 23) (b := false) (As := [.int x1]) (by decide +kernel) (by decide +kernel) ⟨by decide +kernel, by decide +kernel, rfl, by decide +kernel, by decide +kernel, Nat.le_of_ble_eq_true rfl⟩ rfl
theorem q21_65 : zQ 21 65 L (.int x :: .int y :: .ref a :: st) M Q ↔ (a < zNC ∧ zk a = 7 ∧ zin y (zn a) = true) ∧ zQ 21 66 L st (zup M a y.toNatClampNeg x) Q := zq_iast (by decide +kernel)
theorem q21_66 : zQ 21 66 [.ref a, v1, v2, v3, v4] st M Q ↔ zQ 21 67 [.ref a, v1, v2, v3, v4] (.ref a :: st) M Q := zq_go (i := .aload_n 0) (by decide +kernel) rfl
theorem q21_67 : zQ 21 67 L (.ref a :: st) M Q ↔ (a < zNC ∧ zk a = 4) ∧ zQ 21 70 L (zfv a 0 M :: st) M Q := zq_getf (n := 9) (b := false) (by decide +kernel) (by decide +kernel)
theorem q21_70 : zQ 21 70 [v0, .int x, v2, v3, v4] st M Q ↔ zQ 21 71 [v0, .int x, v2, v3, v4] (.int x :: st) M Q := zq_go (i := .iload_n 1) (by decide +kernel) rfl
theorem q21_71 : zQ 21 71 L (.int x :: .ref a :: st) M Q ↔ (a < zNC ∧ zk a = 7 ∧ zin x (zn a) = true) ∧ zQ 21 72 L (.int (M a x.toNatClampNeg) :: st) M Q := zq_iald (by decide +kernel)
theorem q21_72 : zQ 21 72 L (.int x :: st) M Q ↔ (x < 0 → zQ 21 79 L st M Q) ∧ (¬ x < 0 → zQ 21 75 L st M Q) := zq_br (i := .ifCond .lt 7) (off := 7) (by decide +kernel) rfl (by decide) rfl
theorem q21_75 : zQ 21 75 L st M Q ↔ zQ 21 76 L (.int 1 :: st) M Q := zq_con (n := 1) (by decide +kernel) (by decide +kernel) rfl
theorem q21_76 : zQ 21 76 L st M Q ↔ zQ 21 80 L st M Q := zq_jmp (off := 4) (by decide +kernel) (by decide)
theorem q21_79 : zQ 21 79 L st M Q ↔ zQ 21 80 L (.int 0 :: st) M Q := zq_con (n := 0) (by decide +kernel) (by decide +kernel) rfl
theorem q21_80 : zQ 21 80 L [.int x] M Q ↔ (x = 0 ∨ x = 1) ∧ Q (zI x) M := zq_reZ (by decide +kernel) (by decide +kernel)
theorem q21_81 : zQ 21 81 [.ref a, v1, v2, v3, v4] st M Q ↔ zQ 21 82 [.ref a, v1, v2, v3, v4] (.ref a :: st) M Q := zq_go (i := .aload_n 0) (by decide +kernel) rfl
theorem q21_82 : zQ 21 82 L (.ref a :: st) M Q ↔ (a < zNC ∧ zk a = 4) ∧ zQ 21 85 L (zfv a 2 M :: st) M Q := zq_getf (n := 18) (b := false) (by decide +kernel) (by decide +kernel)
theorem q21_85 : zQ 21 85 [v0, .int x, v2, v3, v4] st M Q ↔ zQ 21 86 [v0, .int x, v2, v3, v4] (.int x :: st) M Q := zq_go (i := .iload_n 1) (by decide +kernel) rfl
theorem q21_86 : zQ 21 86 L st M Q ↔ zQ 21 88 L (.int 10 :: st) M Q := zq_bip (n := 10) (by decide +kernel) (by decide +kernel) rfl
theorem q21_88 : zQ 21 88 [v0, v1, v2, v3, .int x] st M Q ↔ zQ 21 90 [v0, v1, v2, v3, .int x] (.int x :: st) M Q := zq_go (i := .iload 4) (by decide +kernel) rfl
theorem q21_90 : zQ 21 90 L (.int y :: .int x :: st) M Q ↔ zQ 21 91 L (.int (x * y) :: st) M Q := zq_go (i := .imul) (by decide +kernel) rfl
theorem q21_91 : zQ 21 91 L (.int x :: .int y :: .ref a :: st) M Q ↔ (a < zNC ∧ zk a = 7 ∧ zin y (zn a) = true) ∧ zQ 21 92 L st (zup M a y.toNatClampNeg x) Q := zq_iast (by decide +kernel)
theorem q21_92 : zQ 21 92 [v0, v1, v2, v3, .int x] st M Q ↔ zQ 21 94 [v0, v1, v2, v3, .int x] (.int x :: st) M Q := zq_go (i := .iload 4) (by decide +kernel) rfl
theorem q21_94 : zQ 21 94 L (.int x :: st) M Q ↔ (x < 0 → zQ 21 101 L st M Q) ∧ (¬ x < 0 → zQ 21 97 L st M Q) := zq_br (i := .ifCond .lt 7) (off := 7) (by decide +kernel) rfl (by decide) rfl
theorem q21_97 : zQ 21 97 L st M Q ↔ zQ 21 98 L (.int 1 :: st) M Q := zq_con (n := 1) (by decide +kernel) (by decide +kernel) rfl
theorem q21_98 : zQ 21 98 L st M Q ↔ zQ 21 102 L st M Q := zq_jmp (off := 4) (by decide +kernel) (by decide)
theorem q21_101 : zQ 21 101 L st M Q ↔ zQ 21 102 L (.int 0 :: st) M Q := zq_con (n := 0) (by decide +kernel) (by decide +kernel) rfl
theorem q21_102 : zQ 21 102 L [.int x] M Q ↔ (x = 0 ∨ x = 1) ∧ Q (zI x) M := zq_reZ (by decide +kernel) (by decide +kernel)
theorem q21_103 : zQ 21 103 [.ref a, v1, v2, v3, v4] st M Q ↔ zQ 21 104 [.ref a, v1, v2, v3, v4] (.ref a :: st) M Q := zq_go (i := .aload_n 0) (by decide +kernel) rfl
theorem q21_104 : zQ 21 104 L (.ref a :: st) M Q ↔ (a < zNC ∧ zk a = 4) ∧ zQ 21 107 L (zfv a 2 M :: st) M Q := zq_getf (n := 18) (b := false) (by decide +kernel) (by decide +kernel)
theorem q21_107 : zQ 21 107 [v0, .int x, v2, v3, v4] st M Q ↔ zQ 21 108 [v0, .int x, v2, v3, v4] (.int x :: st) M Q := zq_go (i := .iload_n 1) (by decide +kernel) rfl
theorem q21_108 : zQ 21 108 L (.int x :: .ref a :: st) M Q ↔ zQ 21 109 L (.int x :: .ref a :: .int x :: .ref a :: st) M Q := zq_go (i := .dup2) (by decide +kernel) rfl
theorem q21_109 : zQ 21 109 L (.int x :: .ref a :: st) M Q ↔ (a < zNC ∧ zk a = 7 ∧ zin x (zn a) = true) ∧ zQ 21 110 L (.int (M a x.toNatClampNeg) :: st) M Q := zq_iald (by decide +kernel)
theorem q21_110 : zQ 21 110 [v0, v1, v2, v3, .int x] st M Q ↔ zQ 21 112 [v0, v1, v2, v3, .int x] (.int x :: st) M Q := zq_go (i := .iload 4) (by decide +kernel) rfl
theorem q21_112 : zQ 21 112 L (.int y :: .int x :: st) M Q ↔ zQ 21 113 L (.int (x + y) :: st) M Q := zq_go (i := .iadd) (by decide +kernel) rfl
theorem q21_113 : zQ 21 113 L (.int x :: .int y :: .ref a :: st) M Q ↔ (a < zNC ∧ zk a = 7 ∧ zin y (zn a) = true) ∧ zQ 21 114 L st (zup M a y.toNatClampNeg x) Q := zq_iast (by decide +kernel)
theorem q21_114 : zQ 21 114 [v0, v1, v2, v3, .int x] st M Q ↔ zQ 21 116 [v0, v1, v2, v3, .int x] (.int x :: st) M Q := zq_go (i := .iload 4) (by decide +kernel) rfl
theorem q21_116 : zQ 21 116 L (.int x :: st) M Q ↔ (x < 0 → zQ 21 132 L st M Q) ∧ (¬ x < 0 → zQ 21 119 L st M Q) := zq_br (i := .ifCond .lt 16) (off := 16) (by decide +kernel) rfl (by decide) rfl
theorem q21_119 : zQ 21 119 [.ref a, v1, v2, v3, v4] st M Q ↔ zQ 21 120 [.ref a, v1, v2, v3, v4] (.ref a :: st) M Q := zq_go (i := .aload_n 0) (by decide +kernel) rfl
theorem q21_120 : zQ 21 120 L (.ref a :: st) M Q ↔ (a < zNC ∧ zk a = 4) ∧ zQ 21 123 L (zfv a 2 M :: st) M Q := zq_getf (n := 18) (b := false) (by decide +kernel) (by decide +kernel)
theorem q21_123 : zQ 21 123 [v0, .int x, v2, v3, v4] st M Q ↔ zQ 21 124 [v0, .int x, v2, v3, v4] (.int x :: st) M Q := zq_go (i := .iload_n 1) (by decide +kernel) rfl
theorem q21_124 : zQ 21 124 L (.int x :: .ref a :: st) M Q ↔ (a < zNC ∧ zk a = 7 ∧ zin x (zn a) = true) ∧ zQ 21 125 L (.int (M a x.toNatClampNeg) :: st) M Q := zq_iald (by decide +kernel)
theorem q21_125 : zQ 21 125 L (.int x :: st) M Q ↔ (x ≤ 0 → zQ 21 132 L st M Q) ∧ (¬ x ≤ 0 → zQ 21 128 L st M Q) := zq_br (i := .ifCond .le 7) (off := 7) (by decide +kernel) rfl (by decide) rfl
theorem q21_128 : zQ 21 128 L st M Q ↔ zQ 21 129 L (.int 1 :: st) M Q := zq_con (n := 1) (by decide +kernel) (by decide +kernel) rfl
theorem q21_129 : zQ 21 129 L st M Q ↔ zQ 21 133 L st M Q := zq_jmp (off := 4) (by decide +kernel) (by decide)
theorem q21_132 : zQ 21 132 L st M Q ↔ zQ 21 133 L (.int 0 :: st) M Q := zq_con (n := 0) (by decide +kernel) (by decide +kernel) rfl
theorem q21_133 : zQ 21 133 L [.int x] M Q ↔ (x = 0 ∨ x = 1) ∧ Q (zI x) M := zq_reZ (by decide +kernel) (by decide +kernel)
theorem q21_134 : zQ 21 134 [.ref a, v1, v2, v3, v4] st M Q ↔ zQ 21 135 [.ref a, v1, v2, v3, v4] (.ref a :: st) M Q := zq_go (i := .aload_n 0) (by decide +kernel) rfl
theorem q21_135 : zQ 21 135 L (.ref a :: st) M Q ↔ (a < zNC ∧ zk a = 4) ∧ zQ 21 138 L (zfv a 3 M :: st) M Q := zq_getf (n := 21) (b := false) (by decide +kernel) (by decide +kernel)
theorem q21_138 : zQ 21 138 [v0, .int x, v2, v3, v4] st M Q ↔ zQ 21 139 [v0, .int x, v2, v3, v4] (.int x :: st) M Q := zq_go (i := .iload_n 1) (by decide +kernel) rfl
theorem q21_139 : zQ 21 139 [v0, v1, v2, v3, .int x] st M Q ↔ zQ 21 141 [v0, v1, v2, v3, .int x] (.int x :: st) M Q := zq_go (i := .iload 4) (by decide +kernel) rfl
theorem q21_141 : zQ 21 141 L (.int x :: .int y :: .ref a :: st) M Q ↔ (a < zNC ∧ zk a = 7 ∧ zin y (zn a) = true) ∧ zQ 21 142 L st (zup M a y.toNatClampNeg x) Q := zq_iast (by decide +kernel)
theorem q21_142 : zQ 21 142 [v0, v1, v2, v3, .int x] st M Q ↔ zQ 21 144 [v0, v1, v2, v3, .int x] (.int x :: st) M Q := zq_go (i := .iload 4) (by decide +kernel) rfl
theorem q21_144 : zQ 21 144 L (.int x :: st) M Q ↔ (x < 0 → zQ 21 151 L st M Q) ∧ (¬ x < 0 → zQ 21 147 L st M Q) := zq_br (i := .ifCond .lt 7) (off := 7) (by decide +kernel) rfl (by decide) rfl
theorem q21_147 : zQ 21 147 L st M Q ↔ zQ 21 148 L (.int 1 :: st) M Q := zq_con (n := 1) (by decide +kernel) (by decide +kernel) rfl
theorem q21_148 : zQ 21 148 L st M Q ↔ zQ 21 152 L st M Q := zq_jmp (off := 4) (by decide +kernel) (by decide)
theorem q21_151 : zQ 21 151 L st M Q ↔ zQ 21 152 L (.int 0 :: st) M Q := zq_con (n := 0) (by decide +kernel) (by decide +kernel) rfl
theorem q21_152 : zQ 21 152 L [.int x] M Q ↔ (x = 0 ∨ x = 1) ∧ Q (zI x) M := zq_reZ (by decide +kernel) (by decide +kernel)
theorem q21_153 : zQ 21 153 [.ref a, v1, v2, v3, v4] st M Q ↔ zQ 21 154 [.ref a, v1, v2, v3, v4] (.ref a :: st) M Q := zq_go (i := .aload_n 0) (by decide +kernel) rfl
theorem q21_154 : zQ 21 154 L (.ref a :: st) M Q ↔ (a < zNC ∧ zk a = 4) ∧ zQ 21 157 L (zfv a 4 M :: st) M Q := zq_getf (n := 24) (b := false) (by decide +kernel) (by decide +kernel)
theorem q21_157 : zQ 21 157 [v0, .int x, v2, v3, v4] st M Q ↔ zQ 21 158 [v0, .int x, v2, v3, v4] (.int x :: st) M Q := zq_go (i := .iload_n 1) (by decide +kernel) rfl
theorem q21_158 : zQ 21 158 [v0, v1, v2, v3, .int x] st M Q ↔ zQ 21 160 [v0, v1, v2, v3, .int x] (.int x :: st) M Q := zq_go (i := .iload 4) (by decide +kernel) rfl
theorem q21_160 : zQ 21 160 L (.int x :: .int y :: .ref a :: st) M Q ↔ (a < zNC ∧ zk a = 7 ∧ zin y (zn a) = true) ∧ zQ 21 161 L st (zup M a y.toNatClampNeg x) Q := zq_iast (by decide +kernel)
theorem q21_161 : zQ 21 161 [v0, v1, v2, v3, .int x] st M Q ↔ zQ 21 163 [v0, v1, v2, v3, .int x] (.int x :: st) M Q := zq_go (i := .iload 4) (by decide +kernel) rfl
theorem q21_163 : zQ 21 163 L st M Q ↔ zQ 21 164 L (.int 4 :: st) M Q := zq_con (n := 4) (by decide +kernel) (by decide +kernel) rfl
theorem q21_164 : zQ 21 164 L (.int x2 :: .int x1 :: st) M Q ↔ zcs st ≤ 8 ∧ zQ 74 0 [.int x1, .int x2] [] M (fun r M1 => zQ 21 167 L (zpush r st) M1 Q) := zq_callS (n := 38) (j := 74) (b := true) (As := [.int x1, .int x2]) (by decide +kernel) (by decide +kernel) ⟨by decide +kernel, by decide +kernel, rfl, by decide +kernel, by decide +kernel, Nat.le_of_ble_eq_true rfl⟩ rfl
theorem q21_167 : zQ 21 167 L [.int x] M Q ↔ (x = 0 ∨ x = 1) ∧ Q (zI x) M := zq_reZ (by decide +kernel) (by decide +kernel)
theorem q21_168 : zQ 21 168 [.ref a, v1, v2, v3, v4] st M Q ↔ zQ 21 169 [.ref a, v1, v2, v3, v4] (.ref a :: st) M Q := zq_go (i := .aload_n 0) (by decide +kernel) rfl
theorem q21_169 : zQ 21 169 L (.ref a :: st) M Q ↔ (a < zNC ∧ zk a = 4) ∧ zQ 21 172 L (zfv a 5 M :: st) M Q := zq_getf (n := 27) (b := false) (by decide +kernel) (by decide +kernel)
theorem q21_172 : zQ 21 172 [v0, .int x, v2, v3, v4] st M Q ↔ zQ 21 173 [v0, .int x, v2, v3, v4] (.int x :: st) M Q := zq_go (i := .iload_n 1) (by decide +kernel) rfl
theorem q21_173 : zQ 21 173 [v0, v1, v2, v3, .int x] st M Q ↔ zQ 21 175 [v0, v1, v2, v3, .int x] (.int x :: st) M Q := zq_go (i := .iload 4) (by decide +kernel) rfl
theorem q21_175 : zQ 21 175 L (.int x :: .int y :: .ref a :: st) M Q ↔ (a < zNC ∧ zk a = 7 ∧ zin y (zn a) = true) ∧ zQ 21 176 L st (zup M a y.toNatClampNeg x) Q := zq_iast (by decide +kernel)
theorem q21_176 : zQ 21 176 [.ref a, v1, v2, v3, v4] st M Q ↔ zQ 21 177 [.ref a, v1, v2, v3, v4] (.ref a :: st) M Q := zq_go (i := .aload_n 0) (by decide +kernel) rfl
theorem q21_177 : zQ 21 177 [v0, v1, v2, v3, .int x] st M Q ↔ zQ 21 179 [v0, v1, v2, v3, .int x] (.int x :: st) M Q := zq_go (i := .iload 4) (by decide +kernel) rfl
theorem q21_179 : zQ 21 179 L (.int x1 :: .ref a :: st) M Q ↔ (zcs st ≤ 8 ∧ a < zNC ∧ zk a = 4) ∧ zQ 17 0 [.ref a, .int x1] [] M (fun r M1 => zQ 21 182 L (zpush r st) M1 Q) := zq_callV (n := 57) (j := 17) (b := false) (As := [.int x1]) (by decide +kernel) (by decide +kernel) ⟨by decide +kernel, by decide +kernel, rfl, by decide +kernel, by decide +kernel, Nat.le_of_ble_eq_true rfl⟩ rfl
theorem q21_182 : zQ 21 182 L [.int x] M Q ↔ (x = 0 ∨ x = 1) ∧ Q (zI x) M := zq_reZ (by decide +kernel) (by decide +kernel)
-- 22 SandKeepers$Town.digitOf(I)I
theorem q22_0 : zQ 22 0 [.int x] st M Q ↔ zQ 22 1 [.int x] (.int x :: st) M Q := zq_go (i := .iload_n 0) (by decide +kernel) rfl
theorem q22_1 : zQ 22 1 L st M Q ↔ zQ 22 3 L (.int 48 :: st) M Q := zq_bip (n := 48) (by decide +kernel) (by decide +kernel) rfl
theorem q22_3 : zQ 22 3 L (.int y :: .int x :: st) M Q ↔ (x < y → zQ 22 19 L st M Q) ∧ (¬ x < y → zQ 22 6 L st M Q) := zq_br (i := .if_icmp .lt 16) (off := 16) (by decide +kernel) rfl (by decide) rfl
theorem q22_6 : zQ 22 6 [.int x] st M Q ↔ zQ 22 7 [.int x] (.int x :: st) M Q := zq_go (i := .iload_n 0) (by decide +kernel) rfl
theorem q22_7 : zQ 22 7 L st M Q ↔ zQ 22 9 L (.int 57 :: st) M Q := zq_bip (n := 57) (by decide +kernel) (by decide +kernel) rfl
theorem q22_9 : zQ 22 9 L (.int y :: .int x :: st) M Q ↔ (y < x → zQ 22 19 L st M Q) ∧ (¬ y < x → zQ 22 12 L st M Q) := zq_br (i := .if_icmp .gt 10) (off := 10) (by decide +kernel) rfl (by decide) rfl
theorem q22_12 : zQ 22 12 [.int x] st M Q ↔ zQ 22 13 [.int x] (.int x :: st) M Q := zq_go (i := .iload_n 0) (by decide +kernel) rfl
theorem q22_13 : zQ 22 13 L st M Q ↔ zQ 22 15 L (.int 48 :: st) M Q := zq_bip (n := 48) (by decide +kernel) (by decide +kernel) rfl
theorem q22_15 : zQ 22 15 L (.int y :: .int x :: st) M Q ↔ zQ 22 16 L (.int (x - y) :: st) M Q := zq_go (i := .isub) (by decide +kernel) rfl
theorem q22_16 : zQ 22 16 L st M Q ↔ zQ 22 20 L st M Q := zq_jmp (off := 4) (by decide +kernel) (by decide)
theorem q22_19 : zQ 22 19 L st M Q ↔ zQ 22 20 L (.int (-1) :: st) M Q := zq_con (n := (-1)) (by decide +kernel) (by decide +kernel) rfl
theorem q22_20 : zQ 22 20 L [.int x] M Q ↔ Q (zI x) M := zq_reI (by decide +kernel) (by decide +kernel)
-- 23 SandKeepers$Town.kindOf(I)I
theorem q23_0 : zQ 23 0 [.int x] st M Q ↔ zQ 23 1 [.int x] (.int x :: st) M Q := zq_go (i := .iload_n 0) (by decide +kernel) rfl
theorem q23_36 : zQ 23 36 L st M Q ↔ zQ 23 37 L (.int 0 :: st) M Q := zq_con (n := 0) (by decide +kernel) (by decide +kernel) rfl
theorem q23_37 : zQ 23 37 L [.int x] M Q ↔ Q (zI x) M := zq_reI (by decide +kernel) (by decide +kernel)
theorem q23_38 : zQ 23 38 L st M Q ↔ zQ 23 39 L (.int 1 :: st) M Q := zq_con (n := 1) (by decide +kernel) (by decide +kernel) rfl
theorem q23_39 : zQ 23 39 L [.int x] M Q ↔ Q (zI x) M := zq_reI (by decide +kernel) (by decide +kernel)
theorem q23_40 : zQ 23 40 L st M Q ↔ zQ 23 41 L (.int 2 :: st) M Q := zq_con (n := 2) (by decide +kernel) (by decide +kernel) rfl
theorem q23_41 : zQ 23 41 L [.int x] M Q ↔ Q (zI x) M := zq_reI (by decide +kernel) (by decide +kernel)
theorem q23_42 : zQ 23 42 L st M Q ↔ zQ 23 43 L (.int (-1) :: st) M Q := zq_con (n := (-1)) (by decide +kernel) (by decide +kernel) rfl
theorem q23_43 : zQ 23 43 L [.int x] M Q ↔ Q (zI x) M := zq_reI (by decide +kernel) (by decide +kernel)
-- 24 SandKeepers$Town.rateKeptBy(II)I
theorem q24_0 : zQ 24 0 [.ref a, v1, v2, v3] st M Q ↔ zQ 24 1 [.ref a, v1, v2, v3] (.ref a :: st) M Q := zq_go (i := .aload_n 0) (by decide +kernel) rfl
theorem q24_1 : zQ 24 1 L (.ref a :: st) M Q ↔ (a < zNC ∧ zk a = 4) ∧ zQ 24 4 L (zfv a 3 M :: st) M Q := zq_getf (n := 21) (b := false) (by decide +kernel) (by decide +kernel)
theorem q24_4 : zQ 24 4 [v0, .int x, v2, v3] st M Q ↔ zQ 24 5 [v0, .int x, v2, v3] (.int x :: st) M Q := zq_go (i := .iload_n 1) (by decide +kernel) rfl
theorem q24_5 : zQ 24 5 L (.int x :: .ref a :: st) M Q ↔ (a < zNC ∧ zk a = 7 ∧ zin x (zn a) = true) ∧ zQ 24 6 L (.int (M a x.toNatClampNeg) :: st) M Q := zq_iald (by decide +kernel)
theorem q24_6 : zQ 24 6 [.ref a, v1, v2, v3] st M Q ↔ zQ 24 7 [.ref a, v1, v2, v3] (.ref a :: st) M Q := zq_go (i := .aload_n 0) (by decide +kernel) rfl
theorem q24_7 : zQ 24 7 L (.ref a :: st) M Q ↔ (a < zNC ∧ zk a = 4) ∧ zQ 24 10 L (zfv a 4 M :: st) M Q := zq_getf (n := 24) (b := false) (by decide +kernel) (by decide +kernel)
theorem q24_10 : zQ 24 10 [v0, v1, .int x, v3] st M Q ↔ zQ 24 11 [v0, v1, .int x, v3] (.int x :: st) M Q := zq_go (i := .iload_n 2) (by decide +kernel) rfl
theorem q24_11 : zQ 24 11 L (.int x :: .ref a :: st) M Q ↔ (a < zNC ∧ zk a = 7 ∧ zin x (zn a) = true) ∧ zQ 24 12 L (.int (M a x.toNatClampNeg) :: st) M Q := zq_iald (by decide +kernel)
theorem q24_12 : zQ 24 12 L (.int y :: .int x :: st) M Q ↔ zQ 24 13 L (.int (x + y) :: st) M Q := zq_go (i := .iadd) (by decide +kernel) rfl
theorem q24_13i : zQ 24 13 [v0, v1, .int y, v3] (.int x :: st) M Q ↔ zQ 24 14 [v0, v1, .int y, .int x] st M Q := zq_stI (i := .istore_n 3) (k := 3) (by decide +kernel) rfl (Nat.le_of_ble_eq_true rfl) rfl rfl
theorem q24_13r : zQ 24 13 [v0, v1, .ref r1, v3] (.int x :: st) M Q ↔ zQ 24 14 [v0, v1, .ref r1, .int x] st M Q := zq_stI (i := .istore_n 3) (k := 3) (by decide +kernel) rfl (Nat.le_of_ble_eq_true rfl) rfl rfl
theorem q24_13n : zQ 24 13 [v0, v1, .null, v3] (.int x :: st) M Q ↔ zQ 24 14 [v0, v1, .null, .int x] st M Q := zq_stI (i := .istore_n 3) (k := 3) (by decide +kernel) rfl (Nat.le_of_ble_eq_true rfl) rfl rfl
theorem q24_14 : zQ 24 14 [.ref a, v1, v2, v3] st M Q ↔ zQ 24 15 [.ref a, v1, v2, v3] (.ref a :: st) M Q := zq_go (i := .aload_n 0) (by decide +kernel) rfl
theorem q24_15 : zQ 24 15 L (.ref a :: st) M Q ↔ (a < zNC ∧ zk a = 4) ∧ zQ 24 18 L (zfv a 0 M :: st) M Q := zq_getf (n := 9) (b := false) (by decide +kernel) (by decide +kernel)
theorem q24_18 : zQ 24 18 [v0, .int x, v2, v3] st M Q ↔ zQ 24 19 [v0, .int x, v2, v3] (.int x :: st) M Q := zq_go (i := .iload_n 1) (by decide +kernel) rfl
theorem q24_19 : zQ 24 19 L (.int x :: .ref a :: st) M Q ↔ (a < zNC ∧ zk a = 7 ∧ zin x (zn a) = true) ∧ zQ 24 20 L (.int (M a x.toNatClampNeg) :: st) M Q := zq_iald (by decide +kernel)
theorem q24_48 : zQ 24 48 [v0, v1, v2, .int x] st M Q ↔ zQ 24 49 [v0, v1, v2, .int x] (.int x :: st) M Q := zq_go (i := .iload_n 3) (by decide +kernel) rfl
theorem q24_49 : zQ 24 49 L [.int x] M Q ↔ Q (zI x) M := zq_reI (by decide +kernel) (by decide +kernel)
theorem q24_50 : zQ 24 50 [v0, v1, v2, .int x] st M Q ↔ zQ 24 51 [v0, v1, v2, .int x] (.int x :: st) M Q := zq_go (i := .iload_n 3) (by decide +kernel) rfl
theorem q24_51 : zQ 24 51 L st M Q ↔ zQ 24 52 L (.int 1 :: st) M Q := zq_con (n := 1) (by decide +kernel) (by decide +kernel) rfl
theorem q24_52 : zQ 24 52 L (.int y :: .int x :: st) M Q ↔ zQ 24 53 L (.int (x + y) :: st) M Q := zq_go (i := .iadd) (by decide +kernel) rfl
theorem q24_53 : zQ 24 53 L [.int x] M Q ↔ Q (zI x) M := zq_reI (by decide +kernel) (by decide +kernel)
theorem q24_54 : zQ 24 54 [v0, v1, v2, .int x] st M Q ↔ zQ 24 55 [v0, v1, v2, .int x] (.int x :: st) M Q := zq_go (i := .iload_n 3) (by decide +kernel) rfl
theorem q24_55 : zQ 24 55 L st M Q ↔ zQ 24 56 L (.int 1 :: st) M Q := zq_con (n := 1) (by decide +kernel) (by decide +kernel) rfl
theorem q24_56 : zQ 24 56 L (.int y :: .int x :: st) M Q ↔ zQ 24 57 L (.int (x + y) :: st) M Q := zq_go (i := .iadd) (by decide +kernel) rfl
theorem q24_57 : zQ 24 57 L st M Q ↔ zQ 24 58 L (.int 2 :: st) M Q := zq_con (n := 2) (by decide +kernel) (by decide +kernel) rfl
theorem q24_58 : zQ 24 58 L (.int y :: .int x :: st) M Q ↔ ¬ y = 0 ∧ zQ 24 59 L (.int (x / y) :: st) M Q := zq_div (by decide +kernel)
theorem q24_59 : zQ 24 59 L [.int x] M Q ↔ Q (zI x) M := zq_reI (by decide +kernel) (by decide +kernel)
-- 25 SandKeepers$Town.isAlive(I)Z
theorem q25_0 : zQ 25 0 [.ref a, v1] st M Q ↔ zQ 25 1 [.ref a, v1] (.ref a :: st) M Q := zq_go (i := .aload_n 0) (by decide +kernel) rfl
theorem q25_1 : zQ 25 1 L (.ref a :: st) M Q ↔ (a < zNC ∧ zk a = 4) ∧ zQ 25 4 L (zfv a 1 M :: st) M Q := zq_getf (n := 15) (b := false) (by decide +kernel) (by decide +kernel)
theorem q25_4 : zQ 25 4 [v0, .int x] st M Q ↔ zQ 25 5 [v0, .int x] (.int x :: st) M Q := zq_go (i := .iload_n 1) (by decide +kernel) rfl
theorem q25_5 : zQ 25 5 L (.int x :: .ref a :: st) M Q ↔ (a < zNC ∧ zk a = 7 ∧ zin x (zn a) = true) ∧ zQ 25 6 L (.int (M a x.toNatClampNeg) :: st) M Q := zq_iald (by decide +kernel)
theorem q25_6 : zQ 25 6 L (.int x :: st) M Q ↔ (x ≤ 0 → zQ 25 13 L st M Q) ∧ (¬ x ≤ 0 → zQ 25 9 L st M Q) := zq_br (i := .ifCond .le 7) (off := 7) (by decide +kernel) rfl (by decide) rfl
theorem q25_9 : zQ 25 9 L st M Q ↔ zQ 25 10 L (.int 1 :: st) M Q := zq_con (n := 1) (by decide +kernel) (by decide +kernel) rfl
theorem q25_10 : zQ 25 10 L st M Q ↔ zQ 25 14 L st M Q := zq_jmp (off := 4) (by decide +kernel) (by decide)
theorem q25_13 : zQ 25 13 L st M Q ↔ zQ 25 14 L (.int 0 :: st) M Q := zq_con (n := 0) (by decide +kernel) (by decide +kernel) rfl
theorem q25_14 : zQ 25 14 L [.int x] M Q ↔ (x = 0 ∨ x = 1) ∧ Q (zI x) M := zq_reZ (by decide +kernel) (by decide +kernel)
-- 26 SandKeepers$Town.isHand(I)Z
theorem q26_0 : zQ 26 0 [.ref a, v1] st M Q ↔ zQ 26 1 [.ref a, v1] (.ref a :: st) M Q := zq_go (i := .aload_n 0) (by decide +kernel) rfl
theorem q26_1 : zQ 26 1 [v0, .int x] st M Q ↔ zQ 26 2 [v0, .int x] (.int x :: st) M Q := zq_go (i := .iload_n 1) (by decide +kernel) rfl
theorem q26_2 : zQ 26 2 L (.int x1 :: .ref a :: st) M Q ↔ (zcs st ≤ 8 ∧ a < zNC ∧ zk a = 4) ∧ zQ 25 0 [.ref a, .int x1] [] M (fun r M1 => zQ 26 5 L (zpush r st) M1 Q) := zq_callV (n := 68) (j := 25) (b := false) (As := [.int x1]) (by decide +kernel) (by decide +kernel) ⟨by decide +kernel, by decide +kernel, rfl, by decide +kernel, by decide +kernel, Nat.le_of_ble_eq_true rfl⟩ rfl
theorem q26_5 : zQ 26 5 L (.int x :: st) M Q ↔ (x = 0 → zQ 26 21 L st M Q) ∧ (¬ x = 0 → zQ 26 8 L st M Q) := zq_br (i := .ifCond .eq 16) (off := 16) (by decide +kernel) rfl (by decide) rfl
theorem q26_8 : zQ 26 8 [.ref a, v1] st M Q ↔ zQ 26 9 [.ref a, v1] (.ref a :: st) M Q := zq_go (i := .aload_n 0) (by decide +kernel) rfl
theorem q26_9 : zQ 26 9 L (.ref a :: st) M Q ↔ (a < zNC ∧ zk a = 4) ∧ zQ 26 12 L (zfv a 6 M :: st) M Q := zq_getf (n := 30) (b := false) (by decide +kernel) (by decide +kernel)
theorem q26_12 : zQ 26 12 [v0, .int x] st M Q ↔ zQ 26 13 [v0, .int x] (.int x :: st) M Q := zq_go (i := .iload_n 1) (by decide +kernel) rfl
theorem q26_13 : zQ 26 13 L (.int x :: .ref a :: st) M Q ↔ (a < zNC ∧ zk a = 8 ∧ zin x (zn a) = true) ∧ zQ 26 14 L (.int (M a x.toNatClampNeg) :: st) M Q := zq_bald (by decide +kernel)
theorem q26_14 : zQ 26 14 L (.int x :: st) M Q ↔ (x = 0 → zQ 26 17 L st M Q) ∧ (¬ x = 0 → zQ 26 21 L st M Q) := zq_bn (i := .ifCond .ne 7) (off := 7) (by decide +kernel) rfl (by decide) rfl
theorem q26_17 : zQ 26 17 L st M Q ↔ zQ 26 18 L (.int 1 :: st) M Q := zq_con (n := 1) (by decide +kernel) (by decide +kernel) rfl
theorem q26_18 : zQ 26 18 L st M Q ↔ zQ 26 22 L st M Q := zq_jmp (off := 4) (by decide +kernel) (by decide)
theorem q26_21 : zQ 26 21 L st M Q ↔ zQ 26 22 L (.int 0 :: st) M Q := zq_con (n := 0) (by decide +kernel) (by decide +kernel) rfl
theorem q26_22 : zQ 26 22 L [.int x] M Q ↔ (x = 0 ∨ x = 1) ∧ Q (zI x) M := zq_reZ (by decide +kernel) (by decide +kernel)
-- 27 SandKeepers$Town.setOfLiving()I
theorem q27_0 : zQ 27 0 L st M Q ↔ zQ 27 1 L (.int 0 :: st) M Q := zq_con (n := 0) (by decide +kernel) (by decide +kernel) rfl
theorem q27_1i : zQ 27 1 [.int y, v1, v2] (.int x :: st) M Q ↔ zQ 27 2 [.int y, .int x, v2] st M Q := zq_stI (i := .istore_n 1) (k := 1) (by decide +kernel) rfl (Nat.le_of_ble_eq_true rfl) rfl rfl
theorem q27_1r : zQ 27 1 [.ref r1, v1, v2] (.int x :: st) M Q ↔ zQ 27 2 [.ref r1, .int x, v2] st M Q := zq_stI (i := .istore_n 1) (k := 1) (by decide +kernel) rfl (Nat.le_of_ble_eq_true rfl) rfl rfl
theorem q27_1n : zQ 27 1 [.null, v1, v2] (.int x :: st) M Q ↔ zQ 27 2 [.null, .int x, v2] st M Q := zq_stI (i := .istore_n 1) (k := 1) (by decide +kernel) rfl (Nat.le_of_ble_eq_true rfl) rfl rfl
theorem q27_2 : zQ 27 2 L st M Q ↔ zQ 27 3 L (.int 0 :: st) M Q := zq_con (n := 0) (by decide +kernel) (by decide +kernel) rfl
theorem q27_3i : zQ 27 3 [v0, .int y, v2] (.int x :: st) M Q ↔ zQ 27 4 [v0, .int y, .int x] st M Q := zq_stI (i := .istore_n 2) (k := 2) (by decide +kernel) rfl (Nat.le_of_ble_eq_true rfl) rfl rfl
theorem q27_3r : zQ 27 3 [v0, .ref r1, v2] (.int x :: st) M Q ↔ zQ 27 4 [v0, .ref r1, .int x] st M Q := zq_stI (i := .istore_n 2) (k := 2) (by decide +kernel) rfl (Nat.le_of_ble_eq_true rfl) rfl rfl
theorem q27_3n : zQ 27 3 [v0, .null, v2] (.int x :: st) M Q ↔ zQ 27 4 [v0, .null, .int x] st M Q := zq_stI (i := .istore_n 2) (k := 2) (by decide +kernel) rfl (Nat.le_of_ble_eq_true rfl) rfl rfl
theorem q27_4 : zQ 27 4 [v0, v1, .int x] st M Q ↔ zQ 27 5 [v0, v1, .int x] (.int x :: st) M Q := zq_go (i := .iload_n 2) (by decide +kernel) rfl
theorem q27_5 : zQ 27 5 [.ref a, v1, v2] st M Q ↔ zQ 27 6 [.ref a, v1, v2] (.ref a :: st) M Q := zq_go (i := .aload_n 0) (by decide +kernel) rfl
theorem q27_6 : zQ 27 6 L (.ref a :: st) M Q ↔ (a < zNC ∧ zk a = 4) ∧ zQ 27 9 L (zfv a 7 M :: st) M Q := zq_getf (n := 34) (b := false) (by decide +kernel) (by decide +kernel)
theorem q27_9 : zQ 27 9 L (.int y :: .int x :: st) M Q ↔ (y ≤ x → zQ 27 32 L st M Q) ∧ (¬ y ≤ x → zQ 27 12 L st M Q) := zq_br (i := .if_icmp .ge 23) (off := 23) (by decide +kernel) rfl (by decide) rfl
theorem q27_12 : zQ 27 12 [.ref a, v1, v2] st M Q ↔ zQ 27 13 [.ref a, v1, v2] (.ref a :: st) M Q := zq_go (i := .aload_n 0) (by decide +kernel) rfl
theorem q27_13 : zQ 27 13 [v0, v1, .int x] st M Q ↔ zQ 27 14 [v0, v1, .int x] (.int x :: st) M Q := zq_go (i := .iload_n 2) (by decide +kernel) rfl
theorem q27_14 : zQ 27 14 L (.int x1 :: .ref a :: st) M Q ↔ (zcs st ≤ 8 ∧ a < zNC ∧ zk a = 4) ∧ zQ 25 0 [.ref a, .int x1] [] M (fun r M1 => zQ 27 17 L (zpush r st) M1 Q) := zq_callV (n := 68) (j := 25) (b := false) (As := [.int x1]) (by decide +kernel) (by decide +kernel) ⟨by decide +kernel, by decide +kernel, rfl, by decide +kernel, by decide +kernel, Nat.le_of_ble_eq_true rfl⟩ rfl
theorem q27_17 : zQ 27 17 L (.int x :: st) M Q ↔ (x = 0 → zQ 27 26 L st M Q) ∧ (¬ x = 0 → zQ 27 20 L st M Q) := zq_br (i := .ifCond .eq 9) (off := 9) (by decide +kernel) rfl (by decide) rfl
theorem q27_20 : zQ 27 20 [v0, .int x, v2] st M Q ↔ zQ 27 21 [v0, .int x, v2] (.int x :: st) M Q := zq_go (i := .iload_n 1) (by decide +kernel) rfl
theorem q27_21 : zQ 27 21 L st M Q ↔ zQ 27 22 L (.int 1 :: st) M Q := zq_con (n := 1) (by decide +kernel) (by decide +kernel) rfl
theorem q27_22 : zQ 27 22 [v0, v1, .int x] st M Q ↔ zQ 27 23 [v0, v1, .int x] (.int x :: st) M Q := zq_go (i := .iload_n 2) (by decide +kernel) rfl
theorem q27_23 : zQ 27 23 L (.int y :: .int x :: st) M Q ↔ zQ 27 24 L (.int (x <<< (y &&& 31)) :: st) M Q := zq_go (i := .ishl) (by decide +kernel) rfl
theorem q27_24 : zQ 27 24 L (.int y :: .int x :: st) M Q ↔ zQ 27 25 L (.int (x ||| y) :: st) M Q := zq_go (i := .ior) (by decide +kernel) rfl
theorem q27_25i : zQ 27 25 [.int y, v1, v2] (.int x :: st) M Q ↔ zQ 27 26 [.int y, .int x, v2] st M Q := zq_stI (i := .istore_n 1) (k := 1) (by decide +kernel) rfl (Nat.le_of_ble_eq_true rfl) rfl rfl
theorem q27_25r : zQ 27 25 [.ref r1, v1, v2] (.int x :: st) M Q ↔ zQ 27 26 [.ref r1, .int x, v2] st M Q := zq_stI (i := .istore_n 1) (k := 1) (by decide +kernel) rfl (Nat.le_of_ble_eq_true rfl) rfl rfl
theorem q27_25n : zQ 27 25 [.null, v1, v2] (.int x :: st) M Q ↔ zQ 27 26 [.null, .int x, v2] st M Q := zq_stI (i := .istore_n 1) (k := 1) (by decide +kernel) rfl (Nat.le_of_ble_eq_true rfl) rfl rfl
theorem q27_26i : zQ 27 26 [v0, .int y, .int x] st M Q ↔ zQ 27 29 [v0, .int y, .int (x + 1)] st M Q := zq_inc (k := 2) (n := 1) (x := x) (v := 1) (by decide +kernel) (by decide +kernel) rfl rfl rfl rfl
theorem q27_26r : zQ 27 26 [v0, .ref r1, .int x] st M Q ↔ zQ 27 29 [v0, .ref r1, .int (x + 1)] st M Q := zq_inc (k := 2) (n := 1) (x := x) (v := 1) (by decide +kernel) (by decide +kernel) rfl rfl rfl rfl
theorem q27_26n : zQ 27 26 [v0, .null, .int x] st M Q ↔ zQ 27 29 [v0, .null, .int (x + 1)] st M Q := zq_inc (k := 2) (n := 1) (x := x) (v := 1) (by decide +kernel) (by decide +kernel) rfl rfl rfl rfl
theorem q27_29 : zQ 27 29 L st M Q ↔ zQ 27 4 L st M Q := zq_jmp (off := (-25)) (by decide +kernel) (by decide)
theorem q27_32 : zQ 27 32 [v0, .int x, v2] st M Q ↔ zQ 27 33 [v0, .int x, v2] (.int x :: st) M Q := zq_go (i := .iload_n 1) (by decide +kernel) rfl
theorem q27_33 : zQ 27 33 L [.int x] M Q ↔ Q (zI x) M := zq_reI (by decide +kernel) (by decide +kernel)
-- 28 SandKeepers$Town.setOfStiff()I
theorem q28_0 : zQ 28 0 L st M Q ↔ zQ 28 1 L (.int 0 :: st) M Q := zq_con (n := 0) (by decide +kernel) (by decide +kernel) rfl
theorem q28_1i : zQ 28 1 [.int y, v1, v2] (.int x :: st) M Q ↔ zQ 28 2 [.int y, .int x, v2] st M Q := zq_stI (i := .istore_n 1) (k := 1) (by decide +kernel) rfl (Nat.le_of_ble_eq_true rfl) rfl rfl
theorem q28_1r : zQ 28 1 [.ref r1, v1, v2] (.int x :: st) M Q ↔ zQ 28 2 [.ref r1, .int x, v2] st M Q := zq_stI (i := .istore_n 1) (k := 1) (by decide +kernel) rfl (Nat.le_of_ble_eq_true rfl) rfl rfl
theorem q28_1n : zQ 28 1 [.null, v1, v2] (.int x :: st) M Q ↔ zQ 28 2 [.null, .int x, v2] st M Q := zq_stI (i := .istore_n 1) (k := 1) (by decide +kernel) rfl (Nat.le_of_ble_eq_true rfl) rfl rfl
theorem q28_2 : zQ 28 2 L st M Q ↔ zQ 28 3 L (.int 0 :: st) M Q := zq_con (n := 0) (by decide +kernel) (by decide +kernel) rfl
theorem q28_3i : zQ 28 3 [v0, .int y, v2] (.int x :: st) M Q ↔ zQ 28 4 [v0, .int y, .int x] st M Q := zq_stI (i := .istore_n 2) (k := 2) (by decide +kernel) rfl (Nat.le_of_ble_eq_true rfl) rfl rfl
theorem q28_3r : zQ 28 3 [v0, .ref r1, v2] (.int x :: st) M Q ↔ zQ 28 4 [v0, .ref r1, .int x] st M Q := zq_stI (i := .istore_n 2) (k := 2) (by decide +kernel) rfl (Nat.le_of_ble_eq_true rfl) rfl rfl
theorem q28_3n : zQ 28 3 [v0, .null, v2] (.int x :: st) M Q ↔ zQ 28 4 [v0, .null, .int x] st M Q := zq_stI (i := .istore_n 2) (k := 2) (by decide +kernel) rfl (Nat.le_of_ble_eq_true rfl) rfl rfl
theorem q28_4 : zQ 28 4 [v0, v1, .int x] st M Q ↔ zQ 28 5 [v0, v1, .int x] (.int x :: st) M Q := zq_go (i := .iload_n 2) (by decide +kernel) rfl
theorem q28_5 : zQ 28 5 [.ref a, v1, v2] st M Q ↔ zQ 28 6 [.ref a, v1, v2] (.ref a :: st) M Q := zq_go (i := .aload_n 0) (by decide +kernel) rfl
theorem q28_6 : zQ 28 6 L (.ref a :: st) M Q ↔ (a < zNC ∧ zk a = 4) ∧ zQ 28 9 L (zfv a 7 M :: st) M Q := zq_getf (n := 34) (b := false) (by decide +kernel) (by decide +kernel)
theorem q28_9 : zQ 28 9 L (.int y :: .int x :: st) M Q ↔ (y ≤ x → zQ 28 41 L st M Q) ∧ (¬ y ≤ x → zQ 28 12 L st M Q) := zq_br (i := .if_icmp .ge 32) (off := 32) (by decide +kernel) rfl (by decide) rfl
theorem q28_12 : zQ 28 12 [.ref a, v1, v2] st M Q ↔ zQ 28 13 [.ref a, v1, v2] (.ref a :: st) M Q := zq_go (i := .aload_n 0) (by decide +kernel) rfl
theorem q28_13 : zQ 28 13 [v0, v1, .int x] st M Q ↔ zQ 28 14 [v0, v1, .int x] (.int x :: st) M Q := zq_go (i := .iload_n 2) (by decide +kernel) rfl
theorem q28_14 : zQ 28 14 L (.int x1 :: .ref a :: st) M Q ↔ (zcs st ≤ 8 ∧ a < zNC ∧ zk a = 4) ∧ zQ 25 0 [.ref a, .int x1] [] M (fun r M1 => zQ 28 17 L (zpush r st) M1 Q) := zq_callV (n := 68) (j := 25) (b := false) (As := [.int x1]) (by decide +kernel) (by decide +kernel) ⟨by decide +kernel, by decide +kernel, rfl, by decide +kernel, by decide +kernel, Nat.le_of_ble_eq_true rfl⟩ rfl
theorem q28_17 : zQ 28 17 L (.int x :: st) M Q ↔ (x = 0 → zQ 28 35 L st M Q) ∧ (¬ x = 0 → zQ 28 20 L st M Q) := zq_br (i := .ifCond .eq 18) (off := 18) (by decide +kernel) rfl (by decide) rfl
theorem q28_20 : zQ 28 20 [.ref a, v1, v2] st M Q ↔ zQ 28 21 [.ref a, v1, v2] (.ref a :: st) M Q := zq_go (i := .aload_n 0) (by decide +kernel) rfl
theorem q28_21 : zQ 28 21 L (.ref a :: st) M Q ↔ (a < zNC ∧ zk a = 4) ∧ zQ 28 24 L (zfv a 6 M :: st) M Q := zq_getf (n := 30) (b := false) (by decide +kernel) (by decide +kernel)
theorem q28_24 : zQ 28 24 [v0, v1, .int x] st M Q ↔ zQ 28 25 [v0, v1, .int x] (.int x :: st) M Q := zq_go (i := .iload_n 2) (by decide +kernel) rfl
theorem q28_25 : zQ 28 25 L (.int x :: .ref a :: st) M Q ↔ (a < zNC ∧ zk a = 8 ∧ zin x (zn a) = true) ∧ zQ 28 26 L (.int (M a x.toNatClampNeg) :: st) M Q := zq_bald (by decide +kernel)
theorem q28_26 : zQ 28 26 L (.int x :: st) M Q ↔ (x = 0 → zQ 28 35 L st M Q) ∧ (¬ x = 0 → zQ 28 29 L st M Q) := zq_br (i := .ifCond .eq 9) (off := 9) (by decide +kernel) rfl (by decide) rfl
theorem q28_29 : zQ 28 29 [v0, .int x, v2] st M Q ↔ zQ 28 30 [v0, .int x, v2] (.int x :: st) M Q := zq_go (i := .iload_n 1) (by decide +kernel) rfl
theorem q28_30 : zQ 28 30 L st M Q ↔ zQ 28 31 L (.int 1 :: st) M Q := zq_con (n := 1) (by decide +kernel) (by decide +kernel) rfl
theorem q28_31 : zQ 28 31 [v0, v1, .int x] st M Q ↔ zQ 28 32 [v0, v1, .int x] (.int x :: st) M Q := zq_go (i := .iload_n 2) (by decide +kernel) rfl
theorem q28_32 : zQ 28 32 L (.int y :: .int x :: st) M Q ↔ zQ 28 33 L (.int (x <<< (y &&& 31)) :: st) M Q := zq_go (i := .ishl) (by decide +kernel) rfl
theorem q28_33 : zQ 28 33 L (.int y :: .int x :: st) M Q ↔ zQ 28 34 L (.int (x ||| y) :: st) M Q := zq_go (i := .ior) (by decide +kernel) rfl
theorem q28_34i : zQ 28 34 [.int y, v1, v2] (.int x :: st) M Q ↔ zQ 28 35 [.int y, .int x, v2] st M Q := zq_stI (i := .istore_n 1) (k := 1) (by decide +kernel) rfl (Nat.le_of_ble_eq_true rfl) rfl rfl
theorem q28_34r : zQ 28 34 [.ref r1, v1, v2] (.int x :: st) M Q ↔ zQ 28 35 [.ref r1, .int x, v2] st M Q := zq_stI (i := .istore_n 1) (k := 1) (by decide +kernel) rfl (Nat.le_of_ble_eq_true rfl) rfl rfl
theorem q28_34n : zQ 28 34 [.null, v1, v2] (.int x :: st) M Q ↔ zQ 28 35 [.null, .int x, v2] st M Q := zq_stI (i := .istore_n 1) (k := 1) (by decide +kernel) rfl (Nat.le_of_ble_eq_true rfl) rfl rfl
theorem q28_35i : zQ 28 35 [v0, .int y, .int x] st M Q ↔ zQ 28 38 [v0, .int y, .int (x + 1)] st M Q := zq_inc (k := 2) (n := 1) (x := x) (v := 1) (by decide +kernel) (by decide +kernel) rfl rfl rfl rfl
theorem q28_35r : zQ 28 35 [v0, .ref r1, .int x] st M Q ↔ zQ 28 38 [v0, .ref r1, .int (x + 1)] st M Q := zq_inc (k := 2) (n := 1) (x := x) (v := 1) (by decide +kernel) (by decide +kernel) rfl rfl rfl rfl
theorem q28_35n : zQ 28 35 [v0, .null, .int x] st M Q ↔ zQ 28 38 [v0, .null, .int (x + 1)] st M Q := zq_inc (k := 2) (n := 1) (x := x) (v := 1) (by decide +kernel) (by decide +kernel) rfl rfl rfl rfl
theorem q28_38 : zQ 28 38 L st M Q ↔ zQ 28 4 L st M Q := zq_jmp (off := (-34)) (by decide +kernel) (by decide)
theorem q28_41 : zQ 28 41 [v0, .int x, v2] st M Q ↔ zQ 28 42 [v0, .int x, v2] (.int x :: st) M Q := zq_go (i := .iload_n 1) (by decide +kernel) rfl
theorem q28_42 : zQ 28 42 L [.int x] M Q ↔ Q (zI x) M := zq_reI (by decide +kernel) (by decide +kernel)
-- 29 SandKeepers$Town.setKeptBy(I)I
theorem q29_0 : zQ 29 0 L st M Q ↔ zQ 29 1 L (.int 0 :: st) M Q := zq_con (n := 0) (by decide +kernel) (by decide +kernel) rfl
theorem q29_1i : zQ 29 1 [v0, .int y, v2, v3] (.int x :: st) M Q ↔ zQ 29 2 [v0, .int y, .int x, v3] st M Q := zq_stI (i := .istore_n 2) (k := 2) (by decide +kernel) rfl (Nat.le_of_ble_eq_true rfl) rfl rfl
theorem q29_1r : zQ 29 1 [v0, .ref r1, v2, v3] (.int x :: st) M Q ↔ zQ 29 2 [v0, .ref r1, .int x, v3] st M Q := zq_stI (i := .istore_n 2) (k := 2) (by decide +kernel) rfl (Nat.le_of_ble_eq_true rfl) rfl rfl
theorem q29_1n : zQ 29 1 [v0, .null, v2, v3] (.int x :: st) M Q ↔ zQ 29 2 [v0, .null, .int x, v3] st M Q := zq_stI (i := .istore_n 2) (k := 2) (by decide +kernel) rfl (Nat.le_of_ble_eq_true rfl) rfl rfl
theorem q29_2 : zQ 29 2 L st M Q ↔ zQ 29 3 L (.int 0 :: st) M Q := zq_con (n := 0) (by decide +kernel) (by decide +kernel) rfl
theorem q29_3i : zQ 29 3 [v0, v1, .int y, v3] (.int x :: st) M Q ↔ zQ 29 4 [v0, v1, .int y, .int x] st M Q := zq_stI (i := .istore_n 3) (k := 3) (by decide +kernel) rfl (Nat.le_of_ble_eq_true rfl) rfl rfl
theorem q29_3r : zQ 29 3 [v0, v1, .ref r1, v3] (.int x :: st) M Q ↔ zQ 29 4 [v0, v1, .ref r1, .int x] st M Q := zq_stI (i := .istore_n 3) (k := 3) (by decide +kernel) rfl (Nat.le_of_ble_eq_true rfl) rfl rfl
theorem q29_3n : zQ 29 3 [v0, v1, .null, v3] (.int x :: st) M Q ↔ zQ 29 4 [v0, v1, .null, .int x] st M Q := zq_stI (i := .istore_n 3) (k := 3) (by decide +kernel) rfl (Nat.le_of_ble_eq_true rfl) rfl rfl
theorem q29_4 : zQ 29 4 [v0, v1, v2, .int x] st M Q ↔ zQ 29 5 [v0, v1, v2, .int x] (.int x :: st) M Q := zq_go (i := .iload_n 3) (by decide +kernel) rfl
theorem q29_5 : zQ 29 5 [.ref a, v1, v2, v3] st M Q ↔ zQ 29 6 [.ref a, v1, v2, v3] (.ref a :: st) M Q := zq_go (i := .aload_n 0) (by decide +kernel) rfl
theorem q29_6 : zQ 29 6 L (.ref a :: st) M Q ↔ (a < zNC ∧ zk a = 4) ∧ zQ 29 9 L (zfv a 7 M :: st) M Q := zq_getf (n := 34) (b := false) (by decide +kernel) (by decide +kernel)
theorem q29_9 : zQ 29 9 L (.int y :: .int x :: st) M Q ↔ (y ≤ x → zQ 29 34 L st M Q) ∧ (¬ y ≤ x → zQ 29 12 L st M Q) := zq_br (i := .if_icmp .ge 25) (off := 25) (by decide +kernel) rfl (by decide) rfl
theorem q29_12 : zQ 29 12 [.ref a, v1, v2, v3] st M Q ↔ zQ 29 13 [.ref a, v1, v2, v3] (.ref a :: st) M Q := zq_go (i := .aload_n 0) (by decide +kernel) rfl
theorem q29_13 : zQ 29 13 L (.ref a :: st) M Q ↔ (a < zNC ∧ zk a = 4) ∧ zQ 29 16 L (zfv a 5 M :: st) M Q := zq_getf (n := 27) (b := false) (by decide +kernel) (by decide +kernel)
theorem q29_16 : zQ 29 16 [v0, v1, v2, .int x] st M Q ↔ zQ 29 17 [v0, v1, v2, .int x] (.int x :: st) M Q := zq_go (i := .iload_n 3) (by decide +kernel) rfl
theorem q29_17 : zQ 29 17 L (.int x :: .ref a :: st) M Q ↔ (a < zNC ∧ zk a = 7 ∧ zin x (zn a) = true) ∧ zQ 29 18 L (.int (M a x.toNatClampNeg) :: st) M Q := zq_iald (by decide +kernel)
theorem q29_18 : zQ 29 18 [v0, .int x, v2, v3] st M Q ↔ zQ 29 19 [v0, .int x, v2, v3] (.int x :: st) M Q := zq_go (i := .iload_n 1) (by decide +kernel) rfl
theorem q29_19 : zQ 29 19 L (.int y :: .int x :: st) M Q ↔ (x = y → zQ 29 22 L st M Q) ∧ (¬ x = y → zQ 29 28 L st M Q) := zq_bn (i := .if_icmp .ne 9) (off := 9) (by decide +kernel) rfl (by decide) rfl
theorem q29_22 : zQ 29 22 [v0, v1, .int x, v3] st M Q ↔ zQ 29 23 [v0, v1, .int x, v3] (.int x :: st) M Q := zq_go (i := .iload_n 2) (by decide +kernel) rfl
theorem q29_23 : zQ 29 23 L st M Q ↔ zQ 29 24 L (.int 1 :: st) M Q := zq_con (n := 1) (by decide +kernel) (by decide +kernel) rfl
theorem q29_24 : zQ 29 24 [v0, v1, v2, .int x] st M Q ↔ zQ 29 25 [v0, v1, v2, .int x] (.int x :: st) M Q := zq_go (i := .iload_n 3) (by decide +kernel) rfl
theorem q29_25 : zQ 29 25 L (.int y :: .int x :: st) M Q ↔ zQ 29 26 L (.int (x <<< (y &&& 31)) :: st) M Q := zq_go (i := .ishl) (by decide +kernel) rfl
theorem q29_26 : zQ 29 26 L (.int y :: .int x :: st) M Q ↔ zQ 29 27 L (.int (x ||| y) :: st) M Q := zq_go (i := .ior) (by decide +kernel) rfl
theorem q29_27i : zQ 29 27 [v0, .int y, v2, v3] (.int x :: st) M Q ↔ zQ 29 28 [v0, .int y, .int x, v3] st M Q := zq_stI (i := .istore_n 2) (k := 2) (by decide +kernel) rfl (Nat.le_of_ble_eq_true rfl) rfl rfl
theorem q29_27r : zQ 29 27 [v0, .ref r1, v2, v3] (.int x :: st) M Q ↔ zQ 29 28 [v0, .ref r1, .int x, v3] st M Q := zq_stI (i := .istore_n 2) (k := 2) (by decide +kernel) rfl (Nat.le_of_ble_eq_true rfl) rfl rfl
theorem q29_27n : zQ 29 27 [v0, .null, v2, v3] (.int x :: st) M Q ↔ zQ 29 28 [v0, .null, .int x, v3] st M Q := zq_stI (i := .istore_n 2) (k := 2) (by decide +kernel) rfl (Nat.le_of_ble_eq_true rfl) rfl rfl
theorem q29_28i : zQ 29 28 [v0, v1, .int y, .int x] st M Q ↔ zQ 29 31 [v0, v1, .int y, .int (x + 1)] st M Q := zq_inc (k := 3) (n := 1) (x := x) (v := 1) (by decide +kernel) (by decide +kernel) rfl rfl rfl rfl
theorem q29_28r : zQ 29 28 [v0, v1, .ref r1, .int x] st M Q ↔ zQ 29 31 [v0, v1, .ref r1, .int (x + 1)] st M Q := zq_inc (k := 3) (n := 1) (x := x) (v := 1) (by decide +kernel) (by decide +kernel) rfl rfl rfl rfl
theorem q29_28n : zQ 29 28 [v0, v1, .null, .int x] st M Q ↔ zQ 29 31 [v0, v1, .null, .int (x + 1)] st M Q := zq_inc (k := 3) (n := 1) (x := x) (v := 1) (by decide +kernel) (by decide +kernel) rfl rfl rfl rfl
theorem q29_31 : zQ 29 31 L st M Q ↔ zQ 29 4 L st M Q := zq_jmp (off := (-27)) (by decide +kernel) (by decide)
theorem q29_34 : zQ 29 34 [v0, v1, .int x, v3] st M Q ↔ zQ 29 35 [v0, v1, .int x, v3] (.int x :: st) M Q := zq_go (i := .iload_n 2) (by decide +kernel) rfl
theorem q29_35 : zQ 29 35 L [.int x] M Q ↔ Q (zI x) M := zq_reI (by decide +kernel) (by decide +kernel)
-- 30 SandKeepers$Town.sandBehind(II)I
theorem q30_0 : zQ 30 0 [.ref a, v1, v2] st M Q ↔ zQ 30 1 [.ref a, v1, v2] (.ref a :: st) M Q := zq_go (i := .aload_n 0) (by decide +kernel) rfl
theorem q30_1 : zQ 30 1 L (.ref a :: st) M Q ↔ (a < zNC ∧ zk a = 4) ∧ zQ 30 4 L (zfv a 6 M :: st) M Q := zq_getf (n := 30) (b := false) (by decide +kernel) (by decide +kernel)
theorem q30_4 : zQ 30 4 [v0, .int x, v2] st M Q ↔ zQ 30 5 [v0, .int x, v2] (.int x :: st) M Q := zq_go (i := .iload_n 1) (by decide +kernel) rfl
theorem q30_5 : zQ 30 5 L (.int x :: .ref a :: st) M Q ↔ (a < zNC ∧ zk a = 8 ∧ zin x (zn a) = true) ∧ zQ 30 6 L (.int (M a x.toNatClampNeg) :: st) M Q := zq_bald (by decide +kernel)
theorem q30_6 : zQ 30 6 L (.int x :: st) M Q ↔ (x = 0 → zQ 30 18 L st M Q) ∧ (¬ x = 0 → zQ 30 9 L st M Q) := zq_br (i := .ifCond .eq 12) (off := 12) (by decide +kernel) rfl (by decide) rfl
theorem q30_9 : zQ 30 9 [.ref a, v1, v2] st M Q ↔ zQ 30 10 [.ref a, v1, v2] (.ref a :: st) M Q := zq_go (i := .aload_n 0) (by decide +kernel) rfl
theorem q30_10 : zQ 30 10 L (.ref a :: st) M Q ↔ (a < zNC ∧ zk a = 4) ∧ zQ 30 13 L (zfv a 1 M :: st) M Q := zq_getf (n := 15) (b := false) (by decide +kernel) (by decide +kernel)
theorem q30_13 : zQ 30 13 [v0, .int x, v2] st M Q ↔ zQ 30 14 [v0, .int x, v2] (.int x :: st) M Q := zq_go (i := .iload_n 1) (by decide +kernel) rfl
theorem q30_14 : zQ 30 14 L (.int x :: .ref a :: st) M Q ↔ (a < zNC ∧ zk a = 7 ∧ zin x (zn a) = true) ∧ zQ 30 15 L (.int (M a x.toNatClampNeg) :: st) M Q := zq_iald (by decide +kernel)
theorem q30_15 : zQ 30 15 L st M Q ↔ zQ 30 42 L st M Q := zq_jmp (off := 27) (by decide +kernel) (by decide)
theorem q30_18 : zQ 30 18 L st M Q ↔ zQ 30 19 L (.int 0 :: st) M Q := zq_con (n := 0) (by decide +kernel) (by decide +kernel) rfl
theorem q30_19 : zQ 30 19 [.ref a, v1, v2] st M Q ↔ zQ 30 20 [.ref a, v1, v2] (.ref a :: st) M Q := zq_go (i := .aload_n 0) (by decide +kernel) rfl
theorem q30_20 : zQ 30 20 L (.ref a :: st) M Q ↔ (a < zNC ∧ zk a = 4) ∧ zQ 30 23 L (zfv a 1 M :: st) M Q := zq_getf (n := 15) (b := false) (by decide +kernel) (by decide +kernel)
theorem q30_23 : zQ 30 23 [v0, .int x, v2] st M Q ↔ zQ 30 24 [v0, .int x, v2] (.int x :: st) M Q := zq_go (i := .iload_n 1) (by decide +kernel) rfl
theorem q30_24 : zQ 30 24 L (.int x :: .ref a :: st) M Q ↔ (a < zNC ∧ zk a = 7 ∧ zin x (zn a) = true) ∧ zQ 30 25 L (.int (M a x.toNatClampNeg) :: st) M Q := zq_iald (by decide +kernel)
theorem q30_25 : zQ 30 25 [v0, v1, .int x] st M Q ↔ zQ 30 26 [v0, v1, .int x] (.int x :: st) M Q := zq_go (i := .iload_n 2) (by decide +kernel) rfl
theorem q30_26 : zQ 30 26 [.ref a, v1, v2] st M Q ↔ zQ 30 27 [.ref a, v1, v2] (.ref a :: st) M Q := zq_go (i := .aload_n 0) (by decide +kernel) rfl
theorem q30_27 : zQ 30 27 [v0, .int x, v2] st M Q ↔ zQ 30 28 [v0, .int x, v2] (.int x :: st) M Q := zq_go (i := .iload_n 1) (by decide +kernel) rfl
theorem q30_28 : zQ 30 28 [.ref a, v1, v2] st M Q ↔ zQ 30 29 [.ref a, v1, v2] (.ref a :: st) M Q := zq_go (i := .aload_n 0) (by decide +kernel) rfl
theorem q30_29 : zQ 30 29 L (.ref a :: st) M Q ↔ (a < zNC ∧ zk a = 4) ∧ zQ 30 32 L (zfv a 5 M :: st) M Q := zq_getf (n := 27) (b := false) (by decide +kernel) (by decide +kernel)
theorem q30_32 : zQ 30 32 [v0, .int x, v2] st M Q ↔ zQ 30 33 [v0, .int x, v2] (.int x :: st) M Q := zq_go (i := .iload_n 1) (by decide +kernel) rfl
theorem q30_33 : zQ 30 33 L (.int x :: .ref a :: st) M Q ↔ (a < zNC ∧ zk a = 7 ∧ zin x (zn a) = true) ∧ zQ 30 34 L (.int (M a x.toNatClampNeg) :: st) M Q := zq_iald (by decide +kernel)
theorem q30_34 : zQ 30 34 L (.int x2 :: .int x1 :: .ref a :: st) M Q ↔ (zcs st ≤ 8 ∧ a < zNC ∧ zk a = 4) ∧ zQ 24 0 [.ref a, .int x1, .int x2, .null] [] M (fun r M1 => zQ 30 37 L (zpush r st) M1 Q) := zq_callV (n := 71) (j := 24) (b := false) (As := [.int x1, .int x2]) (by decide +kernel) (by decide +kernel) ⟨by decide +kernel, by decide +kernel, rfl, by decide +kernel, by decide +kernel, Nat.le_of_ble_eq_true rfl⟩ rfl
theorem q30_37 : zQ 30 37 L (.int y :: .int x :: st) M Q ↔ zQ 30 38 L (.int (x * y) :: st) M Q := zq_go (i := .imul) (by decide +kernel) rfl
theorem q30_38 : zQ 30 38 L (.int y :: .int x :: st) M Q ↔ zQ 30 39 L (.int (x - y) :: st) M Q := zq_go (i := .isub) (by decide +kernel) rfl
theorem q30_39 : zQ 30 39 L (.int y :: .int x :: st) M Q ↔ (1 ≤ zfr 30 ∧ zcs st + 13 ≤ zlo 30) ∧ zQ 30 42 L (.int (if x < y then y else x) :: st) M Q := zq_max (n := 75) (b := false) (by decide +kernel) (by decide +kernel)
theorem q30_42 : zQ 30 42 L [.int x] M Q ↔ Q (zI x) M := zq_reI (by decide +kernel) (by decide +kernel)
-- 31 SandKeepers$Town.passYear()V
theorem q31_0 : zQ 31 0 L st M Q ↔ zQ 31 1 L (.int 0 :: st) M Q := zq_con (n := 0) (by decide +kernel) (by decide +kernel) rfl
theorem q31_1i : zQ 31 1 [.int y, v1] (.int x :: st) M Q ↔ zQ 31 2 [.int y, .int x] st M Q := zq_stI (i := .istore_n 1) (k := 1) (by decide +kernel) rfl (Nat.le_of_ble_eq_true rfl) rfl rfl
theorem q31_1r : zQ 31 1 [.ref r1, v1] (.int x :: st) M Q ↔ zQ 31 2 [.ref r1, .int x] st M Q := zq_stI (i := .istore_n 1) (k := 1) (by decide +kernel) rfl (Nat.le_of_ble_eq_true rfl) rfl rfl
theorem q31_1n : zQ 31 1 [.null, v1] (.int x :: st) M Q ↔ zQ 31 2 [.null, .int x] st M Q := zq_stI (i := .istore_n 1) (k := 1) (by decide +kernel) rfl (Nat.le_of_ble_eq_true rfl) rfl rfl
theorem q31_2 : zQ 31 2 [v0, .int x] st M Q ↔ zQ 31 3 [v0, .int x] (.int x :: st) M Q := zq_go (i := .iload_n 1) (by decide +kernel) rfl
theorem q31_3 : zQ 31 3 [.ref a, v1] st M Q ↔ zQ 31 4 [.ref a, v1] (.ref a :: st) M Q := zq_go (i := .aload_n 0) (by decide +kernel) rfl
theorem q31_4 : zQ 31 4 L (.ref a :: st) M Q ↔ (a < zNC ∧ zk a = 4) ∧ zQ 31 7 L (zfv a 7 M :: st) M Q := zq_getf (n := 34) (b := false) (by decide +kernel) (by decide +kernel)
theorem q31_7 : zQ 31 7 L (.int y :: .int x :: st) M Q ↔ (y ≤ x → zQ 31 28 L st M Q) ∧ (¬ y ≤ x → zQ 31 10 L st M Q) := zq_br (i := .if_icmp .ge 21) (off := 21) (by decide +kernel) rfl (by decide) rfl
theorem q31_10 : zQ 31 10 [.ref a, v1] st M Q ↔ zQ 31 11 [.ref a, v1] (.ref a :: st) M Q := zq_go (i := .aload_n 0) (by decide +kernel) rfl
theorem q31_11 : zQ 31 11 L (.ref a :: st) M Q ↔ (a < zNC ∧ zk a = 4) ∧ zQ 31 14 L (zfv a 1 M :: st) M Q := zq_getf (n := 15) (b := false) (by decide +kernel) (by decide +kernel)
theorem q31_14 : zQ 31 14 [v0, .int x] st M Q ↔ zQ 31 15 [v0, .int x] (.int x :: st) M Q := zq_go (i := .iload_n 1) (by decide +kernel) rfl
theorem q31_15 : zQ 31 15 [.ref a, v1] st M Q ↔ zQ 31 16 [.ref a, v1] (.ref a :: st) M Q := zq_go (i := .aload_n 0) (by decide +kernel) rfl
theorem q31_16 : zQ 31 16 [v0, .int x] st M Q ↔ zQ 31 17 [v0, .int x] (.int x :: st) M Q := zq_go (i := .iload_n 1) (by decide +kernel) rfl
theorem q31_17 : zQ 31 17 L st M Q ↔ zQ 31 18 L (.int 1 :: st) M Q := zq_con (n := 1) (by decide +kernel) (by decide +kernel) rfl
theorem q31_18 : zQ 31 18 L (.int x2 :: .int x1 :: .ref a :: st) M Q ↔ (zcs st ≤ 8 ∧ a < zNC ∧ zk a = 4) ∧ zQ 30 0 [.ref a, .int x1, .int x2] [] M (fun r M1 => zQ 31 21 L (zpush r st) M1 Q) := zq_callV (n := 80) (j := 30) (b := false) (As := [.int x1, .int x2]) (by decide +kernel) (by decide +kernel) ⟨by decide +kernel, by decide +kernel, rfl, by decide +kernel, by decide +kernel, Nat.le_of_ble_eq_true rfl⟩ rfl
theorem q31_21 : zQ 31 21 L (.int x :: .int y :: .ref a :: st) M Q ↔ (a < zNC ∧ zk a = 7 ∧ zin y (zn a) = true) ∧ zQ 31 22 L st (zup M a y.toNatClampNeg x) Q := zq_iast (by decide +kernel)
theorem q31_22i : zQ 31 22 [.int y, .int x] st M Q ↔ zQ 31 25 [.int y, .int (x + 1)] st M Q := zq_inc (k := 1) (n := 1) (x := x) (v := 1) (by decide +kernel) (by decide +kernel) rfl rfl rfl rfl
theorem q31_22r : zQ 31 22 [.ref r1, .int x] st M Q ↔ zQ 31 25 [.ref r1, .int (x + 1)] st M Q := zq_inc (k := 1) (n := 1) (x := x) (v := 1) (by decide +kernel) (by decide +kernel) rfl rfl rfl rfl
theorem q31_22n : zQ 31 22 [.null, .int x] st M Q ↔ zQ 31 25 [.null, .int (x + 1)] st M Q := zq_inc (k := 1) (n := 1) (x := x) (v := 1) (by decide +kernel) (by decide +kernel) rfl rfl rfl rfl
theorem q31_25 : zQ 31 25 L st M Q ↔ zQ 31 2 L st M Q := zq_jmp (off := (-23)) (by decide +kernel) (by decide)
theorem q31_28 : zQ 31 28 [.ref a, v1] st M Q ↔ zQ 31 29 [.ref a, v1] (.ref a :: st) M Q := zq_go (i := .aload_n 0) (by decide +kernel) rfl
theorem q31_29 : zQ 31 29 L (.ref a :: st) M Q ↔ zQ 31 30 L (.ref a :: .ref a :: st) M Q := zq_go (i := .dup) (by decide +kernel) rfl
theorem q31_30 : zQ 31 30 L (.ref a :: st) M Q ↔ (a < zNC ∧ zk a = 4) ∧ zQ 31 33 L (zfv a 8 M :: st) M Q := zq_getf (n := 42) (b := false) (by decide +kernel) (by decide +kernel)
theorem q31_33 : zQ 31 33 L st M Q ↔ zQ 31 34 L (.int 1 :: st) M Q := zq_con (n := 1) (by decide +kernel) (by decide +kernel) rfl
theorem q31_34 : zQ 31 34 L (.int y :: .int x :: st) M Q ↔ zQ 31 35 L (.int (x + y) :: st) M Q := zq_go (i := .iadd) (by decide +kernel) rfl
theorem q31_35 : zQ 31 35 L (.int x :: .ref a :: st) M Q ↔ (a < zNC ∧ zk a = 4 ∧ zf a 8 = none) ∧ zQ 31 38 L st (zup M a 8 x) Q := zq_putf (n := 42) (b := false) (by decide +kernel) (by decide +kernel) (by decide +kernel)
theorem q31_38 : zQ 31 38 L [] M Q ↔ Q none M := zq_reV (by decide +kernel) (by decide +kernel)
-- 32 SandKeepers$Town.doAct(II)Z
theorem q32_0 : zQ 32 0 [.ref a, v1, v2] st M Q ↔ zQ 32 1 [.ref a, v1, v2] (.ref a :: st) M Q := zq_go (i := .aload_n 0) (by decide +kernel) rfl
theorem q32_1 : zQ 32 1 [v0, .int x, v2] st M Q ↔ zQ 32 2 [v0, .int x, v2] (.int x :: st) M Q := zq_go (i := .iload_n 1) (by decide +kernel) rfl
theorem q32_2 : zQ 32 2 L (.int x1 :: .ref a :: st) M Q ↔ (zcs st ≤ 8 ∧ a < zNC ∧ zk a = 4) ∧ zQ 25 0 [.ref a, .int x1] [] M (fun r M1 => zQ 32 5 L (zpush r st) M1 Q) := zq_callV (n := 68) (j := 25) (b := false) (As := [.int x1]) (by decide +kernel) (by decide +kernel) ⟨by decide +kernel, by decide +kernel, rfl, by decide +kernel, by decide +kernel, Nat.le_of_ble_eq_true rfl⟩ rfl
theorem q32_5 : zQ 32 5 L (.int x :: st) M Q ↔ (x = 0 → zQ 32 40 L st M Q) ∧ (¬ x = 0 → zQ 32 8 L st M Q) := zq_br (i := .ifCond .eq 35) (off := 35) (by decide +kernel) rfl (by decide) rfl
theorem q32_8 : zQ 32 8 [.ref a, v1, v2] st M Q ↔ zQ 32 9 [.ref a, v1, v2] (.ref a :: st) M Q := zq_go (i := .aload_n 0) (by decide +kernel) rfl
theorem q32_9 : zQ 32 9 [.ref a, v1, v2] st M Q ↔ zQ 32 10 [.ref a, v1, v2] (.ref a :: st) M Q := zq_go (i := .aload_n 0) (by decide +kernel) rfl
theorem q32_10 : zQ 32 10 L (.ref a :: st) M Q ↔ (a < zNC ∧ zk a = 4) ∧ zQ 32 13 L (zfv a 5 M :: st) M Q := zq_getf (n := 27) (b := false) (by decide +kernel) (by decide +kernel)
theorem q32_13 : zQ 32 13 [v0, .int x, v2] st M Q ↔ zQ 32 14 [v0, .int x, v2] (.int x :: st) M Q := zq_go (i := .iload_n 1) (by decide +kernel) rfl
theorem q32_14 : zQ 32 14 L (.int x :: .ref a :: st) M Q ↔ (a < zNC ∧ zk a = 7 ∧ zin x (zn a) = true) ∧ zQ 32 15 L (.int (M a x.toNatClampNeg) :: st) M Q := zq_iald (by decide +kernel)
theorem q32_15 : zQ 32 15 L (.int x1 :: .ref a :: st) M Q ↔ (zcs st ≤ 8 ∧ a < zNC ∧ zk a = 4) ∧ zQ 26 0 [.ref a, .int x1] [] M (fun r M1 => zQ 32 18 L (zpush r st) M1 Q) := zq_callV (n := 83) (j := 26) (b := false) (As := [.int x1]) (by decide +kernel) (by decide +kernel) ⟨by decide +kernel, by decide +kernel, rfl, by decide +kernel, by decide +kernel, Nat.le_of_ble_eq_true rfl⟩ rfl
theorem q32_18 : zQ 32 18 L (.int x :: st) M Q ↔ (x = 0 → zQ 32 40 L st M Q) ∧ (¬ x = 0 → zQ 32 21 L st M Q) := zq_br (i := .ifCond .eq 22) (off := 22) (by decide +kernel) rfl (by decide) rfl
theorem q32_21 : zQ 32 21 [.ref a, v1, v2] st M Q ↔ zQ 32 22 [.ref a, v1, v2] (.ref a :: st) M Q := zq_go (i := .aload_n 0) (by decide +kernel) rfl
theorem q32_22 : zQ 32 22 L (.ref a :: st) M Q ↔ (a < zNC ∧ zk a = 4) ∧ zQ 32 25 L (zfv a 6 M :: st) M Q := zq_getf (n := 30) (b := false) (by decide +kernel) (by decide +kernel)
theorem q32_25 : zQ 32 25 [v0, .int x, v2] st M Q ↔ zQ 32 26 [v0, .int x, v2] (.int x :: st) M Q := zq_go (i := .iload_n 1) (by decide +kernel) rfl
theorem q32_26 : zQ 32 26 L (.int x :: .ref a :: st) M Q ↔ (a < zNC ∧ zk a = 8 ∧ zin x (zn a) = true) ∧ zQ 32 27 L (.int (M a x.toNatClampNeg) :: st) M Q := zq_bald (by decide +kernel)
theorem q32_27 : zQ 32 27 [v0, v1, .int x] st M Q ↔ zQ 32 28 [v0, v1, .int x] (.int x :: st) M Q := zq_go (i := .iload_n 2) (by decide +kernel) rfl
theorem q32_28 : zQ 32 28 L st M Q ↔ zQ 32 29 L (.int 1 :: st) M Q := zq_con (n := 1) (by decide +kernel) (by decide +kernel) rfl
theorem q32_29 : zQ 32 29 L (.int y :: .int x :: st) M Q ↔ (x = y → zQ 32 32 L st M Q) ∧ (¬ x = y → zQ 32 36 L st M Q) := zq_bn (i := .if_icmp .ne 7) (off := 7) (by decide +kernel) rfl (by decide) rfl
theorem q32_32 : zQ 32 32 L st M Q ↔ zQ 32 33 L (.int 1 :: st) M Q := zq_con (n := 1) (by decide +kernel) (by decide +kernel) rfl
theorem q32_33 : zQ 32 33 L st M Q ↔ zQ 32 37 L st M Q := zq_jmp (off := 4) (by decide +kernel) (by decide)
theorem q32_36 : zQ 32 36 L st M Q ↔ zQ 32 37 L (.int 0 :: st) M Q := zq_con (n := 0) (by decide +kernel) (by decide +kernel) rfl
theorem q32_37 : zQ 32 37 L (.int y :: .int x :: st) M Q ↔ (x = y → zQ 32 42 L st M Q) ∧ (¬ x = y → zQ 32 40 L st M Q) := zq_br (i := .if_icmp .eq 5) (off := 5) (by decide +kernel) rfl (by decide) rfl
theorem q32_40 : zQ 32 40 L st M Q ↔ zQ 32 41 L (.int 0 :: st) M Q := zq_con (n := 0) (by decide +kernel) (by decide +kernel) rfl
theorem q32_41 : zQ 32 41 L [.int x] M Q ↔ (x = 0 ∨ x = 1) ∧ Q (zI x) M := zq_reZ (by decide +kernel) (by decide +kernel)
theorem q32_42 : zQ 32 42 [v0, v1, .int x] st M Q ↔ zQ 32 43 [v0, v1, .int x] (.int x :: st) M Q := zq_go (i := .iload_n 2) (by decide +kernel) rfl
theorem q32_43 : zQ 32 43 L st M Q ↔ zQ 32 44 L (.int 2 :: st) M Q := zq_con (n := 2) (by decide +kernel) (by decide +kernel) rfl
theorem q32_44 : zQ 32 44 L (.int y :: .int x :: st) M Q ↔ (x = y → zQ 32 47 L st M Q) ∧ (¬ x = y → zQ 32 69 L st M Q) := zq_bn (i := .if_icmp .ne 25) (off := 25) (by decide +kernel) rfl (by decide) rfl
theorem q32_47 : zQ 32 47 [.ref a, v1, v2] st M Q ↔ zQ 32 48 [.ref a, v1, v2] (.ref a :: st) M Q := zq_go (i := .aload_n 0) (by decide +kernel) rfl
theorem q32_48 : zQ 32 48 L (.ref a :: st) M Q ↔ (a < zNC ∧ zk a = 4) ∧ zQ 32 51 L (zfv a 1 M :: st) M Q := zq_getf (n := 15) (b := false) (by decide +kernel) (by decide +kernel)
theorem q32_51 : zQ 32 51 [v0, .int x, v2] st M Q ↔ zQ 32 52 [v0, .int x, v2] (.int x :: st) M Q := zq_go (i := .iload_n 1) (by decide +kernel) rfl
theorem q32_52 : zQ 32 52 [.ref a, v1, v2] st M Q ↔ zQ 32 53 [.ref a, v1, v2] (.ref a :: st) M Q := zq_go (i := .aload_n 0) (by decide +kernel) rfl
theorem q32_53 : zQ 32 53 L (.ref a :: st) M Q ↔ (a < zNC ∧ zk a = 4) ∧ zQ 32 56 L (zfv a 2 M :: st) M Q := zq_getf (n := 18) (b := false) (by decide +kernel) (by decide +kernel)
theorem q32_56 : zQ 32 56 [v0, .int x, v2] st M Q ↔ zQ 32 57 [v0, .int x, v2] (.int x :: st) M Q := zq_go (i := .iload_n 1) (by decide +kernel) rfl
theorem q32_57 : zQ 32 57 L (.int x :: .ref a :: st) M Q ↔ (a < zNC ∧ zk a = 7 ∧ zin x (zn a) = true) ∧ zQ 32 58 L (.int (M a x.toNatClampNeg) :: st) M Q := zq_iald (by decide +kernel)
theorem q32_58 : zQ 32 58 [.ref a, v1, v2] st M Q ↔ zQ 32 59 [.ref a, v1, v2] (.ref a :: st) M Q := zq_go (i := .aload_n 0) (by decide +kernel) rfl
theorem q32_59 : zQ 32 59 L (.ref a :: st) M Q ↔ (a < zNC ∧ zk a = 4) ∧ zQ 32 62 L (zfv a 1 M :: st) M Q := zq_getf (n := 15) (b := false) (by decide +kernel) (by decide +kernel)
theorem q32_62 : zQ 32 62 [v0, .int x, v2] st M Q ↔ zQ 32 63 [v0, .int x, v2] (.int x :: st) M Q := zq_go (i := .iload_n 1) (by decide +kernel) rfl
theorem q32_63 : zQ 32 63 L (.int x :: .ref a :: st) M Q ↔ (a < zNC ∧ zk a = 7 ∧ zin x (zn a) = true) ∧ zQ 32 64 L (.int (M a x.toNatClampNeg) :: st) M Q := zq_iald (by decide +kernel)
theorem q32_64 : zQ 32 64 L (.int y :: .int x :: st) M Q ↔ zQ 32 65 L (.int (x - y) :: st) M Q := zq_go (i := .isub) (by decide +kernel) rfl
theorem q32_65 : zQ 32 65 L (.int x :: .int y :: .ref a :: st) M Q ↔ (a < zNC ∧ zk a = 7 ∧ zin y (zn a) = true) ∧ zQ 32 66 L st (zup M a y.toNatClampNeg x) Q := zq_iast (by decide +kernel)
theorem q32_66 : zQ 32 66 L st M Q ↔ zQ 32 84 L st M Q := zq_jmp (off := 18) (by decide +kernel) (by decide)
theorem q32_69 : zQ 32 69 [.ref a, v1, v2] st M Q ↔ zQ 32 70 [.ref a, v1, v2] (.ref a :: st) M Q := zq_go (i := .aload_n 0) (by decide +kernel) rfl
theorem q32_70 : zQ 32 70 L (.ref a :: st) M Q ↔ (a < zNC ∧ zk a = 4) ∧ zQ 32 73 L (zfv a 6 M :: st) M Q := zq_getf (n := 30) (b := false) (by decide +kernel) (by decide +kernel)
theorem q32_73 : zQ 32 73 [v0, .int x, v2] st M Q ↔ zQ 32 74 [v0, .int x, v2] (.int x :: st) M Q := zq_go (i := .iload_n 1) (by decide +kernel) rfl
theorem q32_74 : zQ 32 74 [v0, v1, .int x] st M Q ↔ zQ 32 75 [v0, v1, .int x] (.int x :: st) M Q := zq_go (i := .iload_n 2) (by decide +kernel) rfl
theorem q32_75 : zQ 32 75 L (.int x :: st) M Q ↔ (x = 0 → zQ 32 78 L st M Q) ∧ (¬ x = 0 → zQ 32 82 L st M Q) := zq_bn (i := .ifCond .ne 7) (off := 7) (by decide +kernel) rfl (by decide) rfl
theorem q32_78 : zQ 32 78 L st M Q ↔ zQ 32 79 L (.int 1 :: st) M Q := zq_con (n := 1) (by decide +kernel) (by decide +kernel) rfl
theorem q32_79 : zQ 32 79 L st M Q ↔ zQ 32 83 L st M Q := zq_jmp (off := 4) (by decide +kernel) (by decide)
theorem q32_82 : zQ 32 82 L st M Q ↔ zQ 32 83 L (.int 0 :: st) M Q := zq_con (n := 0) (by decide +kernel) (by decide +kernel) rfl
theorem q32_83 : zQ 32 83 L (.int x :: .int y :: .ref a :: st) M Q ↔ (a < zNC ∧ zk a = 8 ∧ zin y (zn a) = true) ∧ zQ 32 84 L st (zup M a y.toNatClampNeg (vp_nar .boolean x)) Q := zq_bast (by decide +kernel)
theorem q32_84 : zQ 32 84 L st M Q ↔ zQ 32 85 L (.int 1 :: st) M Q := zq_con (n := 1) (by decide +kernel) (by decide +kernel) rfl
theorem q32_85 : zQ 32 85 L [.int x] M Q ↔ (x = 0 ∨ x = 1) ∧ Q (zI x) M := zq_reZ (by decide +kernel) (by decide +kernel)
-- 33 SandKeepers$Town.lifeOf(I)I
theorem q33_0 : zQ 33 0 [.ref a, v1] st M Q ↔ zQ 33 1 [.ref a, v1] (.ref a :: st) M Q := zq_go (i := .aload_n 0) (by decide +kernel) rfl
theorem q33_1 : zQ 33 1 [v0, .int x] st M Q ↔ zQ 33 2 [v0, .int x] (.int x :: st) M Q := zq_go (i := .iload_n 1) (by decide +kernel) rfl
theorem q33_2 : zQ 33 2 [.ref a, v1] st M Q ↔ zQ 33 3 [.ref a, v1] (.ref a :: st) M Q := zq_go (i := .aload_n 0) (by decide +kernel) rfl
theorem q33_3 : zQ 33 3 L (.ref a :: st) M Q ↔ (a < zNC ∧ zk a = 4) ∧ zQ 33 6 L (zfv a 5 M :: st) M Q := zq_getf (n := 27) (b := false) (by decide +kernel) (by decide +kernel)
theorem q33_6 : zQ 33 6 [v0, .int x] st M Q ↔ zQ 33 7 [v0, .int x] (.int x :: st) M Q := zq_go (i := .iload_n 1) (by decide +kernel) rfl
theorem q33_7 : zQ 33 7 L (.int x :: .ref a :: st) M Q ↔ (a < zNC ∧ zk a = 7 ∧ zin x (zn a) = true) ∧ zQ 33 8 L (.int (M a x.toNatClampNeg) :: st) M Q := zq_iald (by decide +kernel)
theorem q33_8 : zQ 33 8 L (.int x2 :: .int x1 :: .ref a :: st) M Q ↔ (zcs st ≤ 8 ∧ a < zNC ∧ zk a = 4) ∧ zQ 34 0 [.ref a, .int x1, .int x2, .null] [] M (fun r M1 => zQ 33 11 L (zpush r st) M1 Q) := zq_callV (n := 86) (j := 34) (b := false) (As := [.int x1, .int x2]) (by decide +kernel) (by decide +kernel) ⟨by decide +kernel, by decide +kernel, rfl, by decide +kernel, by decide +kernel, Nat.le_of_ble_eq_true rfl⟩ rfl
theorem q33_11 : zQ 33 11 L [.int x] M Q ↔ Q (zI x) M := zq_reI (by decide +kernel) (by decide +kernel)
-- 34 SandKeepers$Town.lifeKeptBy(II)I
theorem q34_0 : zQ 34 0 [.ref a, v1, v2, v3] st M Q ↔ zQ 34 1 [.ref a, v1, v2, v3] (.ref a :: st) M Q := zq_go (i := .aload_n 0) (by decide +kernel) rfl
theorem q34_1 : zQ 34 1 [v0, .int x, v2, v3] st M Q ↔ zQ 34 2 [v0, .int x, v2, v3] (.int x :: st) M Q := zq_go (i := .iload_n 1) (by decide +kernel) rfl
theorem q34_2 : zQ 34 2 L (.int x1 :: .ref a :: st) M Q ↔ (zcs st ≤ 8 ∧ a < zNC ∧ zk a = 4) ∧ zQ 25 0 [.ref a, .int x1] [] M (fun r M1 => zQ 34 5 L (zpush r st) M1 Q) := zq_callV (n := 68) (j := 25) (b := false) (As := [.int x1]) (by decide +kernel) (by decide +kernel) ⟨by decide +kernel, by decide +kernel, rfl, by decide +kernel, by decide +kernel, Nat.le_of_ble_eq_true rfl⟩ rfl
theorem q34_5 : zQ 34 5 L (.int x :: st) M Q ↔ (x = 0 → zQ 34 8 L st M Q) ∧ (¬ x = 0 → zQ 34 10 L st M Q) := zq_bn (i := .ifCond .ne 5) (off := 5) (by decide +kernel) rfl (by decide) rfl
theorem q34_8 : zQ 34 8 L st M Q ↔ zQ 34 9 L (.int 0 :: st) M Q := zq_con (n := 0) (by decide +kernel) (by decide +kernel) rfl
theorem q34_9 : zQ 34 9 L [.int x] M Q ↔ Q (zI x) M := zq_reI (by decide +kernel) (by decide +kernel)
theorem q34_10 : zQ 34 10 [.ref a, v1, v2, v3] st M Q ↔ zQ 34 11 [.ref a, v1, v2, v3] (.ref a :: st) M Q := zq_go (i := .aload_n 0) (by decide +kernel) rfl
theorem q34_11 : zQ 34 11 [v0, .int x, v2, v3] st M Q ↔ zQ 34 12 [v0, .int x, v2, v3] (.int x :: st) M Q := zq_go (i := .iload_n 1) (by decide +kernel) rfl
theorem q34_12 : zQ 34 12 [v0, v1, .int x, v3] st M Q ↔ zQ 34 13 [v0, v1, .int x, v3] (.int x :: st) M Q := zq_go (i := .iload_n 2) (by decide +kernel) rfl
theorem q34_13 : zQ 34 13 L (.int x2 :: .int x1 :: .ref a :: st) M Q ↔ (zcs st ≤ 8 ∧ a < zNC ∧ zk a = 4) ∧ zQ 24 0 [.ref a, .int x1, .int x2, .null] [] M (fun r M1 => zQ 34 16 L (zpush r st) M1 Q) := zq_callV (n := 71) (j := 24) (b := false) (As := [.int x1, .int x2]) (by decide +kernel) (by decide +kernel) ⟨by decide +kernel, by decide +kernel, rfl, by decide +kernel, by decide +kernel, Nat.le_of_ble_eq_true rfl⟩ rfl
theorem q34_16i : zQ 34 16 [v0, v1, .int y, v3] (.int x :: st) M Q ↔ zQ 34 17 [v0, v1, .int y, .int x] st M Q := zq_stI (i := .istore_n 3) (k := 3) (by decide +kernel) rfl (Nat.le_of_ble_eq_true rfl) rfl rfl
theorem q34_16r : zQ 34 16 [v0, v1, .ref r1, v3] (.int x :: st) M Q ↔ zQ 34 17 [v0, v1, .ref r1, .int x] st M Q := zq_stI (i := .istore_n 3) (k := 3) (by decide +kernel) rfl (Nat.le_of_ble_eq_true rfl) rfl rfl
theorem q34_16n : zQ 34 16 [v0, v1, .null, v3] (.int x :: st) M Q ↔ zQ 34 17 [v0, v1, .null, .int x] st M Q := zq_stI (i := .istore_n 3) (k := 3) (by decide +kernel) rfl (Nat.le_of_ble_eq_true rfl) rfl rfl
theorem q34_17 : zQ 34 17 [.ref a, v1, v2, v3] st M Q ↔ zQ 34 18 [.ref a, v1, v2, v3] (.ref a :: st) M Q := zq_go (i := .aload_n 0) (by decide +kernel) rfl
theorem q34_18 : zQ 34 18 L (.ref a :: st) M Q ↔ (a < zNC ∧ zk a = 4) ∧ zQ 34 21 L (zfv a 6 M :: st) M Q := zq_getf (n := 30) (b := false) (by decide +kernel) (by decide +kernel)
theorem q34_21 : zQ 34 21 [v0, .int x, v2, v3] st M Q ↔ zQ 34 22 [v0, .int x, v2, v3] (.int x :: st) M Q := zq_go (i := .iload_n 1) (by decide +kernel) rfl
theorem q34_22 : zQ 34 22 L (.int x :: .ref a :: st) M Q ↔ (a < zNC ∧ zk a = 8 ∧ zin x (zn a) = true) ∧ zQ 34 23 L (.int (M a x.toNatClampNeg) :: st) M Q := zq_bald (by decide +kernel)
theorem q34_23 : zQ 34 23 L (.int x :: st) M Q ↔ (x = 0 → zQ 34 26 L st M Q) ∧ (¬ x = 0 → zQ 34 30 L st M Q) := zq_bn (i := .ifCond .ne 7) (off := 7) (by decide +kernel) rfl (by decide) rfl
theorem q34_26 : zQ 34 26 [v0, v1, v2, .int x] st M Q ↔ zQ 34 27 [v0, v1, v2, .int x] (.int x :: st) M Q := zq_go (i := .iload_n 3) (by decide +kernel) rfl
theorem q34_27 : zQ 34 27 L (.int x :: st) M Q ↔ (0 < x → zQ 34 33 L st M Q) ∧ (¬ 0 < x → zQ 34 30 L st M Q) := zq_br (i := .ifCond .gt 6) (off := 6) (by decide +kernel) rfl (by decide) rfl
theorem q34_30 : zQ 34 30 L st M Q ↔ zQ 34 32 L (.int 99 :: st) M Q := zq_bip (n := 99) (by decide +kernel) (by decide +kernel) rfl
theorem q34_32 : zQ 34 32 L [.int x] M Q ↔ Q (zI x) M := zq_reI (by decide +kernel) (by decide +kernel)
theorem q34_33 : zQ 34 33 [.ref a, v1, v2, v3] st M Q ↔ zQ 34 34 [.ref a, v1, v2, v3] (.ref a :: st) M Q := zq_go (i := .aload_n 0) (by decide +kernel) rfl
theorem q34_34 : zQ 34 34 L (.ref a :: st) M Q ↔ (a < zNC ∧ zk a = 4) ∧ zQ 34 37 L (zfv a 1 M :: st) M Q := zq_getf (n := 15) (b := false) (by decide +kernel) (by decide +kernel)
theorem q34_37 : zQ 34 37 [v0, .int x, v2, v3] st M Q ↔ zQ 34 38 [v0, .int x, v2, v3] (.int x :: st) M Q := zq_go (i := .iload_n 1) (by decide +kernel) rfl
theorem q34_38 : zQ 34 38 L (.int x :: .ref a :: st) M Q ↔ (a < zNC ∧ zk a = 7 ∧ zin x (zn a) = true) ∧ zQ 34 39 L (.int (M a x.toNatClampNeg) :: st) M Q := zq_iald (by decide +kernel)
theorem q34_39 : zQ 34 39 [v0, v1, v2, .int x] st M Q ↔ zQ 34 40 [v0, v1, v2, .int x] (.int x :: st) M Q := zq_go (i := .iload_n 3) (by decide +kernel) rfl
theorem q34_40 : zQ 34 40 L (.int y :: .int x :: st) M Q ↔ zQ 34 41 L (.int (x + y) :: st) M Q := zq_go (i := .iadd) (by decide +kernel) rfl
theorem q34_41 : zQ 34 41 L st M Q ↔ zQ 34 42 L (.int 1 :: st) M Q := zq_con (n := 1) (by decide +kernel) (by decide +kernel) rfl
theorem q34_42 : zQ 34 42 L (.int y :: .int x :: st) M Q ↔ zQ 34 43 L (.int (x - y) :: st) M Q := zq_go (i := .isub) (by decide +kernel) rfl
theorem q34_43 : zQ 34 43 [v0, v1, v2, .int x] st M Q ↔ zQ 34 44 [v0, v1, v2, .int x] (.int x :: st) M Q := zq_go (i := .iload_n 3) (by decide +kernel) rfl
theorem q34_44 : zQ 34 44 L (.int y :: .int x :: st) M Q ↔ ¬ y = 0 ∧ zQ 34 45 L (.int (x / y) :: st) M Q := zq_div (by decide +kernel)
theorem q34_45 : zQ 34 45 L [.int x] M Q ↔ Q (zI x) M := zq_reI (by decide +kernel) (by decide +kernel)
-- 35 SandKeepers$Town.gainOfExchange(II)I
theorem q35_0 : zQ 35 0 [.ref a, v1, v2, v3] st M Q ↔ zQ 35 1 [.ref a, v1, v2, v3] (.ref a :: st) M Q := zq_go (i := .aload_n 0) (by decide +kernel) rfl
theorem q35_1 : zQ 35 1 [v0, .int x, v2, v3] st M Q ↔ zQ 35 2 [v0, .int x, v2, v3] (.int x :: st) M Q := zq_go (i := .iload_n 1) (by decide +kernel) rfl
theorem q35_2 : zQ 35 2 [.ref a, v1, v2, v3] st M Q ↔ zQ 35 3 [.ref a, v1, v2, v3] (.ref a :: st) M Q := zq_go (i := .aload_n 0) (by decide +kernel) rfl
theorem q35_3 : zQ 35 3 L (.ref a :: st) M Q ↔ (a < zNC ∧ zk a = 4) ∧ zQ 35 6 L (zfv a 5 M :: st) M Q := zq_getf (n := 27) (b := false) (by decide +kernel) (by decide +kernel)
theorem q35_6 : zQ 35 6 [v0, v1, .int x, v3] st M Q ↔ zQ 35 7 [v0, v1, .int x, v3] (.int x :: st) M Q := zq_go (i := .iload_n 2) (by decide +kernel) rfl
theorem q35_7 : zQ 35 7 L (.int x :: .ref a :: st) M Q ↔ (a < zNC ∧ zk a = 7 ∧ zin x (zn a) = true) ∧ zQ 35 8 L (.int (M a x.toNatClampNeg) :: st) M Q := zq_iald (by decide +kernel)
theorem q35_8 : zQ 35 8 L (.int x2 :: .int x1 :: .ref a :: st) M Q ↔ (zcs st ≤ 8 ∧ a < zNC ∧ zk a = 4) ∧ zQ 34 0 [.ref a, .int x1, .int x2, .null] [] M (fun r M1 => zQ 35 11 L (zpush r st) M1 Q) := zq_callV (n := 86) (j := 34) (b := false) (As := [.int x1, .int x2]) (by decide +kernel) (by decide +kernel) ⟨by decide +kernel, by decide +kernel, rfl, by decide +kernel, by decide +kernel, Nat.le_of_ble_eq_true rfl⟩ rfl
theorem q35_11 : zQ 35 11 [.ref a, v1, v2, v3] st M Q ↔ zQ 35 12 [.ref a, v1, v2, v3] (.ref a :: st) M Q := zq_go (i := .aload_n 0) (by decide +kernel) rfl
theorem q35_12 : zQ 35 12 [v0, v1, .int x, v3] st M Q ↔ zQ 35 13 [v0, v1, .int x, v3] (.int x :: st) M Q := zq_go (i := .iload_n 2) (by decide +kernel) rfl
theorem q35_13 : zQ 35 13 [.ref a, v1, v2, v3] st M Q ↔ zQ 35 14 [.ref a, v1, v2, v3] (.ref a :: st) M Q := zq_go (i := .aload_n 0) (by decide +kernel) rfl
theorem q35_14 : zQ 35 14 L (.ref a :: st) M Q ↔ (a < zNC ∧ zk a = 4) ∧ zQ 35 17 L (zfv a 5 M :: st) M Q := zq_getf (n := 27) (b := false) (by decide +kernel) (by decide +kernel)
theorem q35_17 : zQ 35 17 [v0, .int x, v2, v3] st M Q ↔ zQ 35 18 [v0, .int x, v2, v3] (.int x :: st) M Q := zq_go (i := .iload_n 1) (by decide +kernel) rfl
theorem q35_18 : zQ 35 18 L (.int x :: .ref a :: st) M Q ↔ (a < zNC ∧ zk a = 7 ∧ zin x (zn a) = true) ∧ zQ 35 19 L (.int (M a x.toNatClampNeg) :: st) M Q := zq_iald (by decide +kernel)
theorem q35_19 : zQ 35 19 L (.int x2 :: .int x1 :: .ref a :: st) M Q ↔ (zcs st ≤ 8 ∧ a < zNC ∧ zk a = 4) ∧ zQ 34 0 [.ref a, .int x1, .int x2, .null] [] M (fun r M1 => zQ 35 22 L (zpush r st) M1 Q) := zq_callV (n := 86) (j := 34) (b := false) (As := [.int x1, .int x2]) (by decide +kernel) (by decide +kernel) ⟨by decide +kernel, by decide +kernel, rfl, by decide +kernel, by decide +kernel, Nat.le_of_ble_eq_true rfl⟩ rfl
theorem q35_22 : zQ 35 22 L (.int y :: .int x :: st) M Q ↔ zQ 35 23 L (.int (x + y) :: st) M Q := zq_go (i := .iadd) (by decide +kernel) rfl
theorem q35_23i : zQ 35 23 [v0, v1, .int y, v3] (.int x :: st) M Q ↔ zQ 35 24 [v0, v1, .int y, .int x] st M Q := zq_stI (i := .istore_n 3) (k := 3) (by decide +kernel) rfl (Nat.le_of_ble_eq_true rfl) rfl rfl
theorem q35_23r : zQ 35 23 [v0, v1, .ref r1, v3] (.int x :: st) M Q ↔ zQ 35 24 [v0, v1, .ref r1, .int x] st M Q := zq_stI (i := .istore_n 3) (k := 3) (by decide +kernel) rfl (Nat.le_of_ble_eq_true rfl) rfl rfl
theorem q35_23n : zQ 35 23 [v0, v1, .null, v3] (.int x :: st) M Q ↔ zQ 35 24 [v0, v1, .null, .int x] st M Q := zq_stI (i := .istore_n 3) (k := 3) (by decide +kernel) rfl (Nat.le_of_ble_eq_true rfl) rfl rfl
theorem q35_24 : zQ 35 24 [v0, v1, v2, .int x] st M Q ↔ zQ 35 25 [v0, v1, v2, .int x] (.int x :: st) M Q := zq_go (i := .iload_n 3) (by decide +kernel) rfl
theorem q35_25 : zQ 35 25 [.ref a, v1, v2, v3] st M Q ↔ zQ 35 26 [.ref a, v1, v2, v3] (.ref a :: st) M Q := zq_go (i := .aload_n 0) (by decide +kernel) rfl
theorem q35_26 : zQ 35 26 [v0, .int x, v2, v3] st M Q ↔ zQ 35 27 [v0, .int x, v2, v3] (.int x :: st) M Q := zq_go (i := .iload_n 1) (by decide +kernel) rfl
theorem q35_27 : zQ 35 27 L (.int x1 :: .ref a :: st) M Q ↔ (zcs st ≤ 8 ∧ a < zNC ∧ zk a = 4) ∧ zQ 33 0 [.ref a, .int x1] [] M (fun r M1 => zQ 35 30 L (zpush r st) M1 Q) := zq_callV (n := 89) (j := 33) (b := false) (As := [.int x1]) (by decide +kernel) (by decide +kernel) ⟨by decide +kernel, by decide +kernel, rfl, by decide +kernel, by decide +kernel, Nat.le_of_ble_eq_true rfl⟩ rfl
theorem q35_30 : zQ 35 30 L (.int y :: .int x :: st) M Q ↔ zQ 35 31 L (.int (x - y) :: st) M Q := zq_go (i := .isub) (by decide +kernel) rfl
theorem q35_31 : zQ 35 31 [.ref a, v1, v2, v3] st M Q ↔ zQ 35 32 [.ref a, v1, v2, v3] (.ref a :: st) M Q := zq_go (i := .aload_n 0) (by decide +kernel) rfl
theorem q35_32 : zQ 35 32 [v0, v1, .int x, v3] st M Q ↔ zQ 35 33 [v0, v1, .int x, v3] (.int x :: st) M Q := zq_go (i := .iload_n 2) (by decide +kernel) rfl
theorem q35_33 : zQ 35 33 L (.int x1 :: .ref a :: st) M Q ↔ (zcs st ≤ 8 ∧ a < zNC ∧ zk a = 4) ∧ zQ 33 0 [.ref a, .int x1] [] M (fun r M1 => zQ 35 36 L (zpush r st) M1 Q) := zq_callV (n := 89) (j := 33) (b := false) (As := [.int x1]) (by decide +kernel) (by decide +kernel) ⟨by decide +kernel, by decide +kernel, rfl, by decide +kernel, by decide +kernel, Nat.le_of_ble_eq_true rfl⟩ rfl
theorem q35_36 : zQ 35 36 L (.int y :: .int x :: st) M Q ↔ zQ 35 37 L (.int (x - y) :: st) M Q := zq_go (i := .isub) (by decide +kernel) rfl
theorem q35_37 : zQ 35 37 L [.int x] M Q ↔ Q (zI x) M := zq_reI (by decide +kernel) (by decide +kernel)
-- 36 SandKeepers$Town.keepersUpTo(II)I
theorem q36_0 : zQ 36 0 [v0, v1, .int x, v3, v4] st M Q ↔ zQ 36 1 [v0, v1, .int x, v3, v4] (.int x :: st) M Q := zq_go (i := .iload_n 2) (by decide +kernel) rfl
theorem q36_1i : zQ 36 1 [v0, v1, .int y, v3, v4] (.int x :: st) M Q ↔ zQ 36 2 [v0, v1, .int y, .int x, v4] st M Q := zq_stI (i := .istore_n 3) (k := 3) (by decide +kernel) rfl (Nat.le_of_ble_eq_true rfl) rfl rfl
theorem q36_1r : zQ 36 1 [v0, v1, .ref r1, v3, v4] (.int x :: st) M Q ↔ zQ 36 2 [v0, v1, .ref r1, .int x, v4] st M Q := zq_stI (i := .istore_n 3) (k := 3) (by decide +kernel) rfl (Nat.le_of_ble_eq_true rfl) rfl rfl
theorem q36_1n : zQ 36 1 [v0, v1, .null, v3, v4] (.int x :: st) M Q ↔ zQ 36 2 [v0, v1, .null, .int x, v4] st M Q := zq_stI (i := .istore_n 3) (k := 3) (by decide +kernel) rfl (Nat.le_of_ble_eq_true rfl) rfl rfl
theorem q36_2 : zQ 36 2 L st M Q ↔ zQ 36 3 L (.int 1 :: st) M Q := zq_con (n := 1) (by decide +kernel) (by decide +kernel) rfl
theorem q36_3i : zQ 36 3 [v0, v1, v2, .int y, v4] (.int x :: st) M Q ↔ zQ 36 5 [v0, v1, v2, .int y, .int x] st M Q := zq_stI (i := .istore 4) (k := 4) (by decide +kernel) rfl (Nat.le_of_ble_eq_true rfl) rfl rfl
theorem q36_3r : zQ 36 3 [v0, v1, v2, .ref r1, v4] (.int x :: st) M Q ↔ zQ 36 5 [v0, v1, v2, .ref r1, .int x] st M Q := zq_stI (i := .istore 4) (k := 4) (by decide +kernel) rfl (Nat.le_of_ble_eq_true rfl) rfl rfl
theorem q36_3n : zQ 36 3 [v0, v1, v2, .null, v4] (.int x :: st) M Q ↔ zQ 36 5 [v0, v1, v2, .null, .int x] st M Q := zq_stI (i := .istore 4) (k := 4) (by decide +kernel) rfl (Nat.le_of_ble_eq_true rfl) rfl rfl
theorem q36_5 : zQ 36 5 [v0, v1, v2, v3, .int x] st M Q ↔ zQ 36 7 [v0, v1, v2, v3, .int x] (.int x :: st) M Q := zq_go (i := .iload 4) (by decide +kernel) rfl
theorem q36_7 : zQ 36 7 [.ref a, v1, v2, v3, v4] st M Q ↔ zQ 36 8 [.ref a, v1, v2, v3, v4] (.ref a :: st) M Q := zq_go (i := .aload_n 0) (by decide +kernel) rfl
theorem q36_8 : zQ 36 8 L (.ref a :: st) M Q ↔ (a < zNC ∧ zk a = 4) ∧ zQ 36 11 L (zfv a 7 M :: st) M Q := zq_getf (n := 34) (b := false) (by decide +kernel) (by decide +kernel)
theorem q36_11 : zQ 36 11 L (.int y :: .int x :: st) M Q ↔ (y < x → zQ 36 35 L st M Q) ∧ (¬ y < x → zQ 36 14 L st M Q) := zq_br (i := .if_icmp .gt 24) (off := 24) (by decide +kernel) rfl (by decide) rfl
theorem q36_14 : zQ 36 14 [.ref a, v1, v2, v3, v4] st M Q ↔ zQ 36 15 [.ref a, v1, v2, v3, v4] (.ref a :: st) M Q := zq_go (i := .aload_n 0) (by decide +kernel) rfl
theorem q36_15 : zQ 36 15 L (.ref a :: st) M Q ↔ (a < zNC ∧ zk a = 4) ∧ zQ 36 18 L (zfv a 5 M :: st) M Q := zq_getf (n := 27) (b := false) (by decide +kernel) (by decide +kernel)
theorem q36_18 : zQ 36 18 [v0, v1, v2, .int x, v4] st M Q ↔ zQ 36 19 [v0, v1, v2, .int x, v4] (.int x :: st) M Q := zq_go (i := .iload_n 3) (by decide +kernel) rfl
theorem q36_19 : zQ 36 19 L (.int x :: .ref a :: st) M Q ↔ (a < zNC ∧ zk a = 7 ∧ zin x (zn a) = true) ∧ zQ 36 20 L (.int (M a x.toNatClampNeg) :: st) M Q := zq_iald (by decide +kernel)
theorem q36_20i : zQ 36 20 [v0, v1, .int y, v3, v4] (.int x :: st) M Q ↔ zQ 36 21 [v0, v1, .int y, .int x, v4] st M Q := zq_stI (i := .istore_n 3) (k := 3) (by decide +kernel) rfl (Nat.le_of_ble_eq_true rfl) rfl rfl
theorem q36_20r : zQ 36 20 [v0, v1, .ref r1, v3, v4] (.int x :: st) M Q ↔ zQ 36 21 [v0, v1, .ref r1, .int x, v4] st M Q := zq_stI (i := .istore_n 3) (k := 3) (by decide +kernel) rfl (Nat.le_of_ble_eq_true rfl) rfl rfl
theorem q36_20n : zQ 36 20 [v0, v1, .null, v3, v4] (.int x :: st) M Q ↔ zQ 36 21 [v0, v1, .null, .int x, v4] st M Q := zq_stI (i := .istore_n 3) (k := 3) (by decide +kernel) rfl (Nat.le_of_ble_eq_true rfl) rfl rfl
theorem q36_21 : zQ 36 21 [v0, v1, v2, .int x, v4] st M Q ↔ zQ 36 22 [v0, v1, v2, .int x, v4] (.int x :: st) M Q := zq_go (i := .iload_n 3) (by decide +kernel) rfl
theorem q36_22 : zQ 36 22 [v0, .int x, v2, v3, v4] st M Q ↔ zQ 36 23 [v0, .int x, v2, v3, v4] (.int x :: st) M Q := zq_go (i := .iload_n 1) (by decide +kernel) rfl
theorem q36_23 : zQ 36 23 L (.int y :: .int x :: st) M Q ↔ (x = y → zQ 36 26 L st M Q) ∧ (¬ x = y → zQ 36 29 L st M Q) := zq_bn (i := .if_icmp .ne 6) (off := 6) (by decide +kernel) rfl (by decide) rfl
theorem q36_26 : zQ 36 26 [v0, v1, v2, v3, .int x] st M Q ↔ zQ 36 28 [v0, v1, v2, v3, .int x] (.int x :: st) M Q := zq_go (i := .iload 4) (by decide +kernel) rfl
theorem q36_28 : zQ 36 28 L [.int x] M Q ↔ Q (zI x) M := zq_reI (by decide +kernel) (by decide +kernel)
theorem q36_29i : zQ 36 29 [v0, v1, v2, .int y, .int x] st M Q ↔ zQ 36 32 [v0, v1, v2, .int y, .int (x + 1)] st M Q := zq_inc (k := 4) (n := 1) (x := x) (v := 1) (by decide +kernel) (by decide +kernel) rfl rfl rfl rfl
theorem q36_29r : zQ 36 29 [v0, v1, v2, .ref r1, .int x] st M Q ↔ zQ 36 32 [v0, v1, v2, .ref r1, .int (x + 1)] st M Q := zq_inc (k := 4) (n := 1) (x := x) (v := 1) (by decide +kernel) (by decide +kernel) rfl rfl rfl rfl
theorem q36_29n : zQ 36 29 [v0, v1, v2, .null, .int x] st M Q ↔ zQ 36 32 [v0, v1, v2, .null, .int (x + 1)] st M Q := zq_inc (k := 4) (n := 1) (x := x) (v := 1) (by decide +kernel) (by decide +kernel) rfl rfl rfl rfl
theorem q36_32 : zQ 36 32 L st M Q ↔ zQ 36 5 L st M Q := zq_jmp (off := (-27)) (by decide +kernel) (by decide)
theorem q36_35 : zQ 36 35 L st M Q ↔ zQ 36 37 L (.int (-9) :: st) M Q := zq_bip (n := (-9)) (by decide +kernel) (by decide +kernel) rfl
theorem q36_37 : zQ 36 37 L [.int x] M Q ↔ Q (zI x) M := zq_reI (by decide +kernel) (by decide +kernel)
-- 37 SandKeepers$Town.runsAs(ILSandKeepers$Sheet;II)Z
theorem q37_0 : zQ 37 0 L st M Q ↔ zQ 37 1 L (.int 0 :: st) M Q := zq_con (n := 0) (by decide +kernel) (by decide +kernel) rfl
theorem q37_1i : zQ 37 1 [v0, v1, v2, v3, .int y, v5] (.int x :: st) M Q ↔ zQ 37 3 [v0, v1, v2, v3, .int y, .int x] st M Q := zq_stI (i := .istore 5) (k := 5) (by decide +kernel) rfl (Nat.le_of_ble_eq_true rfl) rfl rfl
theorem q37_1r : zQ 37 1 [v0, v1, v2, v3, .ref r1, v5] (.int x :: st) M Q ↔ zQ 37 3 [v0, v1, v2, v3, .ref r1, .int x] st M Q := zq_stI (i := .istore 5) (k := 5) (by decide +kernel) rfl (Nat.le_of_ble_eq_true rfl) rfl rfl
theorem q37_1n : zQ 37 1 [v0, v1, v2, v3, .null, v5] (.int x :: st) M Q ↔ zQ 37 3 [v0, v1, v2, v3, .null, .int x] st M Q := zq_stI (i := .istore 5) (k := 5) (by decide +kernel) rfl (Nat.le_of_ble_eq_true rfl) rfl rfl
theorem q37_3 : zQ 37 3 [v0, v1, v2, v3, v4, .int x] st M Q ↔ zQ 37 5 [v0, v1, v2, v3, v4, .int x] (.int x :: st) M Q := zq_go (i := .iload 5) (by decide +kernel) rfl
theorem q37_5 : zQ 37 5 [v0, v1, v2, v3, .int x, v5] st M Q ↔ zQ 37 7 [v0, v1, v2, v3, .int x, v5] (.int x :: st) M Q := zq_go (i := .iload 4) (by decide +kernel) rfl
theorem q37_7 : zQ 37 7 L (.int y :: .int x :: st) M Q ↔ (y ≤ x → zQ 37 37 L st M Q) ∧ (¬ y ≤ x → zQ 37 10 L st M Q) := zq_br (i := .if_icmp .ge 30) (off := 30) (by decide +kernel) rfl (by decide) rfl
theorem q37_10 : zQ 37 10 [v0, v1, .ref a, v3, v4, v5] st M Q ↔ zQ 37 11 [v0, v1, .ref a, v3, v4, v5] (.ref a :: st) M Q := zq_go (i := .aload_n 2) (by decide +kernel) rfl
theorem q37_11 : zQ 37 11 L (.ref a :: st) M Q ↔ (a < zNC ∧ zk a = 2) ∧ zQ 37 14 L (zfv a 0 M :: st) M Q := zq_getf (n := 45) (b := true) (by decide +kernel) (by decide +kernel)
theorem q37_14 : zQ 37 14 [v0, v1, v2, .int x, v4, v5] st M Q ↔ zQ 37 15 [v0, v1, v2, .int x, v4, v5] (.int x :: st) M Q := zq_go (i := .iload_n 3) (by decide +kernel) rfl
theorem q37_15 : zQ 37 15 [v0, v1, v2, v3, v4, .int x] st M Q ↔ zQ 37 17 [v0, v1, v2, v3, v4, .int x] (.int x :: st) M Q := zq_go (i := .iload 5) (by decide +kernel) rfl
theorem q37_17 : zQ 37 17 L (.int y :: .int x :: st) M Q ↔ zQ 37 18 L (.int (x + y) :: st) M Q := zq_go (i := .iadd) (by decide +kernel) rfl
theorem q37_18 : zQ 37 18 L (.int x :: .ref a :: st) M Q ↔ (a < zNC ∧ zk a = 7 ∧ zin x (zn a) = true) ∧ zQ 37 19 L (.int (M a x.toNatClampNeg) :: st) M Q := zq_iald (by decide +kernel)
theorem q37_19 : zQ 37 19 [.ref a, v1, v2, v3, v4, v5] st M Q ↔ zQ 37 20 [.ref a, v1, v2, v3, v4, v5] (.ref a :: st) M Q := zq_go (i := .aload_n 0) (by decide +kernel) rfl
theorem q37_20 : zQ 37 20 [v0, .int x, v2, v3, v4, v5] st M Q ↔ zQ 37 21 [v0, .int x, v2, v3, v4, v5] (.int x :: st) M Q := zq_go (i := .iload_n 1) (by decide +kernel) rfl
theorem q37_21 : zQ 37 21 [v0, v1, v2, v3, v4, .int x] st M Q ↔ zQ 37 23 [v0, v1, v2, v3, v4, .int x] (.int x :: st) M Q := zq_go (i := .iload 5) (by decide +kernel) rfl
theorem q37_23 : zQ 37 23 L (.int x2 :: .int x1 :: .ref a :: st) M Q ↔ (zcs st ≤ 8 ∧ a < zNC ∧ zk a = 4) ∧ zQ 30 0 [.ref a, .int x1, .int x2] [] M (fun r M1 => zQ 37 26 L (zpush r st) M1 Q) := zq_callV (n := 80) (j := 30) (b := false) (As := [.int x1, .int x2]) (by decide +kernel) (by decide +kernel) ⟨by decide +kernel, by decide +kernel, rfl, by decide +kernel, by decide +kernel, Nat.le_of_ble_eq_true rfl⟩ rfl
theorem q37_26 : zQ 37 26 L (.int y :: .int x :: st) M Q ↔ (x = y → zQ 37 31 L st M Q) ∧ (¬ x = y → zQ 37 29 L st M Q) := zq_br (i := .if_icmp .eq 5) (off := 5) (by decide +kernel) rfl (by decide) rfl
theorem q37_29 : zQ 37 29 L st M Q ↔ zQ 37 30 L (.int 0 :: st) M Q := zq_con (n := 0) (by decide +kernel) (by decide +kernel) rfl
theorem q37_30 : zQ 37 30 L [.int x] M Q ↔ (x = 0 ∨ x = 1) ∧ Q (zI x) M := zq_reZ (by decide +kernel) (by decide +kernel)
theorem q37_31i : zQ 37 31 [v0, v1, v2, v3, .int y, .int x] st M Q ↔ zQ 37 34 [v0, v1, v2, v3, .int y, .int (x + 1)] st M Q := zq_inc (k := 5) (n := 1) (x := x) (v := 1) (by decide +kernel) (by decide +kernel) rfl rfl rfl rfl
theorem q37_31r : zQ 37 31 [v0, v1, v2, v3, .ref r1, .int x] st M Q ↔ zQ 37 34 [v0, v1, v2, v3, .ref r1, .int (x + 1)] st M Q := zq_inc (k := 5) (n := 1) (x := x) (v := 1) (by decide +kernel) (by decide +kernel) rfl rfl rfl rfl
theorem q37_31n : zQ 37 31 [v0, v1, v2, v3, .null, .int x] st M Q ↔ zQ 37 34 [v0, v1, v2, v3, .null, .int (x + 1)] st M Q := zq_inc (k := 5) (n := 1) (x := x) (v := 1) (by decide +kernel) (by decide +kernel) rfl rfl rfl rfl
theorem q37_34 : zQ 37 34 L st M Q ↔ zQ 37 3 L st M Q := zq_jmp (off := (-31)) (by decide +kernel) (by decide)
theorem q37_37 : zQ 37 37 L st M Q ↔ zQ 37 38 L (.int 1 :: st) M Q := zq_con (n := 1) (by decide +kernel) (by decide +kernel) rfl
theorem q37_38 : zQ 37 38 L [.int x] M Q ↔ (x = 0 ∨ x = 1) ∧ Q (zI x) M := zq_reZ (by decide +kernel) (by decide +kernel)
end QI
