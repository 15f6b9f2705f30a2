section QI
variable {L st : List Value} {M : zM} {Q : zR → zM → Prop} {v0 v1 v2 v3 v4 v5 v6 v7 v8 v9 v10 v11 v12 : Value} {x y : Int32} {xl yl : Int64} {a : Nat} {x1 x2 x3 x4 x5 : Int32} {r1 r2 : Nat} {l1 l2 l3 : Int64}
-- 84 SandKeepersModel.in(JJJ)Z
theorem q84_0 : zQ 84 0 [.long xl, v1, v2, v3, v4, v5] st M Q ↔ zQ 84 1 [.long xl, v1, v2, v3, v4, v5] (.long xl :: st) M Q := zq_go (i := .lload_n 0) (by decide +kernel) rfl
theorem q84_1 : zQ 84 1 [v0, v1, .long xl, v3, v4, v5] st M Q ↔ zQ 84 2 [v0, v1, .long xl, v3, v4, v5] (.long xl :: st) M Q := zq_go (i := .lload_n 2) (by decide +kernel) rfl
theorem q84_2 : zQ 84 2 L (.long yl :: .long xl :: st) M Q ↔ zQ 84 3 L (.int (lg_cmp xl yl) :: st) M Q := zq_go (i := .lcmp) (by decide +kernel) rfl
theorem q84_3 : zQ 84 3 L (.int x :: st) M Q ↔ (x < 0 → zQ 84 17 L st M Q) ∧ (¬ x < 0 → zQ 84 6 L st M Q) := zq_br (i := .ifCond .lt 14) (off := 14) (by decide +kernel) rfl (by decide) rfl
theorem q84_6 : zQ 84 6 [.long xl, v1, v2, v3, v4, v5] st M Q ↔ zQ 84 7 [.long xl, v1, v2, v3, v4, v5] (.long xl :: st) M Q := zq_go (i := .lload_n 0) (by decide +kernel) rfl
theorem q84_7 : zQ 84 7 [v0, v1, v2, v3, .long xl, v5] st M Q ↔ zQ 84 9 [v0, v1, v2, v3, .long xl, v5] (.long xl :: st) M Q := zq_go (i := .lload 4) (by decide +kernel) rfl
theorem q84_9 : zQ 84 9 L (.long yl :: .long xl :: st) M Q ↔ zQ 84 10 L (.int (lg_cmp xl yl) :: st) M Q := zq_go (i := .lcmp) (by decide +kernel) rfl
theorem q84_10 : zQ 84 10 L (.int x :: st) M Q ↔ (0 < x → zQ 84 17 L st M Q) ∧ (¬ 0 < x → zQ 84 13 L st M Q) := zq_br (i := .ifCond .gt 7) (off := 7) (by decide +kernel) rfl (by decide) rfl
theorem q84_13 : zQ 84 13 L st M Q ↔ zQ 84 14 L (.int 1 :: st) M Q := zq_con (n := 1) (by decide +kernel) (by decide +kernel) rfl
theorem q84_14 : zQ 84 14 L st M Q ↔ zQ 84 18 L st M Q := zq_jmp (off := 4) (by decide +kernel) (by decide)
theorem q84_17 : zQ 84 17 L st M Q ↔ zQ 84 18 L (.int 0 :: st) M Q := zq_con (n := 0) (by decide +kernel) (by decide +kernel) rfl
theorem q84_18 : zQ 84 18 L [.int x] M Q ↔ (x = 0 ∨ x = 1) ∧ Q (zI x) M := zq_reZ (by decide +kernel) (by decide +kernel)
-- 85 SandKeepersModel.lost()J
theorem q85_0 : zQ 85 0 L st M Q ↔ zQ 85 3 L (.long (-9223372036854775808) :: st) M Q := zq_ld2 (n := 76) (by decide +kernel) (by decide +kernel) rfl
theorem q85_3 : zQ 85 3 L [.long xl] M Q ↔ Q (zJ xl) M := zq_reJ (by decide +kernel) (by decide +kernel)
-- 86 SandKeepersModel.isIn(II)Z
theorem q86_0 : zQ 86 0 [.int x, v1] st M Q ↔ zQ 86 1 [.int x, v1] (.int x :: st) M Q := zq_go (i := .iload_n 0) (by decide +kernel) rfl
theorem q86_1 : zQ 86 1 [v0, .int x] st M Q ↔ zQ 86 2 [v0, .int x] (.int x :: st) M Q := zq_go (i := .iload_n 1) (by decide +kernel) rfl
theorem q86_2 : zQ 86 2 L (.int y :: .int x :: st) M Q ↔ zQ 86 3 L (.int (x >>> (y &&& 31)) :: st) M Q := zq_go (i := .ishr) (by decide +kernel) rfl
theorem q86_3 : zQ 86 3 L st M Q ↔ zQ 86 4 L (.int 1 :: st) M Q := zq_con (n := 1) (by decide +kernel) (by decide +kernel) rfl
theorem q86_4 : zQ 86 4 L (.int y :: .int x :: st) M Q ↔ zQ 86 5 L (.int (x &&& y) :: st) M Q := zq_go (i := .iand) (by decide +kernel) rfl
theorem q86_5 : zQ 86 5 L st M Q ↔ zQ 86 6 L (.int 1 :: st) M Q := zq_con (n := 1) (by decide +kernel) (by decide +kernel) rfl
theorem q86_6 : zQ 86 6 L (.int y :: .int x :: st) M Q ↔ (x = y → zQ 86 9 L st M Q) ∧ (¬ x = y → zQ 86 13 L st M Q) := zq_bn (i := .if_icmp .ne 7) (off := 7) (by decide +kernel) rfl (by decide) rfl
theorem q86_9 : zQ 86 9 L st M Q ↔ zQ 86 10 L (.int 1 :: st) M Q := zq_con (n := 1) (by decide +kernel) (by decide +kernel) rfl
theorem q86_10 : zQ 86 10 L st M Q ↔ zQ 86 14 L st M Q := zq_jmp (off := 4) (by decide +kernel) (by decide)
theorem q86_13 : zQ 86 13 L st M Q ↔ zQ 86 14 L (.int 0 :: st) M Q := zq_con (n := 0) (by decide +kernel) (by decide +kernel) rfl
theorem q86_14 : zQ 86 14 L [.int x] M Q ↔ (x = 0 ∨ x = 1) ∧ Q (zI x) M := zq_reZ (by decide +kernel) (by decide +kernel)
-- 87 SandKeepersModel.bits(I)I
theorem q87_0 : zQ 87 0 L st M Q ↔ zQ 87 1 L (.int 0 :: st) M Q := zq_con (n := 0) (by decide +kernel) (by decide +kernel) rfl
theorem q87_1i : zQ 87 1 [.int y, v1, v2] (.int x :: st) M Q ↔ zQ 87 2 [.int y, .int x, v2] st M Q := zq_stI (i := .istore_n 1) (k := 1) (by decide +kernel) rfl (Nat.le_of_ble_eq_true rfl) rfl rfl
theorem q87_1r : zQ 87 1 [.ref r1, v1, v2] (.int x :: st) M Q ↔ zQ 87 2 [.ref r1, .int x, v2] st M Q := zq_stI (i := .istore_n 1) (k := 1) (by decide +kernel) rfl (Nat.le_of_ble_eq_true rfl) rfl rfl
theorem q87_1n : zQ 87 1 [.null, v1, v2] (.int x :: st) M Q ↔ zQ 87 2 [.null, .int x, v2] st M Q := zq_stI (i := .istore_n 1) (k := 1) (by decide +kernel) rfl (Nat.le_of_ble_eq_true rfl) rfl rfl
theorem q87_2 : zQ 87 2 [.int x, v1, v2] st M Q ↔ zQ 87 3 [.int x, v1, v2] (.int x :: st) M Q := zq_go (i := .iload_n 0) (by decide +kernel) rfl
theorem q87_3i : zQ 87 3 [v0, .int y, v2] (.int x :: st) M Q ↔ zQ 87 4 [v0, .int y, .int x] st M Q := zq_stI (i := .istore_n 2) (k := 2) (by decide +kernel) rfl (Nat.le_of_ble_eq_true rfl) rfl rfl
theorem q87_3r : zQ 87 3 [v0, .ref r1, v2] (.int x :: st) M Q ↔ zQ 87 4 [v0, .ref r1, .int x] st M Q := zq_stI (i := .istore_n 2) (k := 2) (by decide +kernel) rfl (Nat.le_of_ble_eq_true rfl) rfl rfl
theorem q87_3n : zQ 87 3 [v0, .null, v2] (.int x :: st) M Q ↔ zQ 87 4 [v0, .null, .int x] st M Q := zq_stI (i := .istore_n 2) (k := 2) (by decide +kernel) rfl (Nat.le_of_ble_eq_true rfl) rfl rfl
theorem q87_4 : zQ 87 4 [v0, v1, .int x] st M Q ↔ zQ 87 5 [v0, v1, .int x] (.int x :: st) M Q := zq_go (i := .iload_n 2) (by decide +kernel) rfl
theorem q87_5 : zQ 87 5 L (.int x :: st) M Q ↔ (x ≤ 0 → zQ 87 21 L st M Q) ∧ (¬ x ≤ 0 → zQ 87 8 L st M Q) := zq_br (i := .ifCond .le 16) (off := 16) (by decide +kernel) rfl (by decide) rfl
theorem q87_8 : zQ 87 8 [v0, .int x, v2] st M Q ↔ zQ 87 9 [v0, .int x, v2] (.int x :: st) M Q := zq_go (i := .iload_n 1) (by decide +kernel) rfl
theorem q87_9 : zQ 87 9 [v0, v1, .int x] st M Q ↔ zQ 87 10 [v0, v1, .int x] (.int x :: st) M Q := zq_go (i := .iload_n 2) (by decide +kernel) rfl
theorem q87_10 : zQ 87 10 L st M Q ↔ zQ 87 11 L (.int 1 :: st) M Q := zq_con (n := 1) (by decide +kernel) (by decide +kernel) rfl
theorem q87_11 : zQ 87 11 L (.int y :: .int x :: st) M Q ↔ zQ 87 12 L (.int (x &&& y) :: st) M Q := zq_go (i := .iand) (by decide +kernel) rfl
theorem q87_12 : zQ 87 12 L (.int y :: .int x :: st) M Q ↔ zQ 87 13 L (.int (x + y) :: st) M Q := zq_go (i := .iadd) (by decide +kernel) rfl
theorem q87_13i : zQ 87 13 [.int y, v1, v2] (.int x :: st) M Q ↔ zQ 87 14 [.int y, .int x, v2] st M Q := zq_stI (i := .istore_n 1) (k := 1) (by decide +kernel) rfl (Nat.le_of_ble_eq_true rfl) rfl rfl
theorem q87_13r : zQ 87 13 [.ref r1, v1, v2] (.int x :: st) M Q ↔ zQ 87 14 [.ref r1, .int x, v2] st M Q := zq_stI (i := .istore_n 1) (k := 1) (by decide +kernel) rfl (Nat.le_of_ble_eq_true rfl) rfl rfl
theorem q87_13n : zQ 87 13 [.null, v1, v2] (.int x :: st) M Q ↔ zQ 87 14 [.null, .int x, v2] st M Q := zq_stI (i := .istore_n 1) (k := 1) (by decide +kernel) rfl (Nat.le_of_ble_eq_true rfl) rfl rfl
theorem q87_14 : zQ 87 14 [v0, v1, .int x] st M Q ↔ zQ 87 15 [v0, v1, .int x] (.int x :: st) M Q := zq_go (i := .iload_n 2) (by decide +kernel) rfl
theorem q87_15 : zQ 87 15 L st M Q ↔ zQ 87 16 L (.int 1 :: st) M Q := zq_con (n := 1) (by decide +kernel) (by decide +kernel) rfl
theorem q87_16 : zQ 87 16 L (.int y :: .int x :: st) M Q ↔ zQ 87 17 L (.int (x >>> (y &&& 31)) :: st) M Q := zq_go (i := .ishr) (by decide +kernel) rfl
theorem q87_17i : zQ 87 17 [v0, .int y, v2] (.int x :: st) M Q ↔ zQ 87 18 [v0, .int y, .int x] st M Q := zq_stI (i := .istore_n 2) (k := 2) (by decide +kernel) rfl (Nat.le_of_ble_eq_true rfl) rfl rfl
theorem q87_17r : zQ 87 17 [v0, .ref r1, v2] (.int x :: st) M Q ↔ zQ 87 18 [v0, .ref r1, .int x] st M Q := zq_stI (i := .istore_n 2) (k := 2) (by decide +kernel) rfl (Nat.le_of_ble_eq_true rfl) rfl rfl
theorem q87_17n : zQ 87 17 [v0, .null, v2] (.int x :: st) M Q ↔ zQ 87 18 [v0, .null, .int x] st M Q := zq_stI (i := .istore_n 2) (k := 2) (by decide +kernel) rfl (Nat.le_of_ble_eq_true rfl) rfl rfl
theorem q87_18 : zQ 87 18 L st M Q ↔ zQ 87 4 L st M Q := zq_jmp (off := (-14)) (by decide +kernel) (by decide)
theorem q87_21 : zQ 87 21 [v0, .int x, v2] st M Q ↔ zQ 87 22 [v0, .int x, v2] (.int x :: st) M Q := zq_go (i := .iload_n 1) (by decide +kernel) rfl
theorem q87_22 : zQ 87 22 L [.int x] M Q ↔ Q (zI x) M := zq_reI (by decide +kernel) (by decide +kernel)
-- 88 SandKeepersModel.share(JJI)J
theorem q88_0 : zQ 88 0 [.long xl, v1, v2, v3, v4, v5, v6, v7, v8, v9, v10] st M Q ↔ zQ 88 1 [.long xl, v1, v2, v3, v4, v5, v6, v7, v8, v9, v10] (.long xl :: st) M Q := zq_go (i := .lload_n 0) (by decide +kernel) rfl
theorem q88_1i : zQ 88 1 [v0, v1, v2, v3, .int y, v5, v6, v7, v8, v9, v10] (.long xl :: st) M Q ↔ zQ 88 3 [v0, v1, v2, v3, .int y, .long xl, .null, v7, v8, v9, v10] st M Q := zq_stJ (i := .lstore 5) (k := 5) (by decide +kernel) rfl (Nat.le_of_ble_eq_true rfl) rfl rfl
theorem q88_1r : zQ 88 1 [v0, v1, v2, v3, .ref r1, v5, v6, v7, v8, v9, v10] (.long xl :: st) M Q ↔ zQ 88 3 [v0, v1, v2, v3, .ref r1, .long xl, .null, v7, v8, v9, v10] st M Q := zq_stJ (i := .lstore 5) (k := 5) (by decide +kernel) rfl (Nat.le_of_ble_eq_true rfl) rfl rfl
theorem q88_1n : zQ 88 1 [v0, v1, v2, v3, .null, v5, v6, v7, v8, v9, v10] (.long xl :: st) M Q ↔ zQ 88 3 [v0, v1, v2, v3, .null, .long xl, .null, v7, v8, v9, v10] st M Q := zq_stJ (i := .lstore 5) (k := 5) (by decide +kernel) rfl (Nat.le_of_ble_eq_true rfl) rfl rfl
theorem q88_3 : zQ 88 3 [v0, v1, .long xl, v3, v4, v5, v6, v7, v8, v9, v10] st M Q ↔ zQ 88 4 [v0, v1, .long xl, v3, v4, v5, v6, v7, v8, v9, v10] (.long xl :: st) M Q := zq_go (i := .lload_n 2) (by decide +kernel) rfl
theorem q88_4i : zQ 88 4 [v0, v1, v2, v3, v4, v5, .int y, v7, v8, v9, v10] (.long xl :: st) M Q ↔ zQ 88 6 [v0, v1, v2, v3, v4, v5, .int y, .long xl, .null, v9, v10] st M Q := zq_stJ (i := .lstore 7) (k := 7) (by decide +kernel) rfl (Nat.le_of_ble_eq_true rfl) rfl rfl
theorem q88_4r : zQ 88 4 [v0, v1, v2, v3, v4, v5, .ref r1, v7, v8, v9, v10] (.long xl :: st) M Q ↔ zQ 88 6 [v0, v1, v2, v3, v4, v5, .ref r1, .long xl, .null, v9, v10] st M Q := zq_stJ (i := .lstore 7) (k := 7) (by decide +kernel) rfl (Nat.le_of_ble_eq_true rfl) rfl rfl
theorem q88_4n : zQ 88 4 [v0, v1, v2, v3, v4, v5, .null, v7, v8, v9, v10] (.long xl :: st) M Q ↔ zQ 88 6 [v0, v1, v2, v3, v4, v5, .null, .long xl, .null, v9, v10] st M Q := zq_stJ (i := .lstore 7) (k := 7) (by decide +kernel) rfl (Nat.le_of_ble_eq_true rfl) rfl rfl
theorem q88_6 : zQ 88 6 [v0, v1, v2, v3, v4, v5, v6, .long xl, v8, v9, v10] st M Q ↔ zQ 88 8 [v0, v1, v2, v3, v4, v5, v6, .long xl, v8, v9, v10] (.long xl :: st) M Q := zq_go (i := .lload 7) (by decide +kernel) rfl
theorem q88_8 : zQ 88 8 L st M Q ↔ zQ 88 9 L (.long 0 :: st) M Q := zq_lco (n := 0) (by decide +kernel) (by decide +kernel) rfl
theorem q88_9 : zQ 88 9 L (.long yl :: .long xl :: st) M Q ↔ zQ 88 10 L (.int (lg_cmp xl yl) :: st) M Q := zq_go (i := .lcmp) (by decide +kernel) rfl
theorem q88_10 : zQ 88 10 L (.int x :: st) M Q ↔ (x = 0 → zQ 88 31 L st M Q) ∧ (¬ x = 0 → zQ 88 13 L st M Q) := zq_br (i := .ifCond .eq 21) (off := 21) (by decide +kernel) rfl (by decide) rfl
theorem q88_13 : zQ 88 13 [v0, v1, v2, v3, v4, .long xl, v6, v7, v8, v9, v10] st M Q ↔ zQ 88 15 [v0, v1, v2, v3, v4, .long xl, v6, v7, v8, v9, v10] (.long xl :: st) M Q := zq_go (i := .lload 5) (by decide +kernel) rfl
theorem q88_15 : zQ 88 15 [v0, v1, v2, v3, v4, v5, v6, .long xl, v8, v9, v10] st M Q ↔ zQ 88 17 [v0, v1, v2, v3, v4, v5, v6, .long xl, v8, v9, v10] (.long xl :: st) M Q := zq_go (i := .lload 7) (by decide +kernel) rfl
theorem q88_17 : zQ 88 17 L (.long yl :: .long xl :: st) M Q ↔ ¬ yl = 0 ∧ zQ 88 18 L (.long (xl - xl / yl * yl) :: st) M Q := zq_lrem (by decide +kernel)
theorem q88_18i : zQ 88 18 [v0, v1, v2, v3, v4, v5, v6, v7, .int y, v9, v10] (.long xl :: st) M Q ↔ zQ 88 20 [v0, v1, v2, v3, v4, v5, v6, v7, .int y, .long xl, .null] st M Q := zq_stJ (i := .lstore 9) (k := 9) (by decide +kernel) rfl (Nat.le_of_ble_eq_true rfl) rfl rfl
theorem q88_18r : zQ 88 18 [v0, v1, v2, v3, v4, v5, v6, v7, .ref r1, v9, v10] (.long xl :: st) M Q ↔ zQ 88 20 [v0, v1, v2, v3, v4, v5, v6, v7, .ref r1, .long xl, .null] st M Q := zq_stJ (i := .lstore 9) (k := 9) (by decide +kernel) rfl (Nat.le_of_ble_eq_true rfl) rfl rfl
theorem q88_18n : zQ 88 18 [v0, v1, v2, v3, v4, v5, v6, v7, .null, v9, v10] (.long xl :: st) M Q ↔ zQ 88 20 [v0, v1, v2, v3, v4, v5, v6, v7, .null, .long xl, .null] st M Q := zq_stJ (i := .lstore 9) (k := 9) (by decide +kernel) rfl (Nat.le_of_ble_eq_true rfl) rfl rfl
theorem q88_20 : zQ 88 20 [v0, v1, v2, v3, v4, v5, v6, .long xl, v8, v9, v10] st M Q ↔ zQ 88 22 [v0, v1, v2, v3, v4, v5, v6, .long xl, v8, v9, v10] (.long xl :: st) M Q := zq_go (i := .lload 7) (by decide +kernel) rfl
theorem q88_22i : zQ 88 22 [v0, v1, v2, v3, .int y, v5, v6, v7, v8, v9, v10] (.long xl :: st) M Q ↔ zQ 88 24 [v0, v1, v2, v3, .int y, .long xl, .null, v7, v8, v9, v10] st M Q := zq_stJ (i := .lstore 5) (k := 5) (by decide +kernel) rfl (Nat.le_of_ble_eq_true rfl) rfl rfl
theorem q88_22r : zQ 88 22 [v0, v1, v2, v3, .ref r1, v5, v6, v7, v8, v9, v10] (.long xl :: st) M Q ↔ zQ 88 24 [v0, v1, v2, v3, .ref r1, .long xl, .null, v7, v8, v9, v10] st M Q := zq_stJ (i := .lstore 5) (k := 5) (by decide +kernel) rfl (Nat.le_of_ble_eq_true rfl) rfl rfl
theorem q88_22n : zQ 88 22 [v0, v1, v2, v3, .null, v5, v6, v7, v8, v9, v10] (.long xl :: st) M Q ↔ zQ 88 24 [v0, v1, v2, v3, .null, .long xl, .null, v7, v8, v9, v10] st M Q := zq_stJ (i := .lstore 5) (k := 5) (by decide +kernel) rfl (Nat.le_of_ble_eq_true rfl) rfl rfl
theorem q88_24 : zQ 88 24 [v0, v1, v2, v3, v4, v5, v6, v7, v8, .long xl, v10] st M Q ↔ zQ 88 26 [v0, v1, v2, v3, v4, v5, v6, v7, v8, .long xl, v10] (.long xl :: st) M Q := zq_go (i := .lload 9) (by decide +kernel) rfl
theorem q88_26i : zQ 88 26 [v0, v1, v2, v3, v4, v5, .int y, v7, v8, v9, v10] (.long xl :: st) M Q ↔ zQ 88 28 [v0, v1, v2, v3, v4, v5, .int y, .long xl, .null, v9, v10] st M Q := zq_stJ (i := .lstore 7) (k := 7) (by decide +kernel) rfl (Nat.le_of_ble_eq_true rfl) rfl rfl
theorem q88_26r : zQ 88 26 [v0, v1, v2, v3, v4, v5, .ref r1, v7, v8, v9, v10] (.long xl :: st) M Q ↔ zQ 88 28 [v0, v1, v2, v3, v4, v5, .ref r1, .long xl, .null, v9, v10] st M Q := zq_stJ (i := .lstore 7) (k := 7) (by decide +kernel) rfl (Nat.le_of_ble_eq_true rfl) rfl rfl
theorem q88_26n : zQ 88 26 [v0, v1, v2, v3, v4, v5, .null, v7, v8, v9, v10] (.long xl :: st) M Q ↔ zQ 88 28 [v0, v1, v2, v3, v4, v5, .null, .long xl, .null, v9, v10] st M Q := zq_stJ (i := .lstore 7) (k := 7) (by decide +kernel) rfl (Nat.le_of_ble_eq_true rfl) rfl rfl
theorem q88_28 : zQ 88 28 L st M Q ↔ zQ 88 6 L st M Q := zq_jmp (off := (-22)) (by decide +kernel) (by decide)
theorem q88_31 : zQ 88 31 [v0, v1, v2, v3, .int x, v5, v6, v7, v8, v9, v10] st M Q ↔ zQ 88 33 [v0, v1, v2, v3, .int x, v5, v6, v7, v8, v9, v10] (.int x :: st) M Q := zq_go (i := .iload 4) (by decide +kernel) rfl
theorem q88_33 : zQ 88 33 L (.int x :: st) M Q ↔ (x = 0 → zQ 88 36 L st M Q) ∧ (¬ x = 0 → zQ 88 40 L st M Q) := zq_bn (i := .ifCond .ne 7) (off := 7) (by decide +kernel) rfl (by decide) rfl
theorem q88_36 : zQ 88 36 [.long xl, v1, v2, v3, v4, v5, v6, v7, v8, v9, v10] st M Q ↔ zQ 88 37 [.long xl, v1, v2, v3, v4, v5, v6, v7, v8, v9, v10] (.long xl :: st) M Q := zq_go (i := .lload_n 0) (by decide +kernel) rfl
theorem q88_37 : zQ 88 37 L st M Q ↔ zQ 88 41 L st M Q := zq_jmp (off := 4) (by decide +kernel) (by decide)
theorem q88_40 : zQ 88 40 [v0, v1, .long xl, v3, v4, v5, v6, v7, v8, v9, v10] st M Q ↔ zQ 88 41 [v0, v1, .long xl, v3, v4, v5, v6, v7, v8, v9, v10] (.long xl :: st) M Q := zq_go (i := .lload_n 2) (by decide +kernel) rfl
theorem q88_41 : zQ 88 41 [v0, v1, v2, v3, v4, .long xl, v6, v7, v8, v9, v10] st M Q ↔ zQ 88 43 [v0, v1, v2, v3, v4, .long xl, v6, v7, v8, v9, v10] (.long xl :: st) M Q := zq_go (i := .lload 5) (by decide +kernel) rfl
theorem q88_43 : zQ 88 43 L (.long yl :: .long xl :: st) M Q ↔ ¬ yl = 0 ∧ zQ 88 44 L (.long (xl / yl) :: st) M Q := zq_ldiv (by decide +kernel)
theorem q88_44 : zQ 88 44 L [.long xl] M Q ↔ Q (zJ xl) M := zq_reJ (by decide +kernel) (by decide +kernel)
-- 89 SandKeepersModel.refused(I)I
theorem q89_0 : zQ 89 0 [.ref a, v1] st M Q ↔ zQ 89 1 [.ref a, v1] (.ref a :: st) M Q := zq_go (i := .aload_n 0) (by decide +kernel) rfl
theorem q89_1 : zQ 89 1 L st M Q ↔ zQ 89 2 L (.int 0 :: st) M Q := zq_con (n := 0) (by decide +kernel) (by decide +kernel) rfl
theorem q89_2 : zQ 89 2 L (.int x :: .ref a :: st) M Q ↔ (a < zNC ∧ zk a = 6 ∧ zf a 0 = none) ∧ zQ 89 5 L st (zup M a 0 x) Q := zq_putf (n := 78) (b := false) (by decide +kernel) (by decide +kernel) (by decide +kernel)
theorem q89_5 : zQ 89 5 [v0, .int x] st M Q ↔ zQ 89 6 [v0, .int x] (.int x :: st) M Q := zq_go (i := .iload_n 1) (by decide +kernel) rfl
theorem q89_6 : zQ 89 6 L [.int x] M Q ↔ Q (zI x) M := zq_reI (by decide +kernel) (by decide +kernel)
-- 90 SandKeepersModel.failed(I)I
theorem q90_0 : zQ 90 0 [.ref a, v1] st M Q ↔ zQ 90 1 [.ref a, v1] (.ref a :: st) M Q := zq_go (i := .aload_n 0) (by decide +kernel) rfl
theorem q90_1 : zQ 90 1 [v0, .int x] st M Q ↔ zQ 90 2 [v0, .int x] (.int x :: st) M Q := zq_go (i := .iload_n 1) (by decide +kernel) rfl
theorem q90_2 : zQ 90 2 L (.int x :: .ref a :: st) M Q ↔ (a < zNC ∧ zk a = 6 ∧ zf a 0 = none) ∧ zQ 90 5 L st (zup M a 0 x) Q := zq_putf (n := 78) (b := false) (by decide +kernel) (by decide +kernel) (by decide +kernel)
theorem q90_5 : zQ 90 5 L st M Q ↔ zQ 90 7 L (.int (-10) :: st) M Q := zq_bip (n := (-10)) (by decide +kernel) (by decide +kernel) rfl
theorem q90_7 : zQ 90 7 [v0, .int x] st M Q ↔ zQ 90 8 [v0, .int x] (.int x :: st) M Q := zq_go (i := .iload_n 1) (by decide +kernel) rfl
theorem q90_8 : zQ 90 8 L (.int y :: .int x :: st) M Q ↔ zQ 90 9 L (.int (x - y) :: st) M Q := zq_go (i := .isub) (by decide +kernel) rfl
theorem q90_9 : zQ 90 9 L [.int x] M Q ↔ Q (zI x) M := zq_reI (by decide +kernel) (by decide +kernel)
-- 91 SandKeepersModel.failedLong(I)J
theorem q91_0 : zQ 91 0 [.ref a, v1] st M Q ↔ zQ 91 1 [.ref a, v1] (.ref a :: st) M Q := zq_go (i := .aload_n 0) (by decide +kernel) rfl
theorem q91_1 : zQ 91 1 [v0, .int x] st M Q ↔ zQ 91 2 [v0, .int x] (.int x :: st) M Q := zq_go (i := .iload_n 1) (by decide +kernel) rfl
theorem q91_2 : zQ 91 2 L (.int x :: .ref a :: st) M Q ↔ (a < zNC ∧ zk a = 6 ∧ zf a 0 = none) ∧ zQ 91 5 L st (zup M a 0 x) Q := zq_putf (n := 78) (b := false) (by decide +kernel) (by decide +kernel) (by decide +kernel)
theorem q91_5 : zQ 91 5 L (st) M Q ↔ zcs st ≤ 8 ∧ zQ 85 0 [] [] M (fun r M1 => zQ 91 8 L (zpush r st) M1 Q) := zq_callS (n := 82) (j := 85) (b := false) (As := []) (by decide +kernel) (by decide +kernel) ⟨by decide +kernel, by decide +kernel, rfl, by decide +kernel, by decide +kernel, Nat.le_of_ble_eq_true rfl⟩ rfl
theorem q91_8 : zQ 91 8 L [.long xl] M Q ↔ Q (zJ xl) M := zq_reJ (by decide +kernel) (by decide +kernel)
-- 92 SandKeepersModel.noHouse(I)Z
theorem q92_0 : zQ 92 0 [v0, .int x] st M Q ↔ zQ 92 1 [v0, .int x] (.int x :: st) M Q := zq_go (i := .iload_n 1) (by decide +kernel) rfl
theorem q92_1 : zQ 92 1 L (.int x :: st) M Q ↔ zQ 92 2 L (.long x.toInt64 :: st) M Q := zq_go (i := .i2l) (by decide +kernel) rfl
theorem q92_2 : zQ 92 2 L st M Q ↔ zQ 92 3 L (.long 0 :: st) M Q := zq_lco (n := 0) (by decide +kernel) (by decide +kernel) rfl
theorem q92_3 : zQ 92 3 [.ref a, v1] st M Q ↔ zQ 92 4 [.ref a, v1] (.ref a :: st) M Q := zq_go (i := .aload_n 0) (by decide +kernel) rfl
theorem q92_4 : zQ 92 4 L (.ref a :: st) M Q ↔ (a < zNC ∧ zk a = 6) ∧ zQ 92 7 L (zfv a 1 M :: st) M Q := zq_getf (n := 86) (b := false) (by decide +kernel) (by decide +kernel)
theorem q92_7 : zQ 92 7 L (.int x :: st) M Q ↔ zQ 92 8 L (.long x.toInt64 :: st) M Q := zq_go (i := .i2l) (by decide +kernel) rfl
theorem q92_8 : zQ 92 8 L st M Q ↔ zQ 92 9 L (.long 1 :: st) M Q := zq_lco (n := 1) (by decide +kernel) (by decide +kernel) rfl
theorem q92_9 : zQ 92 9 L (.long yl :: .long xl :: st) M Q ↔ zQ 92 10 L (.long (xl - yl) :: st) M Q := zq_go (i := .lsub) (by decide +kernel) rfl
theorem q92_10 : zQ 92 10 L (.long l3 :: .long l2 :: .long l1 :: st) M Q ↔ zcs st ≤ 8 ∧ zQ 84 0 [.long l1, .null, .long l2, .null, .long l3, .null] [] M (fun r M1 => zQ 92 13 L (zpush r st) M1 Q) := zq_callS (n := 89) (j := 84) (b := false) (As := [.long l1, .long l2, .long l3]) (by decide +kernel) (by decide +kernel) ⟨by decide +kernel, by decide +kernel, rfl, by decide +kernel, by decide +kernel, Nat.le_of_ble_eq_true rfl⟩ rfl
theorem q92_13 : zQ 92 13 L (.int x :: st) M Q ↔ (x = 0 → zQ 92 16 L st M Q) ∧ (¬ x = 0 → zQ 92 20 L st M Q) := zq_bn (i := .ifCond .ne 7) (off := 7) (by decide +kernel) rfl (by decide) rfl
theorem q92_16 : zQ 92 16 L st M Q ↔ zQ 92 17 L (.int 1 :: st) M Q := zq_con (n := 1) (by decide +kernel) (by decide +kernel) rfl
theorem q92_17 : zQ 92 17 L st M Q ↔ zQ 92 21 L st M Q := zq_jmp (off := 4) (by decide +kernel) (by decide)
theorem q92_20 : zQ 92 20 L st M Q ↔ zQ 92 21 L (.int 0 :: st) M Q := zq_con (n := 0) (by decide +kernel) (by decide +kernel) rfl
theorem q92_21 : zQ 92 21 L [.int x] M Q ↔ (x = 0 ∨ x = 1) ∧ Q (zI x) M := zq_reZ (by decide +kernel) (by decide +kernel)
-- 93 SandKeepersModel.codeAt(II)I
theorem q93_0 : zQ 93 0 [.ref a, v1, v2] st M Q ↔ zQ 93 1 [.ref a, v1, v2] (.ref a :: st) M Q := zq_go (i := .aload_n 0) (by decide +kernel) rfl
theorem q93_1 : zQ 93 1 L (.ref a :: st) M Q ↔ (a < zNC ∧ zk a = 6) ∧ zQ 93 4 L (zfv a 10 M :: st) M Q := zq_getf (n := 93) (b := false) (by decide +kernel) (by decide +kernel)
theorem q93_4 : zQ 93 4 [v0, v1, .int x] st M Q ↔ zQ 93 5 [v0, v1, .int x] (.int x :: st) M Q := zq_go (i := .iload_n 2) (by decide +kernel) rfl
theorem q93_5 : zQ 93 5 L (.int y :: .int x :: st) M Q ↔ (y ≤ x → zQ 93 22 L st M Q) ∧ (¬ y ≤ x → zQ 93 8 L st M Q) := zq_br (i := .if_icmp .ge 17) (off := 17) (by decide +kernel) rfl (by decide) rfl
theorem q93_8 : zQ 93 8 [.ref a, v1, v2] st M Q ↔ zQ 93 9 [.ref a, v1, v2] (.ref a :: st) M Q := zq_go (i := .aload_n 0) (by decide +kernel) rfl
theorem q93_9 : zQ 93 9 L (.ref a :: st) M Q ↔ (a < zNC ∧ zk a = 6) ∧ zQ 93 12 L (zfv a 29 M :: st) M Q := zq_getf (n := 70) (b := false) (by decide +kernel) (by decide +kernel)
theorem q93_12 : zQ 93 12 [v0, .int x, v2] st M Q ↔ zQ 93 13 [v0, .int x, v2] (.int x :: st) M Q := zq_go (i := .iload_n 1) (by decide +kernel) rfl
theorem q93_13 : zQ 93 13 [.ref a, v1, v2] st M Q ↔ zQ 93 14 [.ref a, v1, v2] (.ref a :: st) M Q := zq_go (i := .aload_n 0) (by decide +kernel) rfl
theorem q93_14 : zQ 93 14 L (.ref a :: st) M Q ↔ (a < zNC ∧ zk a = 6) ∧ zQ 93 17 L (zfv a 10 M :: st) M Q := zq_getf (n := 93) (b := false) (by decide +kernel) (by decide +kernel)
theorem q93_17 : zQ 93 17 L (.int y :: .int x :: st) M Q ↔ zQ 93 18 L (.int (x + y) :: st) M Q := zq_go (i := .iadd) (by decide +kernel) rfl
theorem q93_18 : zQ 93 18 L (.int x :: .ref a :: st) M Q ↔ (a < zNC ∧ zk a = 7 ∧ zin x (zn a) = true) ∧ zQ 93 19 L (.int (M a x.toNatClampNeg) :: st) M Q := zq_iald (by decide +kernel)
theorem q93_19 : zQ 93 19 L st M Q ↔ zQ 93 24 L st M Q := zq_jmp (off := 5) (by decide +kernel) (by decide)
theorem q93_22 : zQ 93 22 L st M Q ↔ zQ 93 24 L (.int (-9) :: st) M Q := zq_bip (n := (-9)) (by decide +kernel) (by decide +kernel) rfl
theorem q93_24 : zQ 93 24 L [.int x] M Q ↔ Q (zI x) M := zq_reI (by decide +kernel) (by decide +kernel)
-- 94 SandKeepersModel.figure(IIIII)I
theorem q94_0 : zQ 94 0 [v0, v1, v2, .int x, v4, v5, v6, v7] st M Q ↔ zQ 94 1 [v0, v1, v2, .int x, v4, v5, v6, v7] (.int x :: st) M Q := zq_go (i := .iload_n 3) (by decide +kernel) rfl
theorem q94_1 : zQ 94 1 L (.int x :: st) M Q ↔ (0 ≤ x → zQ 94 9 L st M Q) ∧ (¬ 0 ≤ x → zQ 94 4 L st M Q) := zq_br (i := .ifCond .ge 8) (off := 8) (by decide +kernel) rfl (by decide) rfl
theorem q94_4 : zQ 94 4 L st M Q ↔ zQ 94 6 L (.int (-9) :: st) M Q := zq_bip (n := (-9)) (by decide +kernel) (by decide +kernel) rfl
theorem q94_6 : zQ 94 6 L st M Q ↔ zQ 94 18 L st M Q := zq_jmp (off := 12) (by decide +kernel) (by decide)
theorem q94_9 : zQ 94 9 [.ref a, v1, v2, v3, v4, v5, v6, v7] st M Q ↔ zQ 94 10 [.ref a, v1, v2, v3, v4, v5, v6, v7] (.ref a :: st) M Q := zq_go (i := .aload_n 0) (by decide +kernel) rfl
theorem q94_10 : zQ 94 10 [v0, .int x, v2, v3, v4, v5, v6, v7] st M Q ↔ zQ 94 11 [v0, .int x, v2, v3, v4, v5, v6, v7] (.int x :: st) M Q := zq_go (i := .iload_n 1) (by decide +kernel) rfl
theorem q94_11 : zQ 94 11 [v0, v1, .int x, v3, v4, v5, v6, v7] st M Q ↔ zQ 94 12 [v0, v1, .int x, v3, v4, v5, v6, v7] (.int x :: st) M Q := zq_go (i := .iload_n 2) (by decide +kernel) rfl
theorem q94_12 : zQ 94 12 L (.int x2 :: .int x1 :: .ref a :: st) M Q ↔ (zcs st ≤ 8 ∧ a < zNC ∧ zk a = 6) ∧ zQ 93 0 [.ref a, .int x1, .int x2] [] M (fun r M1 => zQ 94 15 L (zpush r st) M1 Q) := zq_callV (n := 96) (j := 93) (b := false) (As := [.int x1, .int x2]) (by decide +kernel) (by decide +kernel) ⟨by decide +kernel, by decide +kernel, rfl, by decide +kernel, by decide +kernel, Nat.le_of_ble_eq_true rfl⟩ rfl
theorem q94_15 : zQ 94 15 L st M Q ↔ zQ 94 17 L (.int 48 :: st) M Q := zq_bip (n := 48) (by decide +kernel) (by decide +kernel) rfl
theorem q94_17 : zQ 94 17 L (.int y :: .int x :: st) M Q ↔ zQ 94 18 L (.int (x - y) :: st) M Q := zq_go (i := .isub) (by decide +kernel) rfl
theorem q94_18i : zQ 94 18 [v0, v1, v2, v3, v4, .int y, v6, v7] (.int x :: st) M Q ↔ zQ 94 20 [v0, v1, v2, v3, v4, .int y, .int x, v7] st M Q := zq_stI (i := .istore 6) (k := 6) (by decide +kernel) rfl (Nat.le_of_ble_eq_true rfl) rfl rfl
theorem q94_18r : zQ 94 18 [v0, v1, v2, v3, v4, .ref r1, v6, v7] (.int x :: st) M Q ↔ zQ 94 20 [v0, v1, v2, v3, v4, .ref r1, .int x, v7] st M Q := zq_stI (i := .istore 6) (k := 6) (by decide +kernel) rfl (Nat.le_of_ble_eq_true rfl) rfl rfl
theorem q94_18n : zQ 94 18 [v0, v1, v2, v3, v4, .null, v6, v7] (.int x :: st) M Q ↔ zQ 94 20 [v0, v1, v2, v3, v4, .null, .int x, v7] st M Q := zq_stI (i := .istore 6) (k := 6) (by decide +kernel) rfl (Nat.le_of_ble_eq_true rfl) rfl rfl
theorem q94_20 : zQ 94 20 [v0, v1, v2, v3, v4, v5, .int x, v7] st M Q ↔ zQ 94 22 [v0, v1, v2, v3, v4, v5, .int x, v7] (.int x :: st) M Q := zq_go (i := .iload 6) (by decide +kernel) rfl
theorem q94_22 : zQ 94 22 L (.int x :: st) M Q ↔ zQ 94 23 L (.long x.toInt64 :: st) M Q := zq_go (i := .i2l) (by decide +kernel) rfl
theorem q94_23 : zQ 94 23 [v0, v1, v2, v3, .int x, v5, v6, v7] st M Q ↔ zQ 94 25 [v0, v1, v2, v3, .int x, v5, v6, v7] (.int x :: st) M Q := zq_go (i := .iload 4) (by decide +kernel) rfl
theorem q94_25 : zQ 94 25 L (.int x :: st) M Q ↔ zQ 94 26 L (.long x.toInt64 :: st) M Q := zq_go (i := .i2l) (by decide +kernel) rfl
theorem q94_26 : zQ 94 26 [v0, v1, v2, v3, v4, .int x, v6, v7] st M Q ↔ zQ 94 28 [v0, v1, v2, v3, v4, .int x, v6, v7] (.int x :: st) M Q := zq_go (i := .iload 5) (by decide +kernel) rfl
theorem q94_28 : zQ 94 28 L (.int x :: st) M Q ↔ zQ 94 29 L (.long x.toInt64 :: st) M Q := zq_go (i := .i2l) (by decide +kernel) rfl
theorem q94_29 : zQ 94 29 L (.long l3 :: .long l2 :: .long l1 :: st) M Q ↔ zcs st ≤ 8 ∧ zQ 84 0 [.long l1, .null, .long l2, .null, .long l3, .null] [] M (fun r M1 => zQ 94 32 L (zpush r st) M1 Q) := zq_callS (n := 89) (j := 84) (b := false) (As := [.long l1, .long l2, .long l3]) (by decide +kernel) (by decide +kernel) ⟨by decide +kernel, by decide +kernel, rfl, by decide +kernel, by decide +kernel, Nat.le_of_ble_eq_true rfl⟩ rfl
theorem q94_32i : zQ 94 32 [v0, v1, v2, v3, v4, v5, .int y, v7] (.int x :: st) M Q ↔ zQ 94 34 [v0, v1, v2, v3, v4, v5, .int y, .int x] st M Q := zq_stI (i := .istore 7) (k := 7) (by decide +kernel) rfl (Nat.le_of_ble_eq_true rfl) rfl rfl
theorem q94_32r : zQ 94 32 [v0, v1, v2, v3, v4, v5, .ref r1, v7] (.int x :: st) M Q ↔ zQ 94 34 [v0, v1, v2, v3, v4, v5, .ref r1, .int x] st M Q := zq_stI (i := .istore 7) (k := 7) (by decide +kernel) rfl (Nat.le_of_ble_eq_true rfl) rfl rfl
theorem q94_32n : zQ 94 32 [v0, v1, v2, v3, v4, v5, .null, v7] (.int x :: st) M Q ↔ zQ 94 34 [v0, v1, v2, v3, v4, v5, .null, .int x] st M Q := zq_stI (i := .istore 7) (k := 7) (by decide +kernel) rfl (Nat.le_of_ble_eq_true rfl) rfl rfl
theorem q94_34 : zQ 94 34 [.ref a, v1, v2, v3, v4, v5, v6, v7] st M Q ↔ zQ 94 35 [.ref a, v1, v2, v3, v4, v5, v6, v7] (.ref a :: st) M Q := zq_go (i := .aload_n 0) (by decide +kernel) rfl
theorem q94_35 : zQ 94 35 L (.ref a :: st) M Q ↔ zQ 94 36 L (.ref a :: .ref a :: st) M Q := zq_go (i := .dup) (by decide +kernel) rfl
theorem q94_36 : zQ 94 36 L (.ref a :: st) M Q ↔ (a < zNC ∧ zk a = 6) ∧ zQ 94 39 L (zfv a 10 M :: st) M Q := zq_getf (n := 93) (b := false) (by decide +kernel) (by decide +kernel)
theorem q94_39 : zQ 94 39 [v0, v1, v2, v3, v4, v5, v6, .int x] st M Q ↔ zQ 94 41 [v0, v1, v2, v3, v4, v5, v6, .int x] (.int x :: st) M Q := zq_go (i := .iload 7) (by decide +kernel) rfl
theorem q94_41 : zQ 94 41 L (.int x :: st) M Q ↔ (x = 0 → zQ 94 48 L st M Q) ∧ (¬ x = 0 → zQ 94 44 L st M Q) := zq_br (i := .ifCond .eq 7) (off := 7) (by decide +kernel) rfl (by decide) rfl
theorem q94_44 : zQ 94 44 L st M Q ↔ zQ 94 45 L (.int 1 :: st) M Q := zq_con (n := 1) (by decide +kernel) (by decide +kernel) rfl
theorem q94_45 : zQ 94 45 L st M Q ↔ zQ 94 49 L st M Q := zq_jmp (off := 4) (by decide +kernel) (by decide)
theorem q94_48 : zQ 94 48 L st M Q ↔ zQ 94 49 L (.int 0 :: st) M Q := zq_con (n := 0) (by decide +kernel) (by decide +kernel) rfl
theorem q94_49 : zQ 94 49 L (.int y :: .int x :: st) M Q ↔ zQ 94 50 L (.int (x + y) :: st) M Q := zq_go (i := .iadd) (by decide +kernel) rfl
theorem q94_50 : zQ 94 50 L (.int x :: .ref a :: st) M Q ↔ (a < zNC ∧ zk a = 6 ∧ zf a 10 = none) ∧ zQ 94 53 L st (zup M a 10 x) Q := zq_putf (n := 93) (b := false) (by decide +kernel) (by decide +kernel) (by decide +kernel)
theorem q94_53 : zQ 94 53 [v0, v1, v2, v3, v4, v5, v6, .int x] st M Q ↔ zQ 94 55 [v0, v1, v2, v3, v4, v5, v6, .int x] (.int x :: st) M Q := zq_go (i := .iload 7) (by decide +kernel) rfl
theorem q94_55 : zQ 94 55 L (.int x :: st) M Q ↔ (x = 0 → zQ 94 63 L st M Q) ∧ (¬ x = 0 → zQ 94 58 L st M Q) := zq_br (i := .ifCond .eq 8) (off := 8) (by decide +kernel) rfl (by decide) rfl
theorem q94_58 : zQ 94 58 [v0, v1, v2, v3, v4, v5, .int x, v7] st M Q ↔ zQ 94 60 [v0, v1, v2, v3, v4, v5, .int x, v7] (.int x :: st) M Q := zq_go (i := .iload 6) (by decide +kernel) rfl
theorem q94_60 : zQ 94 60 L st M Q ↔ zQ 94 65 L st M Q := zq_jmp (off := 5) (by decide +kernel) (by decide)
theorem q94_63 : zQ 94 63 L st M Q ↔ zQ 94 65 L (.int (-9) :: st) M Q := zq_bip (n := (-9)) (by decide +kernel) (by decide +kernel) rfl
theorem q94_65 : zQ 94 65 L [.int x] M Q ↔ Q (zI x) M := zq_reI (by decide +kernel) (by decide +kernel)
-- 95 SandKeepersModel.readsHouse(III)Z
theorem q95_0 : zQ 95 0 [.ref a, v1, v2, v3, v4, v5, v6, v7, v8, v9] st M Q ↔ zQ 95 1 [.ref a, v1, v2, v3, v4, v5, v6, v7, v8, v9] (.ref a :: st) M Q := zq_go (i := .aload_n 0) (by decide +kernel) rfl
theorem q95_1 : zQ 95 1 [v0, .int x, v2, v3, v4, v5, v6, v7, v8, v9] st M Q ↔ zQ 95 2 [v0, .int x, v2, v3, v4, v5, v6, v7, v8, v9] (.int x :: st) M Q := zq_go (i := .iload_n 1) (by decide +kernel) rfl
theorem q95_2 : zQ 95 2 [v0, v1, .int x, v3, v4, v5, v6, v7, v8, v9] st M Q ↔ zQ 95 3 [v0, v1, .int x, v3, v4, v5, v6, v7, v8, v9] (.int x :: st) M Q := zq_go (i := .iload_n 2) (by decide +kernel) rfl
theorem q95_3 : zQ 95 3 L (.int x2 :: .int x1 :: .ref a :: st) M Q ↔ (zcs st ≤ 8 ∧ a < zNC ∧ zk a = 6) ∧ zQ 93 0 [.ref a, .int x1, .int x2] [] M (fun r M1 => zQ 95 6 L (zpush r st) M1 Q) := zq_callV (n := 96) (j := 93) (b := false) (As := [.int x1, .int x2]) (by decide +kernel) (by decide +kernel) ⟨by decide +kernel, by decide +kernel, rfl, by decide +kernel, by decide +kernel, Nat.le_of_ble_eq_true rfl⟩ rfl
theorem q95_6 : zQ 95 6 L st M Q ↔ zQ 95 8 L (.int 59 :: st) M Q := zq_bip (n := 59) (by decide +kernel) (by decide +kernel) rfl
theorem q95_8 : zQ 95 8 L (.int y :: .int x :: st) M Q ↔ (x = y → zQ 95 13 L st M Q) ∧ (¬ x = y → zQ 95 11 L st M Q) := zq_br (i := .if_icmp .eq 5) (off := 5) (by decide +kernel) rfl (by decide) rfl
theorem q95_11 : zQ 95 11 L st M Q ↔ zQ 95 12 L (.int 0 :: st) M Q := zq_con (n := 0) (by decide +kernel) (by decide +kernel) rfl
theorem q95_12 : zQ 95 12 L [.int x] M Q ↔ (x = 0 ∨ x = 1) ∧ Q (zI x) M := zq_reZ (by decide +kernel) (by decide +kernel)
theorem q95_13 : zQ 95 13 [.ref a, v1, v2, v3, v4, v5, v6, v7, v8, v9] st M Q ↔ zQ 95 14 [.ref a, v1, v2, v3, v4, v5, v6, v7, v8, v9] (.ref a :: st) M Q := zq_go (i := .aload_n 0) (by decide +kernel) rfl
theorem q95_14 : zQ 95 14 L (.ref a :: st) M Q ↔ zQ 95 15 L (.ref a :: .ref a :: st) M Q := zq_go (i := .dup) (by decide +kernel) rfl
theorem q95_15 : zQ 95 15 L (.ref a :: st) M Q ↔ (a < zNC ∧ zk a = 6) ∧ zQ 95 18 L (zfv a 10 M :: st) M Q := zq_getf (n := 93) (b := false) (by decide +kernel) (by decide +kernel)
theorem q95_18 : zQ 95 18 L st M Q ↔ zQ 95 19 L (.int 1 :: st) M Q := zq_con (n := 1) (by decide +kernel) (by decide +kernel) rfl
theorem q95_19 : zQ 95 19 L (.int y :: .int x :: st) M Q ↔ zQ 95 20 L (.int (x + y) :: st) M Q := zq_go (i := .iadd) (by decide +kernel) rfl
theorem q95_20 : zQ 95 20 L (.int x :: .ref a :: st) M Q ↔ (a < zNC ∧ zk a = 6 ∧ zf a 10 = none) ∧ zQ 95 23 L st (zup M a 10 x) Q := zq_putf (n := 93) (b := false) (by decide +kernel) (by decide +kernel) (by decide +kernel)
theorem q95_23 : zQ 95 23 [.ref a, v1, v2, v3, v4, v5, v6, v7, v8, v9] st M Q ↔ zQ 95 24 [.ref a, v1, v2, v3, v4, v5, v6, v7, v8, v9] (.ref a :: st) M Q := zq_go (i := .aload_n 0) (by decide +kernel) rfl
theorem q95_24 : zQ 95 24 [v0, .int x, v2, v3, v4, v5, v6, v7, v8, v9] st M Q ↔ zQ 95 25 [v0, .int x, v2, v3, v4, v5, v6, v7, v8, v9] (.int x :: st) M Q := zq_go (i := .iload_n 1) (by decide +kernel) rfl
theorem q95_25 : zQ 95 25 [v0, v1, .int x, v3, v4, v5, v6, v7, v8, v9] st M Q ↔ zQ 95 26 [v0, v1, .int x, v3, v4, v5, v6, v7, v8, v9] (.int x :: st) M Q := zq_go (i := .iload_n 2) (by decide +kernel) rfl
theorem q95_26 : zQ 95 26 L (.int x2 :: .int x1 :: .ref a :: st) M Q ↔ (zcs st ≤ 8 ∧ a < zNC ∧ zk a = 6) ∧ zQ 93 0 [.ref a, .int x1, .int x2] [] M (fun r M1 => zQ 95 29 L (zpush r st) M1 Q) := zq_callV (n := 96) (j := 93) (b := false) (As := [.int x1, .int x2]) (by decide +kernel) (by decide +kernel) ⟨by decide +kernel, by decide +kernel, rfl, by decide +kernel, by decide +kernel, Nat.le_of_ble_eq_true rfl⟩ rfl
theorem q95_29i : zQ 95 29 [v0, v1, v2, .int y, v4, v5, v6, v7, v8, v9] (.int x :: st) M Q ↔ zQ 95 31 [v0, v1, v2, .int y, .int x, v5, v6, v7, v8, v9] st M Q := zq_stI (i := .istore 4) (k := 4) (by decide +kernel) rfl (Nat.le_of_ble_eq_true rfl) rfl rfl
theorem q95_29r : zQ 95 29 [v0, v1, v2, .ref r1, v4, v5, v6, v7, v8, v9] (.int x :: st) M Q ↔ zQ 95 31 [v0, v1, v2, .ref r1, .int x, v5, v6, v7, v8, v9] st M Q := zq_stI (i := .istore 4) (k := 4) (by decide +kernel) rfl (Nat.le_of_ble_eq_true rfl) rfl rfl
theorem q95_29n : zQ 95 29 [v0, v1, v2, .null, v4, v5, v6, v7, v8, v9] (.int x :: st) M Q ↔ zQ 95 31 [v0, v1, v2, .null, .int x, v5, v6, v7, v8, v9] st M Q := zq_stI (i := .istore 4) (k := 4) (by decide +kernel) rfl (Nat.le_of_ble_eq_true rfl) rfl rfl
theorem q95_31 : zQ 95 31 [v0, v1, v2, v3, .int x, v5, v6, v7, v8, v9] st M Q ↔ zQ 95 33 [v0, v1, v2, v3, .int x, v5, v6, v7, v8, v9] (.int x :: st) M Q := zq_go (i := .iload 4) (by decide +kernel) rfl
theorem q95_33 : zQ 95 33 L st M Q ↔ zQ 95 35 L (.int 112 :: st) M Q := zq_bip (n := 112) (by decide +kernel) (by decide +kernel) rfl
theorem q95_35 : zQ 95 35 L (.int y :: .int x :: st) M Q ↔ (x = y → zQ 95 54 L st M Q) ∧ (¬ x = y → zQ 95 38 L st M Q) := zq_br (i := .if_icmp .eq 19) (off := 19) (by decide +kernel) rfl (by decide) rfl
theorem q95_38 : zQ 95 38 [v0, v1, v2, v3, .int x, v5, v6, v7, v8, v9] st M Q ↔ zQ 95 40 [v0, v1, v2, v3, .int x, v5, v6, v7, v8, v9] (.int x :: st) M Q := zq_go (i := .iload 4) (by decide +kernel) rfl
theorem q95_40 : zQ 95 40 L st M Q ↔ zQ 95 42 L (.int 119 :: st) M Q := zq_bip (n := 119) (by decide +kernel) (by decide +kernel) rfl
theorem q95_42 : zQ 95 42 L (.int y :: .int x :: st) M Q ↔ (x = y → zQ 95 54 L st M Q) ∧ (¬ x = y → zQ 95 45 L st M Q) := zq_br (i := .if_icmp .eq 12) (off := 12) (by decide +kernel) rfl (by decide) rfl
theorem q95_45 : zQ 95 45 [v0, v1, v2, v3, .int x, v5, v6, v7, v8, v9] st M Q ↔ zQ 95 47 [v0, v1, v2, v3, .int x, v5, v6, v7, v8, v9] (.int x :: st) M Q := zq_go (i := .iload 4) (by decide +kernel) rfl
theorem q95_47 : zQ 95 47 L st M Q ↔ zQ 95 49 L (.int 99 :: st) M Q := zq_bip (n := 99) (by decide +kernel) (by decide +kernel) rfl
theorem q95_49 : zQ 95 49 L (.int y :: .int x :: st) M Q ↔ (x = y → zQ 95 54 L st M Q) ∧ (¬ x = y → zQ 95 52 L st M Q) := zq_br (i := .if_icmp .eq 5) (off := 5) (by decide +kernel) rfl (by decide) rfl
theorem q95_52 : zQ 95 52 L st M Q ↔ zQ 95 53 L (.int 0 :: st) M Q := zq_con (n := 0) (by decide +kernel) (by decide +kernel) rfl
theorem q95_53 : zQ 95 53 L [.int x] M Q ↔ (x = 0 ∨ x = 1) ∧ Q (zI x) M := zq_reZ (by decide +kernel) (by decide +kernel)
theorem q95_54 : zQ 95 54 [.ref a, v1, v2, v3, v4, v5, v6, v7, v8, v9] st M Q ↔ zQ 95 55 [.ref a, v1, v2, v3, v4, v5, v6, v7, v8, v9] (.ref a :: st) M Q := zq_go (i := .aload_n 0) (by decide +kernel) rfl
theorem q95_55 : zQ 95 55 L (.ref a :: st) M Q ↔ zQ 95 56 L (.ref a :: .ref a :: st) M Q := zq_go (i := .dup) (by decide +kernel) rfl
theorem q95_56 : zQ 95 56 L (.ref a :: st) M Q ↔ (a < zNC ∧ zk a = 6) ∧ zQ 95 59 L (zfv a 10 M :: st) M Q := zq_getf (n := 93) (b := false) (by decide +kernel) (by decide +kernel)
theorem q95_59 : zQ 95 59 L st M Q ↔ zQ 95 60 L (.int 1 :: st) M Q := zq_con (n := 1) (by decide +kernel) (by decide +kernel) rfl
theorem q95_60 : zQ 95 60 L (.int y :: .int x :: st) M Q ↔ zQ 95 61 L (.int (x + y) :: st) M Q := zq_go (i := .iadd) (by decide +kernel) rfl
theorem q95_61 : zQ 95 61 L (.int x :: .ref a :: st) M Q ↔ (a < zNC ∧ zk a = 6 ∧ zf a 10 = none) ∧ zQ 95 64 L st (zup M a 10 x) Q := zq_putf (n := 93) (b := false) (by decide +kernel) (by decide +kernel) (by decide +kernel)
theorem q95_64 : zQ 95 64 [.ref a, v1, v2, v3, v4, v5, v6, v7, v8, v9] st M Q ↔ zQ 95 65 [.ref a, v1, v2, v3, v4, v5, v6, v7, v8, v9] (.ref a :: st) M Q := zq_go (i := .aload_n 0) (by decide +kernel) rfl
theorem q95_65 : zQ 95 65 [v0, .int x, v2, v3, v4, v5, v6, v7, v8, v9] st M Q ↔ zQ 95 66 [v0, .int x, v2, v3, v4, v5, v6, v7, v8, v9] (.int x :: st) M Q := zq_go (i := .iload_n 1) (by decide +kernel) rfl
theorem q95_66 : zQ 95 66 [v0, v1, .int x, v3, v4, v5, v6, v7, v8, v9] st M Q ↔ zQ 95 67 [v0, v1, .int x, v3, v4, v5, v6, v7, v8, v9] (.int x :: st) M Q := zq_go (i := .iload_n 2) (by decide +kernel) rfl
theorem q95_67 : zQ 95 67 L st M Q ↔ zQ 95 68 L (.int 0 :: st) M Q := zq_con (n := 0) (by decide +kernel) (by decide +kernel) rfl
theorem q95_68 : zQ 95 68 L st M Q ↔ zQ 95 69 L (.int 0 :: st) M Q := zq_con (n := 0) (by decide +kernel) (by decide +kernel) rfl
theorem q95_69 : zQ 95 69 L st M Q ↔ zQ 95 71 L (.int 9 :: st) M Q := zq_bip (n := 9) (by decide +kernel) (by decide +kernel) rfl
theorem q95_71 : zQ 95 71 L (.int x5 :: .int x4 :: .int x3 :: .int x2 :: .int x1 :: .ref a :: st) M Q ↔ (zcs st ≤ 8 ∧ a < zNC ∧ zk a = 6) ∧ zQ 94 0 [.ref a, .int x1, .int x2, .int x3, .int x4, .int x5, .null, .null] [] M (fun r M1 => zQ 95 74 L (zpush r st) M1 Q) := zq_callV (n := 100) (j := 94) (b := false) (As := [.int x1, .int x2, .int x3, .int x4, .int x5]) (by decide +kernel) (by decide +kernel) ⟨by decide +kernel, by decide +kernel, rfl, by decide +kernel, by decide +kernel, Nat.le_of_ble_eq_true rfl⟩ rfl
theorem q95_74i : zQ 95 74 [v0, v1, v2, v3, .int y, v5, v6, v7, v8, v9] (.int x :: st) M Q ↔ zQ 95 76 [v0, v1, v2, v3, .int y, .int x, v6, v7, v8, v9] st M Q := zq_stI (i := .istore 5) (k := 5) (by decide +kernel) rfl (Nat.le_of_ble_eq_true rfl) rfl rfl
theorem q95_74r : zQ 95 74 [v0, v1, v2, v3, .ref r1, v5, v6, v7, v8, v9] (.int x :: st) M Q ↔ zQ 95 76 [v0, v1, v2, v3, .ref r1, .int x, v6, v7, v8, v9] st M Q := zq_stI (i := .istore 5) (k := 5) (by decide +kernel) rfl (Nat.le_of_ble_eq_true rfl) rfl rfl
theorem q95_74n : zQ 95 74 [v0, v1, v2, v3, .null, v5, v6, v7, v8, v9] (.int x :: st) M Q ↔ zQ 95 76 [v0, v1, v2, v3, .null, .int x, v6, v7, v8, v9] st M Q := zq_stI (i := .istore 5) (k := 5) (by decide +kernel) rfl (Nat.le_of_ble_eq_true rfl) rfl rfl
theorem q95_76 : zQ 95 76 [.ref a, v1, v2, v3, v4, v5, v6, v7, v8, v9] st M Q ↔ zQ 95 77 [.ref a, v1, v2, v3, v4, v5, v6, v7, v8, v9] (.ref a :: st) M Q := zq_go (i := .aload_n 0) (by decide +kernel) rfl
theorem q95_77 : zQ 95 77 [v0, .int x, v2, v3, v4, v5, v6, v7, v8, v9] st M Q ↔ zQ 95 78 [v0, .int x, v2, v3, v4, v5, v6, v7, v8, v9] (.int x :: st) M Q := zq_go (i := .iload_n 1) (by decide +kernel) rfl
theorem q95_78 : zQ 95 78 [v0, v1, .int x, v3, v4, v5, v6, v7, v8, v9] st M Q ↔ zQ 95 79 [v0, v1, .int x, v3, v4, v5, v6, v7, v8, v9] (.int x :: st) M Q := zq_go (i := .iload_n 2) (by decide +kernel) rfl
theorem q95_79 : zQ 95 79 [v0, v1, v2, v3, v4, .int x, v6, v7, v8, v9] st M Q ↔ zQ 95 81 [v0, v1, v2, v3, v4, .int x, v6, v7, v8, v9] (.int x :: st) M Q := zq_go (i := .iload 5) (by decide +kernel) rfl
theorem q95_81 : zQ 95 81 [v0, v1, v2, v3, v4, .int x, v6, v7, v8, v9] st M Q ↔ zQ 95 83 [v0, v1, v2, v3, v4, .int x, v6, v7, v8, v9] (.int x :: st) M Q := zq_go (i := .iload 5) (by decide +kernel) rfl
theorem q95_83 : zQ 95 83 L (.int x :: st) M Q ↔ (x = 0 → zQ 95 86 L st M Q) ∧ (¬ x = 0 → zQ 95 90 L st M Q) := zq_bn (i := .ifCond .ne 7) (off := 7) (by decide +kernel) rfl (by decide) rfl
theorem q95_86 : zQ 95 86 L st M Q ↔ zQ 95 87 L (.int 1 :: st) M Q := zq_con (n := 1) (by decide +kernel) (by decide +kernel) rfl
theorem q95_87 : zQ 95 87 L st M Q ↔ zQ 95 91 L st M Q := zq_jmp (off := 4) (by decide +kernel) (by decide)
theorem q95_90 : zQ 95 90 L st M Q ↔ zQ 95 91 L (.int 0 :: st) M Q := zq_con (n := 0) (by decide +kernel) (by decide +kernel) rfl
theorem q95_91 : zQ 95 91 L st M Q ↔ zQ 95 93 L (.int 9 :: st) M Q := zq_bip (n := 9) (by decide +kernel) (by decide +kernel) rfl
theorem q95_93 : zQ 95 93 L (.int x5 :: .int x4 :: .int x3 :: .int x2 :: .int x1 :: .ref a :: st) M Q ↔ (zcs st ≤ 8 ∧ a < zNC ∧ zk a = 6) ∧ zQ 94 0 [.ref a, .int x1, .int x2, .int x3, .int x4, .int x5, .null, .null] [] M (fun r M1 => zQ 95 96 L (zpush r st) M1 Q) := zq_callV (n := 100) (j := 94) (b := false) (As := [.int x1, .int x2, .int x3, .int x4, .int x5]) (by decide +kernel) (by decide +kernel) ⟨by decide +kernel, by decide +kernel, rfl, by decide +kernel, by decide +kernel, Nat.le_of_ble_eq_true rfl⟩ rfl
theorem q95_96i : zQ 95 96 [v0, v1, v2, v3, v4, .int y, v6, v7, v8, v9] (.int x :: st) M Q ↔ zQ 95 98 [v0, v1, v2, v3, v4, .int y, .int x, v7, v8, v9] st M Q := zq_stI (i := .istore 6) (k := 6) (by decide +kernel) rfl (Nat.le_of_ble_eq_true rfl) rfl rfl
theorem q95_96r : zQ 95 96 [v0, v1, v2, v3, v4, .ref r1, v6, v7, v8, v9] (.int x :: st) M Q ↔ zQ 95 98 [v0, v1, v2, v3, v4, .ref r1, .int x, v7, v8, v9] st M Q := zq_stI (i := .istore 6) (k := 6) (by decide +kernel) rfl (Nat.le_of_ble_eq_true rfl) rfl rfl
theorem q95_96n : zQ 95 96 [v0, v1, v2, v3, v4, .null, v6, v7, v8, v9] (.int x :: st) M Q ↔ zQ 95 98 [v0, v1, v2, v3, v4, .null, .int x, v7, v8, v9] st M Q := zq_stI (i := .istore 6) (k := 6) (by decide +kernel) rfl (Nat.le_of_ble_eq_true rfl) rfl rfl
theorem q95_98 : zQ 95 98 [.ref a, v1, v2, v3, v4, v5, v6, v7, v8, v9] st M Q ↔ zQ 95 99 [.ref a, v1, v2, v3, v4, v5, v6, v7, v8, v9] (.ref a :: st) M Q := zq_go (i := .aload_n 0) (by decide +kernel) rfl
theorem q95_99 : zQ 95 99 [v0, .int x, v2, v3, v4, v5, v6, v7, v8, v9] st M Q ↔ zQ 95 100 [v0, .int x, v2, v3, v4, v5, v6, v7, v8, v9] (.int x :: st) M Q := zq_go (i := .iload_n 1) (by decide +kernel) rfl
theorem q95_100 : zQ 95 100 [v0, v1, .int x, v3, v4, v5, v6, v7, v8, v9] st M Q ↔ zQ 95 101 [v0, v1, .int x, v3, v4, v5, v6, v7, v8, v9] (.int x :: st) M Q := zq_go (i := .iload_n 2) (by decide +kernel) rfl
theorem q95_101 : zQ 95 101 [v0, v1, v2, v3, v4, v5, .int x, v7, v8, v9] st M Q ↔ zQ 95 103 [v0, v1, v2, v3, v4, v5, .int x, v7, v8, v9] (.int x :: st) M Q := zq_go (i := .iload 6) (by decide +kernel) rfl
theorem q95_103 : zQ 95 103 L st M Q ↔ zQ 95 104 L (.int 0 :: st) M Q := zq_con (n := 0) (by decide +kernel) (by decide +kernel) rfl
theorem q95_104 : zQ 95 104 L st M Q ↔ zQ 95 106 L (.int 9 :: st) M Q := zq_bip (n := 9) (by decide +kernel) (by decide +kernel) rfl
theorem q95_106 : zQ 95 106 L (.int x5 :: .int x4 :: .int x3 :: .int x2 :: .int x1 :: .ref a :: st) M Q ↔ (zcs st ≤ 8 ∧ a < zNC ∧ zk a = 6) ∧ zQ 94 0 [.ref a, .int x1, .int x2, .int x3, .int x4, .int x5, .null, .null] [] M (fun r M1 => zQ 95 109 L (zpush r st) M1 Q) := zq_callV (n := 100) (j := 94) (b := false) (As := [.int x1, .int x2, .int x3, .int x4, .int x5]) (by decide +kernel) (by decide +kernel) ⟨by decide +kernel, by decide +kernel, rfl, by decide +kernel, by decide +kernel, Nat.le_of_ble_eq_true rfl⟩ rfl
theorem q95_109i : zQ 95 109 [v0, v1, v2, v3, v4, v5, .int y, v7, v8, v9] (.int x :: st) M Q ↔ zQ 95 111 [v0, v1, v2, v3, v4, v5, .int y, .int x, v8, v9] st M Q := zq_stI (i := .istore 7) (k := 7) (by decide +kernel) rfl (Nat.le_of_ble_eq_true rfl) rfl rfl
theorem q95_109r : zQ 95 109 [v0, v1, v2, v3, v4, v5, .ref r1, v7, v8, v9] (.int x :: st) M Q ↔ zQ 95 111 [v0, v1, v2, v3, v4, v5, .ref r1, .int x, v8, v9] st M Q := zq_stI (i := .istore 7) (k := 7) (by decide +kernel) rfl (Nat.le_of_ble_eq_true rfl) rfl rfl
theorem q95_109n : zQ 95 109 [v0, v1, v2, v3, v4, v5, .null, v7, v8, v9] (.int x :: st) M Q ↔ zQ 95 111 [v0, v1, v2, v3, v4, v5, .null, .int x, v8, v9] st M Q := zq_stI (i := .istore 7) (k := 7) (by decide +kernel) rfl (Nat.le_of_ble_eq_true rfl) rfl rfl
theorem q95_111 : zQ 95 111 [.ref a, v1, v2, v3, v4, v5, v6, v7, v8, v9] st M Q ↔ zQ 95 112 [.ref a, v1, v2, v3, v4, v5, v6, v7, v8, v9] (.ref a :: st) M Q := zq_go (i := .aload_n 0) (by decide +kernel) rfl
theorem q95_112 : zQ 95 112 [v0, .int x, v2, v3, v4, v5, v6, v7, v8, v9] st M Q ↔ zQ 95 113 [v0, .int x, v2, v3, v4, v5, v6, v7, v8, v9] (.int x :: st) M Q := zq_go (i := .iload_n 1) (by decide +kernel) rfl
theorem q95_113 : zQ 95 113 [v0, v1, .int x, v3, v4, v5, v6, v7, v8, v9] st M Q ↔ zQ 95 114 [v0, v1, .int x, v3, v4, v5, v6, v7, v8, v9] (.int x :: st) M Q := zq_go (i := .iload_n 2) (by decide +kernel) rfl
theorem q95_114 : zQ 95 114 [v0, v1, v2, v3, v4, v5, v6, .int x, v8, v9] st M Q ↔ zQ 95 116 [v0, v1, v2, v3, v4, v5, v6, .int x, v8, v9] (.int x :: st) M Q := zq_go (i := .iload 7) (by decide +kernel) rfl
theorem q95_116 : zQ 95 116 L st M Q ↔ zQ 95 117 L (.int 0 :: st) M Q := zq_con (n := 0) (by decide +kernel) (by decide +kernel) rfl
theorem q95_117 : zQ 95 117 L st M Q ↔ zQ 95 118 L (.int 3 :: st) M Q := zq_con (n := 3) (by decide +kernel) (by decide +kernel) rfl
theorem q95_118 : zQ 95 118 L (.int x5 :: .int x4 :: .int x3 :: .int x2 :: .int x1 :: .ref a :: st) M Q ↔ (zcs st ≤ 8 ∧ a < zNC ∧ zk a = 6) ∧ zQ 94 0 [.ref a, .int x1, .int x2, .int x3, .int x4, .int x5, .null, .null] [] M (fun r M1 => zQ 95 121 L (zpush r st) M1 Q) := zq_callV (n := 100) (j := 94) (b := false) (As := [.int x1, .int x2, .int x3, .int x4, .int x5]) (by decide +kernel) (by decide +kernel) ⟨by decide +kernel, by decide +kernel, rfl, by decide +kernel, by decide +kernel, Nat.le_of_ble_eq_true rfl⟩ rfl
theorem q95_121i : zQ 95 121 [v0, v1, v2, v3, v4, v5, v6, .int y, v8, v9] (.int x :: st) M Q ↔ zQ 95 123 [v0, v1, v2, v3, v4, v5, v6, .int y, .int x, v9] st M Q := zq_stI (i := .istore 8) (k := 8) (by decide +kernel) rfl (Nat.le_of_ble_eq_true rfl) rfl rfl
theorem q95_121r : zQ 95 121 [v0, v1, v2, v3, v4, v5, v6, .ref r1, v8, v9] (.int x :: st) M Q ↔ zQ 95 123 [v0, v1, v2, v3, v4, v5, v6, .ref r1, .int x, v9] st M Q := zq_stI (i := .istore 8) (k := 8) (by decide +kernel) rfl (Nat.le_of_ble_eq_true rfl) rfl rfl
theorem q95_121n : zQ 95 121 [v0, v1, v2, v3, v4, v5, v6, .null, v8, v9] (.int x :: st) M Q ↔ zQ 95 123 [v0, v1, v2, v3, v4, v5, v6, .null, .int x, v9] st M Q := zq_stI (i := .istore 8) (k := 8) (by decide +kernel) rfl (Nat.le_of_ble_eq_true rfl) rfl rfl
theorem q95_123 : zQ 95 123 [.ref a, v1, v2, v3, v4, v5, v6, v7, v8, v9] st M Q ↔ zQ 95 124 [.ref a, v1, v2, v3, v4, v5, v6, v7, v8, v9] (.ref a :: st) M Q := zq_go (i := .aload_n 0) (by decide +kernel) rfl
theorem q95_124 : zQ 95 124 [v0, .int x, v2, v3, v4, v5, v6, v7, v8, v9] st M Q ↔ zQ 95 125 [v0, .int x, v2, v3, v4, v5, v6, v7, v8, v9] (.int x :: st) M Q := zq_go (i := .iload_n 1) (by decide +kernel) rfl
theorem q95_125 : zQ 95 125 [v0, v1, .int x, v3, v4, v5, v6, v7, v8, v9] st M Q ↔ zQ 95 126 [v0, v1, .int x, v3, v4, v5, v6, v7, v8, v9] (.int x :: st) M Q := zq_go (i := .iload_n 2) (by decide +kernel) rfl
theorem q95_126 : zQ 95 126 [v0, v1, v2, v3, v4, v5, v6, v7, .int x, v9] st M Q ↔ zQ 95 128 [v0, v1, v2, v3, v4, v5, v6, v7, .int x, v9] (.int x :: st) M Q := zq_go (i := .iload 8) (by decide +kernel) rfl
theorem q95_128 : zQ 95 128 L st M Q ↔ zQ 95 129 L (.int 0 :: st) M Q := zq_con (n := 0) (by decide +kernel) (by decide +kernel) rfl
theorem q95_129 : zQ 95 129 [.ref a, v1, v2, v3, v4, v5, v6, v7, v8, v9] st M Q ↔ zQ 95 130 [.ref a, v1, v2, v3, v4, v5, v6, v7, v8, v9] (.ref a :: st) M Q := zq_go (i := .aload_n 0) (by decide +kernel) rfl
theorem q95_130 : zQ 95 130 L (.ref a :: st) M Q ↔ (a < zNC ∧ zk a = 6) ∧ zQ 95 133 L (zfv a 11 M :: st) M Q := zq_getf (n := 104) (b := false) (by decide +kernel) (by decide +kernel)
theorem q95_133 : zQ 95 133 L st M Q ↔ zQ 95 134 L (.int 1 :: st) M Q := zq_con (n := 1) (by decide +kernel) (by decide +kernel) rfl
theorem q95_134 : zQ 95 134 L (.int y :: .int x :: st) M Q ↔ zQ 95 135 L (.int (x - y) :: st) M Q := zq_go (i := .isub) (by decide +kernel) rfl
theorem q95_135 : zQ 95 135 L (.int x5 :: .int x4 :: .int x3 :: .int x2 :: .int x1 :: .ref a :: st) M Q ↔ (zcs st ≤ 8 ∧ a < zNC ∧ zk a = 6) ∧ zQ 94 0 [.ref a, .int x1, .int x2, .int x3, .int x4, .int x5, .null, .null] [] M (fun r M1 => zQ 95 138 L (zpush r st) M1 Q) := zq_callV (n := 100) (j := 94) (b := false) (As := [.int x1, .int x2, .int x3, .int x4, .int x5]) (by decide +kernel) (by decide +kernel) ⟨by decide +kernel, by decide +kernel, rfl, by decide +kernel, by decide +kernel, Nat.le_of_ble_eq_true rfl⟩ rfl
theorem q95_138i : zQ 95 138 [v0, v1, v2, v3, v4, v5, v6, v7, .int y, v9] (.int x :: st) M Q ↔ zQ 95 140 [v0, v1, v2, v3, v4, v5, v6, v7, .int y, .int x] st M Q := zq_stI (i := .istore 9) (k := 9) (by decide +kernel) rfl (Nat.le_of_ble_eq_true rfl) rfl rfl
theorem q95_138r : zQ 95 138 [v0, v1, v2, v3, v4, v5, v6, v7, .ref r1, v9] (.int x :: st) M Q ↔ zQ 95 140 [v0, v1, v2, v3, v4, v5, v6, v7, .ref r1, .int x] st M Q := zq_stI (i := .istore 9) (k := 9) (by decide +kernel) rfl (Nat.le_of_ble_eq_true rfl) rfl rfl
theorem q95_138n : zQ 95 138 [v0, v1, v2, v3, v4, v5, v6, v7, .null, v9] (.int x :: st) M Q ↔ zQ 95 140 [v0, v1, v2, v3, v4, v5, v6, v7, .null, .int x] st M Q := zq_stI (i := .istore 9) (k := 9) (by decide +kernel) rfl (Nat.le_of_ble_eq_true rfl) rfl rfl
theorem q95_140 : zQ 95 140 [.ref a, v1, v2, v3, v4, v5, v6, v7, v8, v9] st M Q ↔ zQ 95 141 [.ref a, v1, v2, v3, v4, v5, v6, v7, v8, v9] (.ref a :: st) M Q := zq_go (i := .aload_n 0) (by decide +kernel) rfl
theorem q95_141 : zQ 95 141 L (.ref a :: st) M Q ↔ (a < zNC ∧ zk a = 6) ∧ zQ 95 144 L (zfv a 12 M :: st) M Q := zq_getf (n := 28) (b := false) (by decide +kernel) (by decide +kernel)
theorem q95_144 : zQ 95 144 [v0, v1, v2, .int x, v4, v5, v6, v7, v8, v9] st M Q ↔ zQ 95 145 [v0, v1, v2, .int x, v4, v5, v6, v7, v8, v9] (.int x :: st) M Q := zq_go (i := .iload_n 3) (by decide +kernel) rfl
theorem q95_145 : zQ 95 145 [v0, v1, v2, v3, .int x, v5, v6, v7, v8, v9] st M Q ↔ zQ 95 147 [v0, v1, v2, v3, .int x, v5, v6, v7, v8, v9] (.int x :: st) M Q := zq_go (i := .iload 4) (by decide +kernel) rfl
theorem q95_147 : zQ 95 147 L st M Q ↔ zQ 95 149 L (.int 112 :: st) M Q := zq_bip (n := 112) (by decide +kernel) (by decide +kernel) rfl
theorem q95_149 : zQ 95 149 L (.int y :: .int x :: st) M Q ↔ (x = y → zQ 95 152 L st M Q) ∧ (¬ x = y → zQ 95 156 L st M Q) := zq_bn (i := .if_icmp .ne 7) (off := 7) (by decide +kernel) rfl (by decide) rfl
theorem q95_152 : zQ 95 152 L st M Q ↔ zQ 95 153 L (.int 0 :: st) M Q := zq_con (n := 0) (by decide +kernel) (by decide +kernel) rfl
theorem q95_153 : zQ 95 153 L st M Q ↔ zQ 95 168 L st M Q := zq_jmp (off := 15) (by decide +kernel) (by decide)
theorem q95_156 : zQ 95 156 [v0, v1, v2, v3, .int x, v5, v6, v7, v8, v9] st M Q ↔ zQ 95 158 [v0, v1, v2, v3, .int x, v5, v6, v7, v8, v9] (.int x :: st) M Q := zq_go (i := .iload 4) (by decide +kernel) rfl
theorem q95_158 : zQ 95 158 L st M Q ↔ zQ 95 160 L (.int 119 :: st) M Q := zq_bip (n := 119) (by decide +kernel) (by decide +kernel) rfl
theorem q95_160 : zQ 95 160 L (.int y :: .int x :: st) M Q ↔ (x = y → zQ 95 163 L st M Q) ∧ (¬ x = y → zQ 95 167 L st M Q) := zq_bn (i := .if_icmp .ne 7) (off := 7) (by decide +kernel) rfl (by decide) rfl
theorem q95_163 : zQ 95 163 L st M Q ↔ zQ 95 164 L (.int 1 :: st) M Q := zq_con (n := 1) (by decide +kernel) (by decide +kernel) rfl
theorem q95_164 : zQ 95 164 L st M Q ↔ zQ 95 168 L st M Q := zq_jmp (off := 4) (by decide +kernel) (by decide)
theorem q95_167 : zQ 95 167 L st M Q ↔ zQ 95 168 L (.int 2 :: st) M Q := zq_con (n := 2) (by decide +kernel) (by decide +kernel) rfl
theorem q95_168 : zQ 95 168 L (.int x :: .int y :: .ref a :: st) M Q ↔ (a < zNC ∧ zk a = 7 ∧ zin y (zn a) = true) ∧ zQ 95 169 L st (zup M a y.toNatClampNeg x) Q := zq_iast (by decide +kernel)
theorem q95_169 : zQ 95 169 [.ref a, v1, v2, v3, v4, v5, v6, v7, v8, v9] st M Q ↔ zQ 95 170 [.ref a, v1, v2, v3, v4, v5, v6, v7, v8, v9] (.ref a :: st) M Q := zq_go (i := .aload_n 0) (by decide +kernel) rfl
theorem q95_170 : zQ 95 170 L (.ref a :: st) M Q ↔ (a < zNC ∧ zk a = 6) ∧ zQ 95 173 L (zfv a 13 M :: st) M Q := zq_getf (n := 31) (b := false) (by decide +kernel) (by decide +kernel)
theorem q95_173 : zQ 95 173 [v0, v1, v2, .int x, v4, v5, v6, v7, v8, v9] st M Q ↔ zQ 95 174 [v0, v1, v2, .int x, v4, v5, v6, v7, v8, v9] (.int x :: st) M Q := zq_go (i := .iload_n 3) (by decide +kernel) rfl
theorem q95_174 : zQ 95 174 L st M Q ↔ zQ 95 176 L (.int 10 :: st) M Q := zq_bip (n := 10) (by decide +kernel) (by decide +kernel) rfl
theorem q95_176 : zQ 95 176 [v0, v1, v2, v3, v4, .int x, v6, v7, v8, v9] st M Q ↔ zQ 95 178 [v0, v1, v2, v3, v4, .int x, v6, v7, v8, v9] (.int x :: st) M Q := zq_go (i := .iload 5) (by decide +kernel) rfl
theorem q95_178 : zQ 95 178 L (.int y :: .int x :: st) M Q ↔ zQ 95 179 L (.int (x * y) :: st) M Q := zq_go (i := .imul) (by decide +kernel) rfl
theorem q95_179 : zQ 95 179 [v0, v1, v2, v3, v4, v5, .int x, v7, v8, v9] st M Q ↔ zQ 95 181 [v0, v1, v2, v3, v4, v5, .int x, v7, v8, v9] (.int x :: st) M Q := zq_go (i := .iload 6) (by decide +kernel) rfl
theorem q95_181 : zQ 95 181 L (.int y :: .int x :: st) M Q ↔ zQ 95 182 L (.int (x + y) :: st) M Q := zq_go (i := .iadd) (by decide +kernel) rfl
theorem q95_182 : zQ 95 182 L (.int x :: .int y :: .ref a :: st) M Q ↔ (a < zNC ∧ zk a = 7 ∧ zin y (zn a) = true) ∧ zQ 95 183 L st (zup M a y.toNatClampNeg x) Q := zq_iast (by decide +kernel)
theorem q95_183 : zQ 95 183 [.ref a, v1, v2, v3, v4, v5, v6, v7, v8, v9] st M Q ↔ zQ 95 184 [.ref a, v1, v2, v3, v4, v5, v6, v7, v8, v9] (.ref a :: st) M Q := zq_go (i := .aload_n 0) (by decide +kernel) rfl
theorem q95_184 : zQ 95 184 L (.ref a :: st) M Q ↔ (a < zNC ∧ zk a = 6) ∧ zQ 95 187 L (zfv a 14 M :: st) M Q := zq_getf (n := 34) (b := false) (by decide +kernel) (by decide +kernel)
theorem q95_187 : zQ 95 187 [v0, v1, v2, .int x, v4, v5, v6, v7, v8, v9] st M Q ↔ zQ 95 188 [v0, v1, v2, .int x, v4, v5, v6, v7, v8, v9] (.int x :: st) M Q := zq_go (i := .iload_n 3) (by decide +kernel) rfl
theorem q95_188 : zQ 95 188 [v0, v1, v2, v3, v4, v5, v6, .int x, v8, v9] st M Q ↔ zQ 95 190 [v0, v1, v2, v3, v4, v5, v6, .int x, v8, v9] (.int x :: st) M Q := zq_go (i := .iload 7) (by decide +kernel) rfl
theorem q95_190 : zQ 95 190 L (.int x :: .int y :: .ref a :: st) M Q ↔ (a < zNC ∧ zk a = 7 ∧ zin y (zn a) = true) ∧ zQ 95 191 L st (zup M a y.toNatClampNeg x) Q := zq_iast (by decide +kernel)
theorem q95_191 : zQ 95 191 [.ref a, v1, v2, v3, v4, v5, v6, v7, v8, v9] st M Q ↔ zQ 95 192 [.ref a, v1, v2, v3, v4, v5, v6, v7, v8, v9] (.ref a :: st) M Q := zq_go (i := .aload_n 0) (by decide +kernel) rfl
theorem q95_192 : zQ 95 192 L (.ref a :: st) M Q ↔ (a < zNC ∧ zk a = 6) ∧ zQ 95 195 L (zfv a 15 M :: st) M Q := zq_getf (n := 37) (b := false) (by decide +kernel) (by decide +kernel)
theorem q95_195 : zQ 95 195 [v0, v1, v2, .int x, v4, v5, v6, v7, v8, v9] st M Q ↔ zQ 95 196 [v0, v1, v2, .int x, v4, v5, v6, v7, v8, v9] (.int x :: st) M Q := zq_go (i := .iload_n 3) (by decide +kernel) rfl
theorem q95_196 : zQ 95 196 [v0, v1, v2, v3, v4, v5, v6, v7, .int x, v9] st M Q ↔ zQ 95 198 [v0, v1, v2, v3, v4, v5, v6, v7, .int x, v9] (.int x :: st) M Q := zq_go (i := .iload 8) (by decide +kernel) rfl
theorem q95_198 : zQ 95 198 L (.int x :: .int y :: .ref a :: st) M Q ↔ (a < zNC ∧ zk a = 7 ∧ zin y (zn a) = true) ∧ zQ 95 199 L st (zup M a y.toNatClampNeg x) Q := zq_iast (by decide +kernel)
theorem q95_199 : zQ 95 199 [.ref a, v1, v2, v3, v4, v5, v6, v7, v8, v9] st M Q ↔ zQ 95 200 [.ref a, v1, v2, v3, v4, v5, v6, v7, v8, v9] (.ref a :: st) M Q := zq_go (i := .aload_n 0) (by decide +kernel) rfl
theorem q95_200 : zQ 95 200 L (.ref a :: st) M Q ↔ (a < zNC ∧ zk a = 6) ∧ zQ 95 203 L (zfv a 16 M :: st) M Q := zq_getf (n := 40) (b := false) (by decide +kernel) (by decide +kernel)
theorem q95_203 : zQ 95 203 [v0, v1, v2, .int x, v4, v5, v6, v7, v8, v9] st M Q ↔ zQ 95 204 [v0, v1, v2, .int x, v4, v5, v6, v7, v8, v9] (.int x :: st) M Q := zq_go (i := .iload_n 3) (by decide +kernel) rfl
theorem q95_204 : zQ 95 204 [v0, v1, v2, v3, v4, v5, v6, v7, v8, .int x] st M Q ↔ zQ 95 206 [v0, v1, v2, v3, v4, v5, v6, v7, v8, .int x] (.int x :: st) M Q := zq_go (i := .iload 9) (by decide +kernel) rfl
theorem q95_206 : zQ 95 206 L (.int x :: .int y :: .ref a :: st) M Q ↔ (a < zNC ∧ zk a = 7 ∧ zin y (zn a) = true) ∧ zQ 95 207 L st (zup M a y.toNatClampNeg x) Q := zq_iast (by decide +kernel)
theorem q95_207 : zQ 95 207 [v0, v1, v2, v3, v4, v5, v6, v7, v8, .int x] st M Q ↔ zQ 95 209 [v0, v1, v2, v3, v4, v5, v6, v7, v8, .int x] (.int x :: st) M Q := zq_go (i := .iload 9) (by decide +kernel) rfl
theorem q95_209 : zQ 95 209 L (.int x :: st) M Q ↔ (x < 0 → zQ 95 216 L st M Q) ∧ (¬ x < 0 → zQ 95 212 L st M Q) := zq_br (i := .ifCond .lt 7) (off := 7) (by decide +kernel) rfl (by decide) rfl
theorem q95_212 : zQ 95 212 L st M Q ↔ zQ 95 213 L (.int 1 :: st) M Q := zq_con (n := 1) (by decide +kernel) (by decide +kernel) rfl
theorem q95_213 : zQ 95 213 L st M Q ↔ zQ 95 217 L st M Q := zq_jmp (off := 4) (by decide +kernel) (by decide)
theorem q95_216 : zQ 95 216 L st M Q ↔ zQ 95 217 L (.int 0 :: st) M Q := zq_con (n := 0) (by decide +kernel) (by decide +kernel) rfl
theorem q95_217 : zQ 95 217 L [.int x] M Q ↔ (x = 0 ∨ x = 1) ∧ Q (zI x) M := zq_reZ (by decide +kernel) (by decide +kernel)
-- 96 SandKeepersModel.readsSee(II)Z
theorem q96_0 : zQ 96 0 [.ref a, v1, v2, v3, v4] st M Q ↔ zQ 96 1 [.ref a, v1, v2, v3, v4] (.ref a :: st) M Q := zq_go (i := .aload_n 0) (by decide +kernel) rfl
theorem q96_1 : zQ 96 1 L st M Q ↔ zQ 96 2 L (.int 0 :: st) M Q := zq_con (n := 0) (by decide +kernel) (by decide +kernel) rfl
theorem q96_2 : zQ 96 2 L (.int x :: .ref a :: st) M Q ↔ (a < zNC ∧ zk a = 6 ∧ zf a 10 = none) ∧ zQ 96 5 L st (zup M a 10 x) Q := zq_putf (n := 93) (b := false) (by decide +kernel) (by decide +kernel) (by decide +kernel)
theorem q96_5 : zQ 96 5 [.ref a, v1, v2, v3, v4] st M Q ↔ zQ 96 6 [.ref a, v1, v2, v3, v4] (.ref a :: st) M Q := zq_go (i := .aload_n 0) (by decide +kernel) rfl
theorem q96_6 : zQ 96 6 [v0, .int x, v2, v3, v4] st M Q ↔ zQ 96 7 [v0, .int x, v2, v3, v4] (.int x :: st) M Q := zq_go (i := .iload_n 1) (by decide +kernel) rfl
theorem q96_7 : zQ 96 7 [v0, v1, .int x, v3, v4] st M Q ↔ zQ 96 8 [v0, v1, .int x, v3, v4] (.int x :: st) M Q := zq_go (i := .iload_n 2) (by decide +kernel) rfl
theorem q96_8 : zQ 96 8 L (.int x2 :: .int x1 :: .ref a :: st) M Q ↔ (zcs st ≤ 8 ∧ a < zNC ∧ zk a = 6) ∧ zQ 93 0 [.ref a, .int x1, .int x2] [] M (fun r M1 => zQ 96 11 L (zpush r st) M1 Q) := zq_callV (n := 96) (j := 93) (b := false) (As := [.int x1, .int x2]) (by decide +kernel) (by decide +kernel) ⟨by decide +kernel, by decide +kernel, rfl, by decide +kernel, by decide +kernel, Nat.le_of_ble_eq_true rfl⟩ rfl
theorem q96_11 : zQ 96 11 L st M Q ↔ zQ 96 13 L (.int 115 :: st) M Q := zq_bip (n := 115) (by decide +kernel) (by decide +kernel) rfl
theorem q96_13 : zQ 96 13 L (.int y :: .int x :: st) M Q ↔ (x = y → zQ 96 18 L st M Q) ∧ (¬ x = y → zQ 96 16 L st M Q) := zq_br (i := .if_icmp .eq 5) (off := 5) (by decide +kernel) rfl (by decide) rfl
theorem q96_16 : zQ 96 16 L st M Q ↔ zQ 96 17 L (.int 0 :: st) M Q := zq_con (n := 0) (by decide +kernel) (by decide +kernel) rfl
theorem q96_17 : zQ 96 17 L [.int x] M Q ↔ (x = 0 ∨ x = 1) ∧ Q (zI x) M := zq_reZ (by decide +kernel) (by decide +kernel)
theorem q96_18 : zQ 96 18 [.ref a, v1, v2, v3, v4] st M Q ↔ zQ 96 19 [.ref a, v1, v2, v3, v4] (.ref a :: st) M Q := zq_go (i := .aload_n 0) (by decide +kernel) rfl
theorem q96_19 : zQ 96 19 L (.ref a :: st) M Q ↔ zQ 96 20 L (.ref a :: .ref a :: st) M Q := zq_go (i := .dup) (by decide +kernel) rfl
theorem q96_20 : zQ 96 20 L (.ref a :: st) M Q ↔ (a < zNC ∧ zk a = 6) ∧ zQ 96 23 L (zfv a 10 M :: st) M Q := zq_getf (n := 93) (b := false) (by decide +kernel) (by decide +kernel)
theorem q96_23 : zQ 96 23 L st M Q ↔ zQ 96 24 L (.int 1 :: st) M Q := zq_con (n := 1) (by decide +kernel) (by decide +kernel) rfl
theorem q96_24 : zQ 96 24 L (.int y :: .int x :: st) M Q ↔ zQ 96 25 L (.int (x + y) :: st) M Q := zq_go (i := .iadd) (by decide +kernel) rfl
theorem q96_25 : zQ 96 25 L (.int x :: .ref a :: st) M Q ↔ (a < zNC ∧ zk a = 6 ∧ zf a 10 = none) ∧ zQ 96 28 L st (zup M a 10 x) Q := zq_putf (n := 93) (b := false) (by decide +kernel) (by decide +kernel) (by decide +kernel)
theorem q96_28 : zQ 96 28 [.ref a, v1, v2, v3, v4] st M Q ↔ zQ 96 29 [.ref a, v1, v2, v3, v4] (.ref a :: st) M Q := zq_go (i := .aload_n 0) (by decide +kernel) rfl
theorem q96_29 : zQ 96 29 [.ref a, v1, v2, v3, v4] st M Q ↔ zQ 96 30 [.ref a, v1, v2, v3, v4] (.ref a :: st) M Q := zq_go (i := .aload_n 0) (by decide +kernel) rfl
theorem q96_30 : zQ 96 30 [v0, .int x, v2, v3, v4] st M Q ↔ zQ 96 31 [v0, .int x, v2, v3, v4] (.int x :: st) M Q := zq_go (i := .iload_n 1) (by decide +kernel) rfl
theorem q96_31 : zQ 96 31 [v0, v1, .int x, v3, v4] st M Q ↔ zQ 96 32 [v0, v1, .int x, v3, v4] (.int x :: st) M Q := zq_go (i := .iload_n 2) (by decide +kernel) rfl
theorem q96_32 : zQ 96 32 L st M Q ↔ zQ 96 33 L (.int 0 :: st) M Q := zq_con (n := 0) (by decide +kernel) (by decide +kernel) rfl
theorem q96_33 : zQ 96 33 L st M Q ↔ zQ 96 34 L (.int 2 :: st) M Q := zq_con (n := 2) (by decide +kernel) (by decide +kernel) rfl
theorem q96_34 : zQ 96 34 L st M Q ↔ zQ 96 36 L (.int 6 :: st) M Q := zq_bip (n := 6) (by decide +kernel) (by decide +kernel) rfl
theorem q96_36 : zQ 96 36 L (.int x5 :: .int x4 :: .int x3 :: .int x2 :: .int x1 :: .ref a :: st) M Q ↔ (zcs st ≤ 8 ∧ a < zNC ∧ zk a = 6) ∧ zQ 94 0 [.ref a, .int x1, .int x2, .int x3, .int x4, .int x5, .null, .null] [] M (fun r M1 => zQ 96 39 L (zpush r st) M1 Q) := zq_callV (n := 100) (j := 94) (b := false) (As := [.int x1, .int x2, .int x3, .int x4, .int x5]) (by decide +kernel) (by decide +kernel) ⟨by decide +kernel, by decide +kernel, rfl, by decide +kernel, by decide +kernel, Nat.le_of_ble_eq_true rfl⟩ rfl
theorem q96_39 : zQ 96 39 L (.int x :: .ref a :: st) M Q ↔ (a < zNC ∧ zk a = 6 ∧ zf a 11 = none) ∧ zQ 96 42 L st (zup M a 11 x) Q := zq_putf (n := 104) (b := false) (by decide +kernel) (by decide +kernel) (by decide +kernel)
theorem q96_42 : zQ 96 42 [.ref a, v1, v2, v3, v4] st M Q ↔ zQ 96 43 [.ref a, v1, v2, v3, v4] (.ref a :: st) M Q := zq_go (i := .aload_n 0) (by decide +kernel) rfl
theorem q96_43 : zQ 96 43 L (.ref a :: st) M Q ↔ (a < zNC ∧ zk a = 6) ∧ zQ 96 46 L (zfv a 11 M :: st) M Q := zq_getf (n := 104) (b := false) (by decide +kernel) (by decide +kernel)
theorem q96_46 : zQ 96 46 L (.int x :: st) M Q ↔ (x ≤ 0 → zQ 96 53 L st M Q) ∧ (¬ x ≤ 0 → zQ 96 49 L st M Q) := zq_br (i := .ifCond .le 7) (off := 7) (by decide +kernel) rfl (by decide) rfl
theorem q96_49 : zQ 96 49 L st M Q ↔ zQ 96 50 L (.int 1 :: st) M Q := zq_con (n := 1) (by decide +kernel) (by decide +kernel) rfl
theorem q96_50 : zQ 96 50 L st M Q ↔ zQ 96 54 L st M Q := zq_jmp (off := 4) (by decide +kernel) (by decide)
theorem q96_53 : zQ 96 53 L st M Q ↔ zQ 96 54 L (.int 0 :: st) M Q := zq_con (n := 0) (by decide +kernel) (by decide +kernel) rfl
theorem q96_54i : zQ 96 54 [v0, v1, .int y, v3, v4] (.int x :: st) M Q ↔ zQ 96 55 [v0, v1, .int y, .int x, v4] st M Q := zq_stI (i := .istore_n 3) (k := 3) (by decide +kernel) rfl (Nat.le_of_ble_eq_true rfl) rfl rfl
theorem q96_54r : zQ 96 54 [v0, v1, .ref r1, v3, v4] (.int x :: st) M Q ↔ zQ 96 55 [v0, v1, .ref r1, .int x, v4] st M Q := zq_stI (i := .istore_n 3) (k := 3) (by decide +kernel) rfl (Nat.le_of_ble_eq_true rfl) rfl rfl
theorem q96_54n : zQ 96 54 [v0, v1, .null, v3, v4] (.int x :: st) M Q ↔ zQ 96 55 [v0, v1, .null, .int x, v4] st M Q := zq_stI (i := .istore_n 3) (k := 3) (by decide +kernel) rfl (Nat.le_of_ble_eq_true rfl) rfl rfl
theorem q96_55 : zQ 96 55 L st M Q ↔ zQ 96 56 L (.int 0 :: st) M Q := zq_con (n := 0) (by decide +kernel) (by decide +kernel) rfl
theorem q96_56i : zQ 96 56 [v0, v1, v2, .int y, v4] (.int x :: st) M Q ↔ zQ 96 58 [v0, v1, v2, .int y, .int x] st M Q := zq_stI (i := .istore 4) (k := 4) (by decide +kernel) rfl (Nat.le_of_ble_eq_true rfl) rfl rfl
theorem q96_56r : zQ 96 56 [v0, v1, v2, .ref r1, v4] (.int x :: st) M Q ↔ zQ 96 58 [v0, v1, v2, .ref r1, .int x] st M Q := zq_stI (i := .istore 4) (k := 4) (by decide +kernel) rfl (Nat.le_of_ble_eq_true rfl) rfl rfl
theorem q96_56n : zQ 96 56 [v0, v1, v2, .null, v4] (.int x :: st) M Q ↔ zQ 96 58 [v0, v1, v2, .null, .int x] st M Q := zq_stI (i := .istore 4) (k := 4) (by decide +kernel) rfl (Nat.le_of_ble_eq_true rfl) rfl rfl
theorem q96_58 : zQ 96 58 [v0, v1, v2, v3, .int x] st M Q ↔ zQ 96 60 [v0, v1, v2, v3, .int x] (.int x :: st) M Q := zq_go (i := .iload 4) (by decide +kernel) rfl
theorem q96_60 : zQ 96 60 [.ref a, v1, v2, v3, v4] st M Q ↔ zQ 96 61 [.ref a, v1, v2, v3, v4] (.ref a :: st) M Q := zq_go (i := .aload_n 0) (by decide +kernel) rfl
theorem q96_61 : zQ 96 61 L (.ref a :: st) M Q ↔ (a < zNC ∧ zk a = 6) ∧ zQ 96 64 L (zfv a 11 M :: st) M Q := zq_getf (n := 104) (b := false) (by decide +kernel) (by decide +kernel)
theorem q96_64 : zQ 96 64 L (.int y :: .int x :: st) M Q ↔ (y ≤ x → zQ 96 86 L st M Q) ∧ (¬ y ≤ x → zQ 96 67 L st M Q) := zq_br (i := .if_icmp .ge 22) (off := 22) (by decide +kernel) rfl (by decide) rfl
theorem q96_67 : zQ 96 67 [v0, v1, v2, .int x, v4] st M Q ↔ zQ 96 68 [v0, v1, v2, .int x, v4] (.int x :: st) M Q := zq_go (i := .iload_n 3) (by decide +kernel) rfl
theorem q96_68 : zQ 96 68 L (.int x :: st) M Q ↔ (x = 0 → zQ 96 86 L st M Q) ∧ (¬ x = 0 → zQ 96 71 L st M Q) := zq_br (i := .ifCond .eq 18) (off := 18) (by decide +kernel) rfl (by decide) rfl
theorem q96_71 : zQ 96 71 [.ref a, v1, v2, v3, v4] st M Q ↔ zQ 96 72 [.ref a, v1, v2, v3, v4] (.ref a :: st) M Q := zq_go (i := .aload_n 0) (by decide +kernel) rfl
theorem q96_72 : zQ 96 72 [v0, .int x, v2, v3, v4] st M Q ↔ zQ 96 73 [v0, .int x, v2, v3, v4] (.int x :: st) M Q := zq_go (i := .iload_n 1) (by decide +kernel) rfl
theorem q96_73 : zQ 96 73 [v0, v1, .int x, v3, v4] st M Q ↔ zQ 96 74 [v0, v1, .int x, v3, v4] (.int x :: st) M Q := zq_go (i := .iload_n 2) (by decide +kernel) rfl
theorem q96_74 : zQ 96 74 [v0, v1, v2, v3, .int x] st M Q ↔ zQ 96 76 [v0, v1, v2, v3, .int x] (.int x :: st) M Q := zq_go (i := .iload 4) (by decide +kernel) rfl
theorem q96_76 : zQ 96 76 L (.int x3 :: .int x2 :: .int x1 :: .ref a :: st) M Q ↔ (zcs st ≤ 8 ∧ a < zNC ∧ zk a = 6) ∧ zQ 95 0 [.ref a, .int x1, .int x2, .int x3, .null, .null, .null, .null, .null, .null] [] M (fun r M1 => zQ 96 79 L (zpush r st) M1 Q) := zq_callV (n := 107) (j := 95) (b := false) (As := [.int x1, .int x2, .int x3]) (by decide +kernel) (by decide +kernel) ⟨by decide +kernel, by decide +kernel, rfl, by decide +kernel, by decide +kernel, Nat.le_of_ble_eq_true rfl⟩ rfl
theorem q96_79i : zQ 96 79 [v0, v1, .int y, v3, v4] (.int x :: st) M Q ↔ zQ 96 80 [v0, v1, .int y, .int x, v4] st M Q := zq_stI (i := .istore_n 3) (k := 3) (by decide +kernel) rfl (Nat.le_of_ble_eq_true rfl) rfl rfl
theorem q96_79r : zQ 96 79 [v0, v1, .ref r1, v3, v4] (.int x :: st) M Q ↔ zQ 96 80 [v0, v1, .ref r1, .int x, v4] st M Q := zq_stI (i := .istore_n 3) (k := 3) (by decide +kernel) rfl (Nat.le_of_ble_eq_true rfl) rfl rfl
theorem q96_79n : zQ 96 79 [v0, v1, .null, v3, v4] (.int x :: st) M Q ↔ zQ 96 80 [v0, v1, .null, .int x, v4] st M Q := zq_stI (i := .istore_n 3) (k := 3) (by decide +kernel) rfl (Nat.le_of_ble_eq_true rfl) rfl rfl
theorem q96_80i : zQ 96 80 [v0, v1, v2, .int y, .int x] st M Q ↔ zQ 96 83 [v0, v1, v2, .int y, .int (x + 1)] st M Q := zq_inc (k := 4) (n := 1) (x := x) (v := 1) (by decide +kernel) (by decide +kernel) rfl rfl rfl rfl
theorem q96_80r : zQ 96 80 [v0, v1, v2, .ref r1, .int x] st M Q ↔ zQ 96 83 [v0, v1, v2, .ref r1, .int (x + 1)] st M Q := zq_inc (k := 4) (n := 1) (x := x) (v := 1) (by decide +kernel) (by decide +kernel) rfl rfl rfl rfl
theorem q96_80n : zQ 96 80 [v0, v1, v2, .null, .int x] st M Q ↔ zQ 96 83 [v0, v1, v2, .null, .int (x + 1)] st M Q := zq_inc (k := 4) (n := 1) (x := x) (v := 1) (by decide +kernel) (by decide +kernel) rfl rfl rfl rfl
theorem q96_83 : zQ 96 83 L st M Q ↔ zQ 96 58 L st M Q := zq_jmp (off := (-25)) (by decide +kernel) (by decide)
theorem q96_86 : zQ 96 86 [v0, v1, v2, .int x, v4] st M Q ↔ zQ 96 87 [v0, v1, v2, .int x, v4] (.int x :: st) M Q := zq_go (i := .iload_n 3) (by decide +kernel) rfl
theorem q96_87 : zQ 96 87 L (.int x :: st) M Q ↔ (x = 0 → zQ 96 102 L st M Q) ∧ (¬ x = 0 → zQ 96 90 L st M Q) := zq_br (i := .ifCond .eq 15) (off := 15) (by decide +kernel) rfl (by decide) rfl
theorem q96_90 : zQ 96 90 [.ref a, v1, v2, v3, v4] st M Q ↔ zQ 96 91 [.ref a, v1, v2, v3, v4] (.ref a :: st) M Q := zq_go (i := .aload_n 0) (by decide +kernel) rfl
theorem q96_91 : zQ 96 91 L (.ref a :: st) M Q ↔ (a < zNC ∧ zk a = 6) ∧ zQ 96 94 L (zfv a 10 M :: st) M Q := zq_getf (n := 93) (b := false) (by decide +kernel) (by decide +kernel)
theorem q96_94 : zQ 96 94 [v0, v1, .int x, v3, v4] st M Q ↔ zQ 96 95 [v0, v1, .int x, v3, v4] (.int x :: st) M Q := zq_go (i := .iload_n 2) (by decide +kernel) rfl
theorem q96_95 : zQ 96 95 L (.int y :: .int x :: st) M Q ↔ (x = y → zQ 96 98 L st M Q) ∧ (¬ x = y → zQ 96 102 L st M Q) := zq_bn (i := .if_icmp .ne 7) (off := 7) (by decide +kernel) rfl (by decide) rfl
theorem q96_98 : zQ 96 98 L st M Q ↔ zQ 96 99 L (.int 1 :: st) M Q := zq_con (n := 1) (by decide +kernel) (by decide +kernel) rfl
theorem q96_99 : zQ 96 99 L st M Q ↔ zQ 96 103 L st M Q := zq_jmp (off := 4) (by decide +kernel) (by decide)
theorem q96_102 : zQ 96 102 L st M Q ↔ zQ 96 103 L (.int 0 :: st) M Q := zq_con (n := 0) (by decide +kernel) (by decide +kernel) rfl
theorem q96_103 : zQ 96 103 L [.int x] M Q ↔ (x = 0 ∨ x = 1) ∧ Q (zI x) M := zq_reZ (by decide +kernel) (by decide +kernel)
-- 97 SandKeepersModel.cellsBarred(IIIJ)I
theorem q97_0 : zQ 97 0 [.ref a, v1, v2, v3, v4, v5] st M Q ↔ zQ 97 1 [.ref a, v1, v2, v3, v4, v5] (.ref a :: st) M Q := zq_go (i := .aload_n 0) (by decide +kernel) rfl
theorem q97_1 : zQ 97 1 L (.ref a :: st) M Q ↔ (a < zNC ∧ zk a = 6) ∧ zQ 97 4 L (zfv a 27 M :: st) M Q := zq_getf (n := 64) (b := false) (by decide +kernel) (by decide +kernel)
theorem q97_4 : zQ 97 4 [v0, .int x, v2, v3, v4, v5] st M Q ↔ zQ 97 5 [v0, .int x, v2, v3, v4, v5] (.int x :: st) M Q := zq_go (i := .iload_n 1) (by decide +kernel) rfl
theorem q97_5 : zQ 97 5 L (.int x :: .ref a :: st) M Q ↔ (a < zNC ∧ zk a = 7 ∧ zin x (zn a) = true) ∧ zQ 97 6 L (.int (M a x.toNatClampNeg) :: st) M Q := zq_iald (by decide +kernel)
theorem q97_6 : zQ 97 6 L (.int x :: st) M Q ↔ (x < 0 → zQ 97 25 L st M Q) ∧ (¬ x < 0 → zQ 97 9 L st M Q) := zq_br (i := .ifCond .lt 19) (off := 19) (by decide +kernel) rfl (by decide) rfl
theorem q97_9 : zQ 97 9 [.ref a, v1, v2, v3, v4, v5] st M Q ↔ zQ 97 10 [.ref a, v1, v2, v3, v4, v5] (.ref a :: st) M Q := zq_go (i := .aload_n 0) (by decide +kernel) rfl
theorem q97_10 : zQ 97 10 L (.ref a :: st) M Q ↔ (a < zNC ∧ zk a = 6) ∧ zQ 97 13 L (zfv a 28 M :: st) M Q := zq_getf (n := 67) (b := false) (by decide +kernel) (by decide +kernel)
theorem q97_13 : zQ 97 13 [v0, .int x, v2, v3, v4, v5] st M Q ↔ zQ 97 14 [v0, .int x, v2, v3, v4, v5] (.int x :: st) M Q := zq_go (i := .iload_n 1) (by decide +kernel) rfl
theorem q97_14 : zQ 97 14 L (.int x :: .ref a :: st) M Q ↔ (a < zNC ∧ zk a = 7 ∧ zin x (zn a) = true) ∧ zQ 97 15 L (.int (M a x.toNatClampNeg) :: st) M Q := zq_iald (by decide +kernel)
theorem q97_15 : zQ 97 15 [v0, v1, .int x, v3, v4, v5] st M Q ↔ zQ 97 16 [v0, v1, .int x, v3, v4, v5] (.int x :: st) M Q := zq_go (i := .iload_n 2) (by decide +kernel) rfl
theorem q97_16 : zQ 97 16 L (.int y :: .int x :: st) M Q ↔ (x = y → zQ 97 25 L st M Q) ∧ (¬ x = y → zQ 97 19 L st M Q) := zq_br (i := .if_icmp .eq 9) (off := 9) (by decide +kernel) rfl (by decide) rfl
theorem q97_19 : zQ 97 19 [.ref a, v1, v2, v3, v4, v5] st M Q ↔ zQ 97 20 [.ref a, v1, v2, v3, v4, v5] (.ref a :: st) M Q := zq_go (i := .aload_n 0) (by decide +kernel) rfl
theorem q97_20 : zQ 97 20 L st M Q ↔ zQ 97 21 L (.int 2 :: st) M Q := zq_con (n := 2) (by decide +kernel) (by decide +kernel) rfl
theorem q97_21 : zQ 97 21 L (.int x1 :: .ref a :: st) M Q ↔ (zcs st ≤ 8 ∧ a < zNC ∧ zk a = 6) ∧ zQ 90 0 [.ref a, .int x1] [] M (fun r M1 => zQ 97 24 L (zpush r st) M1 Q) := zq_callV (n := 111) (j := 90) (b := false) (As := [.int x1]) (by decide +kernel) (by decide +kernel) ⟨by decide +kernel, by decide +kernel, rfl, by decide +kernel, by decide +kernel, Nat.le_of_ble_eq_true rfl⟩ rfl
theorem q97_24 : zQ 97 24 L [.int x] M Q ↔ Q (zI x) M := zq_reI (by decide +kernel) (by decide +kernel)
theorem q97_25 : zQ 97 25 [.ref a, v1, v2, v3, v4, v5] st M Q ↔ zQ 97 26 [.ref a, v1, v2, v3, v4, v5] (.ref a :: st) M Q := zq_go (i := .aload_n 0) (by decide +kernel) rfl
theorem q97_26 : zQ 97 26 L (.ref a :: st) M Q ↔ (a < zNC ∧ zk a = 6) ∧ zQ 97 29 L (zfv a 27 M :: st) M Q := zq_getf (n := 64) (b := false) (by decide +kernel) (by decide +kernel)
theorem q97_29 : zQ 97 29 [v0, .int x, v2, v3, v4, v5] st M Q ↔ zQ 97 30 [v0, .int x, v2, v3, v4, v5] (.int x :: st) M Q := zq_go (i := .iload_n 1) (by decide +kernel) rfl
theorem q97_30 : zQ 97 30 L (.int x :: .ref a :: st) M Q ↔ (a < zNC ∧ zk a = 7 ∧ zin x (zn a) = true) ∧ zQ 97 31 L (.int (M a x.toNatClampNeg) :: st) M Q := zq_iald (by decide +kernel)
theorem q97_31 : zQ 97 31 L (.int x :: st) M Q ↔ (0 ≤ x → zQ 97 40 L st M Q) ∧ (¬ 0 ≤ x → zQ 97 34 L st M Q) := zq_br (i := .ifCond .ge 9) (off := 9) (by decide +kernel) rfl (by decide) rfl
theorem q97_34 : zQ 97 34 [.ref a, v1, v2, v3, v4, v5] st M Q ↔ zQ 97 35 [.ref a, v1, v2, v3, v4, v5] (.ref a :: st) M Q := zq_go (i := .aload_n 0) (by decide +kernel) rfl
theorem q97_35 : zQ 97 35 L st M Q ↔ zQ 97 36 L (.int 1 :: st) M Q := zq_con (n := 1) (by decide +kernel) (by decide +kernel) rfl
theorem q97_36 : zQ 97 36 L (.int x1 :: .ref a :: st) M Q ↔ (zcs st ≤ 8 ∧ a < zNC ∧ zk a = 6) ∧ zQ 90 0 [.ref a, .int x1] [] M (fun r M1 => zQ 97 39 L (zpush r st) M1 Q) := zq_callV (n := 111) (j := 90) (b := false) (As := [.int x1]) (by decide +kernel) (by decide +kernel) ⟨by decide +kernel, by decide +kernel, rfl, by decide +kernel, by decide +kernel, Nat.le_of_ble_eq_true rfl⟩ rfl
theorem q97_39 : zQ 97 39 L [.int x] M Q ↔ Q (zI x) M := zq_reI (by decide +kernel) (by decide +kernel)
theorem q97_40 : zQ 97 40 [v0, v1, v2, v3, .long xl, v5] st M Q ↔ zQ 97 42 [v0, v1, v2, v3, .long xl, v5] (.long xl :: st) M Q := zq_go (i := .lload 4) (by decide +kernel) rfl
theorem q97_42 : zQ 97 42 L st M Q ↔ zQ 97 43 L (.long 0 :: st) M Q := zq_lco (n := 0) (by decide +kernel) (by decide +kernel) rfl
theorem q97_43 : zQ 97 43 L (.long yl :: .long xl :: st) M Q ↔ zQ 97 44 L (.int (lg_cmp xl yl) :: st) M Q := zq_go (i := .lcmp) (by decide +kernel) rfl
theorem q97_44 : zQ 97 44 L (.int x :: st) M Q ↔ (0 ≤ x → zQ 97 53 L st M Q) ∧ (¬ 0 ≤ x → zQ 97 47 L st M Q) := zq_br (i := .ifCond .ge 9) (off := 9) (by decide +kernel) rfl (by decide) rfl
theorem q97_47 : zQ 97 47 [.ref a, v1, v2, v3, v4, v5] st M Q ↔ zQ 97 48 [.ref a, v1, v2, v3, v4, v5] (.ref a :: st) M Q := zq_go (i := .aload_n 0) (by decide +kernel) rfl
theorem q97_48 : zQ 97 48 L st M Q ↔ zQ 97 49 L (.int 4 :: st) M Q := zq_con (n := 4) (by decide +kernel) (by decide +kernel) rfl
theorem q97_49 : zQ 97 49 L (.int x1 :: .ref a :: st) M Q ↔ (zcs st ≤ 8 ∧ a < zNC ∧ zk a = 6) ∧ zQ 90 0 [.ref a, .int x1] [] M (fun r M1 => zQ 97 52 L (zpush r st) M1 Q) := zq_callV (n := 111) (j := 90) (b := false) (As := [.int x1]) (by decide +kernel) (by decide +kernel) ⟨by decide +kernel, by decide +kernel, rfl, by decide +kernel, by decide +kernel, Nat.le_of_ble_eq_true rfl⟩ rfl
theorem q97_52 : zQ 97 52 L [.int x] M Q ↔ Q (zI x) M := zq_reI (by decide +kernel) (by decide +kernel)
theorem q97_53 : zQ 97 53 [v0, v1, v2, .int x, v4, v5] st M Q ↔ zQ 97 54 [v0, v1, v2, .int x, v4, v5] (.int x :: st) M Q := zq_go (i := .iload_n 3) (by decide +kernel) rfl
theorem q97_54 : zQ 97 54 [v0, v1, v2, v3, .long xl, v5] st M Q ↔ zQ 97 56 [v0, v1, v2, v3, .long xl, v5] (.long xl :: st) M Q := zq_go (i := .lload 4) (by decide +kernel) rfl
theorem q97_56 : zQ 97 56 [.ref a, v1, v2, v3, v4, v5] st M Q ↔ zQ 97 57 [.ref a, v1, v2, v3, v4, v5] (.ref a :: st) M Q := zq_go (i := .aload_n 0) (by decide +kernel) rfl
theorem q97_57 : zQ 97 57 L (.ref a :: st) M Q ↔ (a < zNC ∧ zk a = 6) ∧ zQ 97 60 L (zfv a 27 M :: st) M Q := zq_getf (n := 64) (b := false) (by decide +kernel) (by decide +kernel)
theorem q97_60 : zQ 97 60 [v0, .int x, v2, v3, v4, v5] st M Q ↔ zQ 97 61 [v0, .int x, v2, v3, v4, v5] (.int x :: st) M Q := zq_go (i := .iload_n 1) (by decide +kernel) rfl
theorem q97_61 : zQ 97 61 L (.int x :: .ref a :: st) M Q ↔ (a < zNC ∧ zk a = 7 ∧ zin x (zn a) = true) ∧ zQ 97 62 L (.int (M a x.toNatClampNeg) :: st) M Q := zq_iald (by decide +kernel)
theorem q97_62 : zQ 97 62 L (.int x2 :: .long l1 :: .int x1 :: st) M Q ↔ zcs st ≤ 8 ∧ zQ 147 0 [.int x1, .long l1, .null, .int x2] [] M (fun r M1 => zQ 97 65 L (zpush r st) M1 Q) := zq_callS (n := 115) (j := 147) (b := false) (As := [.int x1, .long l1, .int x2]) (by decide +kernel) (by decide +kernel) ⟨by decide +kernel, by decide +kernel, rfl, by decide +kernel, by decide +kernel, Nat.le_of_ble_eq_true rfl⟩ rfl
theorem q97_65 : zQ 97 65 L (.int x :: st) M Q ↔ (x = 0 → zQ 97 76 L st M Q) ∧ (¬ x = 0 → zQ 97 68 L st M Q) := zq_br (i := .ifCond .eq 11) (off := 11) (by decide +kernel) rfl (by decide) rfl
theorem q97_68 : zQ 97 68 [.ref a, v1, v2, v3, v4, v5] st M Q ↔ zQ 97 69 [.ref a, v1, v2, v3, v4, v5] (.ref a :: st) M Q := zq_go (i := .aload_n 0) (by decide +kernel) rfl
theorem q97_69 : zQ 97 69 L st M Q ↔ zQ 97 70 L (.int 3 :: st) M Q := zq_con (n := 3) (by decide +kernel) (by decide +kernel) rfl
theorem q97_70 : zQ 97 70 L (.int x1 :: .ref a :: st) M Q ↔ (zcs st ≤ 8 ∧ a < zNC ∧ zk a = 6) ∧ zQ 90 0 [.ref a, .int x1] [] M (fun r M1 => zQ 97 73 L (zpush r st) M1 Q) := zq_callV (n := 111) (j := 90) (b := false) (As := [.int x1]) (by decide +kernel) (by decide +kernel) ⟨by decide +kernel, by decide +kernel, rfl, by decide +kernel, by decide +kernel, Nat.le_of_ble_eq_true rfl⟩ rfl
theorem q97_73 : zQ 97 73 L st M Q ↔ zQ 97 77 L st M Q := zq_jmp (off := 4) (by decide +kernel) (by decide)
theorem q97_76 : zQ 97 76 L st M Q ↔ zQ 97 77 L (.int 0 :: st) M Q := zq_con (n := 0) (by decide +kernel) (by decide +kernel) rfl
theorem q97_77 : zQ 97 77 L [.int x] M Q ↔ Q (zI x) M := zq_reI (by decide +kernel) (by decide +kernel)
-- 98 SandKeepersModel.see(IIII)I
theorem q98_0 : zQ 98 0 [v0, .int x, v2, v3, v4, v5, v6] st M Q ↔ zQ 98 1 [v0, .int x, v2, v3, v4, v5, v6] (.int x :: st) M Q := zq_go (i := .iload_n 1) (by decide +kernel) rfl
theorem q98_1 : zQ 98 1 L (.int x1 :: st) M Q ↔ zcs st ≤ 8 ∧ zQ 141 0 [.int x1] [] M (fun r M1 => zQ 98 4 L (zpush r st) M1 Q) := zq_callS (n := 119) (j := 141) (b := false) (As := [.int x1]) (by decide +kernel) (by decide +kernel) ⟨by decide +kernel, by decide +kernel, rfl, by decide +kernel, by decide +kernel, Nat.le_of_ble_eq_true rfl⟩ rfl
theorem q98_4 : zQ 98 4 L (.int x :: st) M Q ↔ (x = 0 → zQ 98 13 L st M Q) ∧ (¬ x = 0 → zQ 98 7 L st M Q) := zq_br (i := .ifCond .eq 9) (off := 9) (by decide +kernel) rfl (by decide) rfl
theorem q98_7 : zQ 98 7 [.ref a, v1, v2, v3, v4, v5, v6] st M Q ↔ zQ 98 8 [.ref a, v1, v2, v3, v4, v5, v6] (.ref a :: st) M Q := zq_go (i := .aload_n 0) (by decide +kernel) rfl
theorem q98_8 : zQ 98 8 L st M Q ↔ zQ 98 9 L (.int (-1) :: st) M Q := zq_con (n := (-1)) (by decide +kernel) (by decide +kernel) rfl
theorem q98_9 : zQ 98 9 L (.int x1 :: .ref a :: st) M Q ↔ (zcs st ≤ 8 ∧ a < zNC ∧ zk a = 6) ∧ zQ 89 0 [.ref a, .int x1] [] M (fun r M1 => zQ 98 12 L (zpush r st) M1 Q) := zq_callV (n := 123) (j := 89) (b := false) (As := [.int x1]) (by decide +kernel) (by decide +kernel) ⟨by decide +kernel, by decide +kernel, rfl, by decide +kernel, by decide +kernel, Nat.le_of_ble_eq_true rfl⟩ rfl
theorem q98_12 : zQ 98 12 L [.int x] M Q ↔ Q (zI x) M := zq_reI (by decide +kernel) (by decide +kernel)
theorem q98_13 : zQ 98 13 [v0, v1, .int x, v3, v4, v5, v6] st M Q ↔ zQ 98 14 [v0, v1, .int x, v3, v4, v5, v6] (.int x :: st) M Q := zq_go (i := .iload_n 2) (by decide +kernel) rfl
theorem q98_14 : zQ 98 14 L (.int x :: st) M Q ↔ zQ 98 15 L (.long x.toInt64 :: st) M Q := zq_go (i := .i2l) (by decide +kernel) rfl
theorem q98_15 : zQ 98 15 L st M Q ↔ zQ 98 16 L (.long 0 :: st) M Q := zq_lco (n := 0) (by decide +kernel) (by decide +kernel) rfl
theorem q98_16 : zQ 98 16 L st M Q ↔ zQ 98 19 L (.long 2 :: st) M Q := zq_ld2 (n := 126) (by decide +kernel) (by decide +kernel) rfl
theorem q98_19 : zQ 98 19 L (.long l3 :: .long l2 :: .long l1 :: st) M Q ↔ zcs st ≤ 8 ∧ zQ 84 0 [.long l1, .null, .long l2, .null, .long l3, .null] [] M (fun r M1 => zQ 98 22 L (zpush r st) M1 Q) := zq_callS (n := 89) (j := 84) (b := false) (As := [.long l1, .long l2, .long l3]) (by decide +kernel) (by decide +kernel) ⟨by decide +kernel, by decide +kernel, rfl, by decide +kernel, by decide +kernel, Nat.le_of_ble_eq_true rfl⟩ rfl
theorem q98_22 : zQ 98 22 L (.int x :: st) M Q ↔ (x = 0 → zQ 98 25 L st M Q) ∧ (¬ x = 0 → zQ 98 32 L st M Q) := zq_bn (i := .ifCond .ne 10) (off := 10) (by decide +kernel) rfl (by decide) rfl
theorem q98_25 : zQ 98 25 [.ref a, v1, v2, v3, v4, v5, v6] st M Q ↔ zQ 98 26 [.ref a, v1, v2, v3, v4, v5, v6] (.ref a :: st) M Q := zq_go (i := .aload_n 0) (by decide +kernel) rfl
theorem q98_26 : zQ 98 26 L st M Q ↔ zQ 98 28 L (.int (-2) :: st) M Q := zq_bip (n := (-2)) (by decide +kernel) (by decide +kernel) rfl
theorem q98_28 : zQ 98 28 L (.int x1 :: .ref a :: st) M Q ↔ (zcs st ≤ 8 ∧ a < zNC ∧ zk a = 6) ∧ zQ 89 0 [.ref a, .int x1] [] M (fun r M1 => zQ 98 31 L (zpush r st) M1 Q) := zq_callV (n := 123) (j := 89) (b := false) (As := [.int x1]) (by decide +kernel) (by decide +kernel) ⟨by decide +kernel, by decide +kernel, rfl, by decide +kernel, by decide +kernel, Nat.le_of_ble_eq_true rfl⟩ rfl
theorem q98_31 : zQ 98 31 L [.int x] M Q ↔ Q (zI x) M := zq_reI (by decide +kernel) (by decide +kernel)
theorem q98_32 : zQ 98 32 [.ref a, v1, v2, v3, v4, v5, v6] st M Q ↔ zQ 98 33 [.ref a, v1, v2, v3, v4, v5, v6] (.ref a :: st) M Q := zq_go (i := .aload_n 0) (by decide +kernel) rfl
theorem q98_33 : zQ 98 33 [v0, .int x, v2, v3, v4, v5, v6] st M Q ↔ zQ 98 34 [v0, .int x, v2, v3, v4, v5, v6] (.int x :: st) M Q := zq_go (i := .iload_n 1) (by decide +kernel) rfl
theorem q98_34 : zQ 98 34 [v0, v1, .int x, v3, v4, v5, v6] st M Q ↔ zQ 98 35 [v0, v1, .int x, v3, v4, v5, v6] (.int x :: st) M Q := zq_go (i := .iload_n 2) (by decide +kernel) rfl
theorem q98_35 : zQ 98 35 [v0, v1, v2, .int x, v4, v5, v6] st M Q ↔ zQ 98 36 [v0, v1, v2, .int x, v4, v5, v6] (.int x :: st) M Q := zq_go (i := .iload_n 3) (by decide +kernel) rfl
theorem q98_36 : zQ 98 36 [v0, v1, v2, v3, .int x, v5, v6] st M Q ↔ zQ 98 38 [v0, v1, v2, v3, .int x, v5, v6] (.int x :: st) M Q := zq_go (i := .iload 4) (by decide +kernel) rfl
theorem q98_38 : zQ 98 38 L (.int x :: st) M Q ↔ zQ 98 39 L (.long x.toInt64 :: st) M Q := zq_go (i := .i2l) (by decide +kernel) rfl
theorem q98_39 : zQ 98 39 L (.long l1 :: .int x3 :: .int x2 :: .int x1 :: .ref a :: st) M Q ↔ (zcs st ≤ 8 ∧ a < zNC ∧ zk a = 6) ∧ zQ 97 0 [.ref a, .int x1, .int x2, .int x3, .long l1, .null] [] M (fun r M1 => zQ 98 42 L (zpush r st) M1 Q) := zq_callV (n := 128) (j := 97) (b := false) (As := [.int x1, .int x2, .int x3, .long l1]) (by decide +kernel) (by decide +kernel) ⟨by decide +kernel, by decide +kernel, rfl, by decide +kernel, by decide +kernel, Nat.le_of_ble_eq_true rfl⟩ rfl
theorem q98_42i : zQ 98 42 [v0, v1, v2, v3, .int y, v5, v6] (.int x :: st) M Q ↔ zQ 98 44 [v0, v1, v2, v3, .int y, .int x, v6] st M Q := zq_stI (i := .istore 5) (k := 5) (by decide +kernel) rfl (Nat.le_of_ble_eq_true rfl) rfl rfl
theorem q98_42r : zQ 98 42 [v0, v1, v2, v3, .ref r1, v5, v6] (.int x :: st) M Q ↔ zQ 98 44 [v0, v1, v2, v3, .ref r1, .int x, v6] st M Q := zq_stI (i := .istore 5) (k := 5) (by decide +kernel) rfl (Nat.le_of_ble_eq_true rfl) rfl rfl
theorem q98_42n : zQ 98 42 [v0, v1, v2, v3, .null, v5, v6] (.int x :: st) M Q ↔ zQ 98 44 [v0, v1, v2, v3, .null, .int x, v6] st M Q := zq_stI (i := .istore 5) (k := 5) (by decide +kernel) rfl (Nat.le_of_ble_eq_true rfl) rfl rfl
theorem q98_44 : zQ 98 44 [v0, v1, v2, v3, v4, .int x, v6] st M Q ↔ zQ 98 46 [v0, v1, v2, v3, v4, .int x, v6] (.int x :: st) M Q := zq_go (i := .iload 5) (by decide +kernel) rfl
theorem q98_46 : zQ 98 46 L (.int x :: st) M Q ↔ (0 ≤ x → zQ 98 52 L st M Q) ∧ (¬ 0 ≤ x → zQ 98 49 L st M Q) := zq_br (i := .ifCond .ge 6) (off := 6) (by decide +kernel) rfl (by decide) rfl
theorem q98_49 : zQ 98 49 [v0, v1, v2, v3, v4, .int x, v6] st M Q ↔ zQ 98 51 [v0, v1, v2, v3, v4, .int x, v6] (.int x :: st) M Q := zq_go (i := .iload 5) (by decide +kernel) rfl
theorem q98_51 : zQ 98 51 L [.int x] M Q ↔ Q (zI x) M := zq_reI (by decide +kernel) (by decide +kernel)
theorem q98_52 : zQ 98 52 [.ref a, v1, v2, v3, v4, v5, v6] st M Q ↔ zQ 98 53 [.ref a, v1, v2, v3, v4, v5, v6] (.ref a :: st) M Q := zq_go (i := .aload_n 0) (by decide +kernel) rfl
theorem q98_53 : zQ 98 53 L st M Q ↔ zQ 98 55 L (.int 60 :: st) M Q := zq_bip (n := 60) (by decide +kernel) (by decide +kernel) rfl
theorem q98_55 : zQ 98 55 [v0, .int x, v2, v3, v4, v5, v6] st M Q ↔ zQ 98 56 [v0, .int x, v2, v3, v4, v5, v6] (.int x :: st) M Q := zq_go (i := .iload_n 1) (by decide +kernel) rfl
theorem q98_56 : zQ 98 56 L (.int y :: .int x :: st) M Q ↔ zQ 98 57 L (.int (x * y) :: st) M Q := zq_go (i := .imul) (by decide +kernel) rfl
theorem q98_57 : zQ 98 57 [v0, v1, v2, .int x, v4, v5, v6] st M Q ↔ zQ 98 58 [v0, v1, v2, .int x, v4, v5, v6] (.int x :: st) M Q := zq_go (i := .iload_n 3) (by decide +kernel) rfl
theorem q98_58 : zQ 98 58 L (.int y :: .int x :: st) M Q ↔ zQ 98 59 L (.int (x + y) :: st) M Q := zq_go (i := .iadd) (by decide +kernel) rfl
theorem q98_59 : zQ 98 59 [v0, v1, v2, v3, .int x, v5, v6] st M Q ↔ zQ 98 61 [v0, v1, v2, v3, .int x, v5, v6] (.int x :: st) M Q := zq_go (i := .iload 4) (by decide +kernel) rfl
theorem q98_61 : zQ 98 61 L (.int x2 :: .int x1 :: .ref a :: st) M Q ↔ (zcs st ≤ 8 ∧ a < zNC ∧ zk a = 6) ∧ zQ 96 0 [.ref a, .int x1, .int x2, .null, .null] [] M (fun r M1 => zQ 98 64 L (zpush r st) M1 Q) := zq_callV (n := 132) (j := 96) (b := false) (As := [.int x1, .int x2]) (by decide +kernel) (by decide +kernel) ⟨by decide +kernel, by decide +kernel, rfl, by decide +kernel, by decide +kernel, Nat.le_of_ble_eq_true rfl⟩ rfl
theorem q98_64 : zQ 98 64 L (.int x :: st) M Q ↔ (x = 0 → zQ 98 67 L st M Q) ∧ (¬ x = 0 → zQ 98 79 L st M Q) := zq_bn (i := .ifCond .ne 15) (off := 15) (by decide +kernel) rfl (by decide) rfl
theorem q98_67 : zQ 98 67 [.ref a, v1, v2, v3, v4, v5, v6] st M Q ↔ zQ 98 68 [.ref a, v1, v2, v3, v4, v5, v6] (.ref a :: st) M Q := zq_go (i := .aload_n 0) (by decide +kernel) rfl
theorem q98_68 : zQ 98 68 L st M Q ↔ zQ 98 70 L (.int (-100) :: st) M Q := zq_bip (n := (-100)) (by decide +kernel) (by decide +kernel) rfl
theorem q98_70 : zQ 98 70 [.ref a, v1, v2, v3, v4, v5, v6] st M Q ↔ zQ 98 71 [.ref a, v1, v2, v3, v4, v5, v6] (.ref a :: st) M Q := zq_go (i := .aload_n 0) (by decide +kernel) rfl
theorem q98_71 : zQ 98 71 L (.ref a :: st) M Q ↔ (a < zNC ∧ zk a = 6) ∧ zQ 98 74 L (zfv a 10 M :: st) M Q := zq_getf (n := 93) (b := false) (by decide +kernel) (by decide +kernel)
theorem q98_74 : zQ 98 74 L (.int y :: .int x :: st) M Q ↔ zQ 98 75 L (.int (x - y) :: st) M Q := zq_go (i := .isub) (by decide +kernel) rfl
theorem q98_75 : zQ 98 75 L (.int x1 :: .ref a :: st) M Q ↔ (zcs st ≤ 8 ∧ a < zNC ∧ zk a = 6) ∧ zQ 89 0 [.ref a, .int x1] [] M (fun r M1 => zQ 98 78 L (zpush r st) M1 Q) := zq_callV (n := 123) (j := 89) (b := false) (As := [.int x1]) (by decide +kernel) (by decide +kernel) ⟨by decide +kernel, by decide +kernel, rfl, by decide +kernel, by decide +kernel, Nat.le_of_ble_eq_true rfl⟩ rfl
theorem q98_78 : zQ 98 78 L [.int x] M Q ↔ Q (zI x) M := zq_reI (by decide +kernel) (by decide +kernel)
theorem q98_79 : zQ 98 79 [.ref a, v1, v2, v3, v4, v5, v6] st M Q ↔ zQ 98 80 [.ref a, v1, v2, v3, v4, v5, v6] (.ref a :: st) M Q := zq_go (i := .aload_n 0) (by decide +kernel) rfl
theorem q98_80 : zQ 98 80 [.ref a, v1, v2, v3, v4, v5, v6] st M Q ↔ zQ 98 81 [.ref a, v1, v2, v3, v4, v5, v6] (.ref a :: st) M Q := zq_go (i := .aload_n 0) (by decide +kernel) rfl
theorem q98_81 : zQ 98 81 L (.ref a :: st) M Q ↔ (a < zNC ∧ zk a = 6) ∧ zQ 98 84 L (zfv a 11 M :: st) M Q := zq_getf (n := 104) (b := false) (by decide +kernel) (by decide +kernel)
theorem q98_84 : zQ 98 84 L (.int x :: .ref a :: st) M Q ↔ (a < zNC ∧ zk a = 6 ∧ zf a 1 = none) ∧ zQ 98 87 L st (zup M a 1 x) Q := zq_putf (n := 86) (b := false) (by decide +kernel) (by decide +kernel) (by decide +kernel)
theorem q98_87 : zQ 98 87 [.ref a, v1, v2, v3, v4, v5, v6] st M Q ↔ zQ 98 88 [.ref a, v1, v2, v3, v4, v5, v6] (.ref a :: st) M Q := zq_go (i := .aload_n 0) (by decide +kernel) rfl
theorem q98_88 : zQ 98 88 L st M Q ↔ zQ 98 89 L (.int 0 :: st) M Q := zq_con (n := 0) (by decide +kernel) (by decide +kernel) rfl
theorem q98_89 : zQ 98 89 L (.int x :: .ref a :: st) M Q ↔ (a < zNC ∧ zk a = 6 ∧ zf a 2 = none) ∧ zQ 98 92 L st (zup M a 2 x) Q := zq_putf (n := 136) (b := false) (by decide +kernel) (by decide +kernel) (by decide +kernel)
theorem q98_92 : zQ 98 92 [.ref a, v1, v2, v3, v4, v5, v6] st M Q ↔ zQ 98 93 [.ref a, v1, v2, v3, v4, v5, v6] (.ref a :: st) M Q := zq_go (i := .aload_n 0) (by decide +kernel) rfl
theorem q98_93 : zQ 98 93 L st M Q ↔ zQ 98 94 L (.int 0 :: st) M Q := zq_con (n := 0) (by decide +kernel) (by decide +kernel) rfl
theorem q98_94 : zQ 98 94 L (.int x :: .ref a :: st) M Q ↔ (a < zNC ∧ zk a = 6 ∧ zf a 9 = none) ∧ zQ 98 97 L st (zup M a 9 x) Q := zq_putf (n := 139) (b := false) (by decide +kernel) (by decide +kernel) (by decide +kernel)
theorem q98_97 : zQ 98 97 L st M Q ↔ zQ 98 98 L (.int 0 :: st) M Q := zq_con (n := 0) (by decide +kernel) (by decide +kernel) rfl
theorem q98_98i : zQ 98 98 [v0, v1, v2, v3, v4, .int y, v6] (.int x :: st) M Q ↔ zQ 98 100 [v0, v1, v2, v3, v4, .int y, .int x] st M Q := zq_stI (i := .istore 6) (k := 6) (by decide +kernel) rfl (Nat.le_of_ble_eq_true rfl) rfl rfl
theorem q98_98r : zQ 98 98 [v0, v1, v2, v3, v4, .ref r1, v6] (.int x :: st) M Q ↔ zQ 98 100 [v0, v1, v2, v3, v4, .ref r1, .int x] st M Q := zq_stI (i := .istore 6) (k := 6) (by decide +kernel) rfl (Nat.le_of_ble_eq_true rfl) rfl rfl
theorem q98_98n : zQ 98 98 [v0, v1, v2, v3, v4, .null, v6] (.int x :: st) M Q ↔ zQ 98 100 [v0, v1, v2, v3, v4, .null, .int x] st M Q := zq_stI (i := .istore 6) (k := 6) (by decide +kernel) rfl (Nat.le_of_ble_eq_true rfl) rfl rfl
theorem q98_100 : zQ 98 100 [v0, v1, v2, v3, v4, v5, .int x] st M Q ↔ zQ 98 102 [v0, v1, v2, v3, v4, v5, .int x] (.int x :: st) M Q := zq_go (i := .iload 6) (by decide +kernel) rfl
theorem q98_102 : zQ 98 102 [.ref a, v1, v2, v3, v4, v5, v6] st M Q ↔ zQ 98 103 [.ref a, v1, v2, v3, v4, v5, v6] (.ref a :: st) M Q := zq_go (i := .aload_n 0) (by decide +kernel) rfl
theorem q98_103 : zQ 98 103 L (.ref a :: st) M Q ↔ (a < zNC ∧ zk a = 6) ∧ zQ 98 106 L (zfv a 1 M :: st) M Q := zq_getf (n := 86) (b := false) (by decide +kernel) (by decide +kernel)
theorem q98_106 : zQ 98 106 L (.int y :: .int x :: st) M Q ↔ (y ≤ x → zQ 98 199 L st M Q) ∧ (¬ y ≤ x → zQ 98 109 L st M Q) := zq_br (i := .if_icmp .ge 93) (off := 93) (by decide +kernel) rfl (by decide) rfl
theorem q98_109 : zQ 98 109 [.ref a, v1, v2, v3, v4, v5, v6] st M Q ↔ zQ 98 110 [.ref a, v1, v2, v3, v4, v5, v6] (.ref a :: st) M Q := zq_go (i := .aload_n 0) (by decide +kernel) rfl
theorem q98_110 : zQ 98 110 L (.ref a :: st) M Q ↔ (a < zNC ∧ zk a = 6) ∧ zQ 98 113 L (zfv a 3 M :: st) M Q := zq_getf (n := 7) (b := false) (by decide +kernel) (by decide +kernel)
theorem q98_113 : zQ 98 113 [v0, v1, v2, v3, v4, v5, .int x] st M Q ↔ zQ 98 115 [v0, v1, v2, v3, v4, v5, .int x] (.int x :: st) M Q := zq_go (i := .iload 6) (by decide +kernel) rfl
theorem q98_115 : zQ 98 115 [.ref a, v1, v2, v3, v4, v5, v6] st M Q ↔ zQ 98 116 [.ref a, v1, v2, v3, v4, v5, v6] (.ref a :: st) M Q := zq_go (i := .aload_n 0) (by decide +kernel) rfl
theorem q98_116 : zQ 98 116 L (.ref a :: st) M Q ↔ (a < zNC ∧ zk a = 6) ∧ zQ 98 119 L (zfv a 12 M :: st) M Q := zq_getf (n := 28) (b := false) (by decide +kernel) (by decide +kernel)
theorem q98_119 : zQ 98 119 [v0, v1, v2, v3, v4, v5, .int x] st M Q ↔ zQ 98 121 [v0, v1, v2, v3, v4, v5, .int x] (.int x :: st) M Q := zq_go (i := .iload 6) (by decide +kernel) rfl
theorem q98_121 : zQ 98 121 L (.int x :: .ref a :: st) M Q ↔ (a < zNC ∧ zk a = 7 ∧ zin x (zn a) = true) ∧ zQ 98 122 L (.int (M a x.toNatClampNeg) :: st) M Q := zq_iald (by decide +kernel)
theorem q98_122 : zQ 98 122 L (.int x :: .int y :: .ref a :: st) M Q ↔ (a < zNC ∧ zk a = 7 ∧ zin y (zn a) = true) ∧ zQ 98 123 L st (zup M a y.toNatClampNeg x) Q := zq_iast (by decide +kernel)
theorem q98_123 : zQ 98 123 [.ref a, v1, v2, v3, v4, v5, v6] st M Q ↔ zQ 98 124 [.ref a, v1, v2, v3, v4, v5, v6] (.ref a :: st) M Q := zq_go (i := .aload_n 0) (by decide +kernel) rfl
theorem q98_124 : zQ 98 124 L (.ref a :: st) M Q ↔ (a < zNC ∧ zk a = 6) ∧ zQ 98 127 L (zfv a 4 M :: st) M Q := zq_getf (n := 13) (b := false) (by decide +kernel) (by decide +kernel)
theorem q98_127 : zQ 98 127 [v0, v1, v2, v3, v4, v5, .int x] st M Q ↔ zQ 98 129 [v0, v1, v2, v3, v4, v5, .int x] (.int x :: st) M Q := zq_go (i := .iload 6) (by decide +kernel) rfl
theorem q98_129 : zQ 98 129 [.ref a, v1, v2, v3, v4, v5, v6] st M Q ↔ zQ 98 130 [.ref a, v1, v2, v3, v4, v5, v6] (.ref a :: st) M Q := zq_go (i := .aload_n 0) (by decide +kernel) rfl
theorem q98_130 : zQ 98 130 L (.ref a :: st) M Q ↔ (a < zNC ∧ zk a = 6) ∧ zQ 98 133 L (zfv a 13 M :: st) M Q := zq_getf (n := 31) (b := false) (by decide +kernel) (by decide +kernel)
theorem q98_133 : zQ 98 133 [v0, v1, v2, v3, v4, v5, .int x] st M Q ↔ zQ 98 135 [v0, v1, v2, v3, v4, v5, .int x] (.int x :: st) M Q := zq_go (i := .iload 6) (by decide +kernel) rfl
theorem q98_135 : zQ 98 135 L (.int x :: .ref a :: st) M Q ↔ (a < zNC ∧ zk a = 7 ∧ zin x (zn a) = true) ∧ zQ 98 136 L (.int (M a x.toNatClampNeg) :: st) M Q := zq_iald (by decide +kernel)
theorem q98_136 : zQ 98 136 L (.int x :: .int y :: .ref a :: st) M Q ↔ (a < zNC ∧ zk a = 7 ∧ zin y (zn a) = true) ∧ zQ 98 137 L st (zup M a y.toNatClampNeg x) Q := zq_iast (by decide +kernel)
theorem q98_137 : zQ 98 137 [.ref a, v1, v2, v3, v4, v5, v6] st M Q ↔ zQ 98 138 [.ref a, v1, v2, v3, v4, v5, v6] (.ref a :: st) M Q := zq_go (i := .aload_n 0) (by decide +kernel) rfl
theorem q98_138 : zQ 98 138 L (.ref a :: st) M Q ↔ (a < zNC ∧ zk a = 6) ∧ zQ 98 141 L (zfv a 5 M :: st) M Q := zq_getf (n := 16) (b := false) (by decide +kernel) (by decide +kernel)
theorem q98_141 : zQ 98 141 [v0, v1, v2, v3, v4, v5, .int x] st M Q ↔ zQ 98 143 [v0, v1, v2, v3, v4, v5, .int x] (.int x :: st) M Q := zq_go (i := .iload 6) (by decide +kernel) rfl
theorem q98_143 : zQ 98 143 [.ref a, v1, v2, v3, v4, v5, v6] st M Q ↔ zQ 98 144 [.ref a, v1, v2, v3, v4, v5, v6] (.ref a :: st) M Q := zq_go (i := .aload_n 0) (by decide +kernel) rfl
theorem q98_144 : zQ 98 144 L (.ref a :: st) M Q ↔ (a < zNC ∧ zk a = 6) ∧ zQ 98 147 L (zfv a 13 M :: st) M Q := zq_getf (n := 31) (b := false) (by decide +kernel) (by decide +kernel)
theorem q98_147 : zQ 98 147 [v0, v1, v2, v3, v4, v5, .int x] st M Q ↔ zQ 98 149 [v0, v1, v2, v3, v4, v5, .int x] (.int x :: st) M Q := zq_go (i := .iload 6) (by decide +kernel) rfl
theorem q98_149 : zQ 98 149 L (.int x :: .ref a :: st) M Q ↔ (a < zNC ∧ zk a = 7 ∧ zin x (zn a) = true) ∧ zQ 98 150 L (.int (M a x.toNatClampNeg) :: st) M Q := zq_iald (by decide +kernel)
theorem q98_150 : zQ 98 150 L (.int x :: .int y :: .ref a :: st) M Q ↔ (a < zNC ∧ zk a = 7 ∧ zin y (zn a) = true) ∧ zQ 98 151 L st (zup M a y.toNatClampNeg x) Q := zq_iast (by decide +kernel)
theorem q98_151 : zQ 98 151 [.ref a, v1, v2, v3, v4, v5, v6] st M Q ↔ zQ 98 152 [.ref a, v1, v2, v3, v4, v5, v6] (.ref a :: st) M Q := zq_go (i := .aload_n 0) (by decide +kernel) rfl
theorem q98_152 : zQ 98 152 L (.ref a :: st) M Q ↔ (a < zNC ∧ zk a = 6) ∧ zQ 98 155 L (zfv a 6 M :: st) M Q := zq_getf (n := 19) (b := false) (by decide +kernel) (by decide +kernel)
theorem q98_155 : zQ 98 155 [v0, v1, v2, v3, v4, v5, .int x] st M Q ↔ zQ 98 157 [v0, v1, v2, v3, v4, v5, .int x] (.int x :: st) M Q := zq_go (i := .iload 6) (by decide +kernel) rfl
theorem q98_157 : zQ 98 157 [.ref a, v1, v2, v3, v4, v5, v6] st M Q ↔ zQ 98 158 [.ref a, v1, v2, v3, v4, v5, v6] (.ref a :: st) M Q := zq_go (i := .aload_n 0) (by decide +kernel) rfl
theorem q98_158 : zQ 98 158 L (.ref a :: st) M Q ↔ (a < zNC ∧ zk a = 6) ∧ zQ 98 161 L (zfv a 14 M :: st) M Q := zq_getf (n := 34) (b := false) (by decide +kernel) (by decide +kernel)
theorem q98_161 : zQ 98 161 [v0, v1, v2, v3, v4, v5, .int x] st M Q ↔ zQ 98 163 [v0, v1, v2, v3, v4, v5, .int x] (.int x :: st) M Q := zq_go (i := .iload 6) (by decide +kernel) rfl
theorem q98_163 : zQ 98 163 L (.int x :: .ref a :: st) M Q ↔ (a < zNC ∧ zk a = 7 ∧ zin x (zn a) = true) ∧ zQ 98 164 L (.int (M a x.toNatClampNeg) :: st) M Q := zq_iald (by decide +kernel)
theorem q98_164 : zQ 98 164 L (.int x :: .int y :: .ref a :: st) M Q ↔ (a < zNC ∧ zk a = 7 ∧ zin y (zn a) = true) ∧ zQ 98 165 L st (zup M a y.toNatClampNeg x) Q := zq_iast (by decide +kernel)
theorem q98_165 : zQ 98 165 [.ref a, v1, v2, v3, v4, v5, v6] st M Q ↔ zQ 98 166 [.ref a, v1, v2, v3, v4, v5, v6] (.ref a :: st) M Q := zq_go (i := .aload_n 0) (by decide +kernel) rfl
theorem q98_166 : zQ 98 166 L (.ref a :: st) M Q ↔ (a < zNC ∧ zk a = 6) ∧ zQ 98 169 L (zfv a 7 M :: st) M Q := zq_getf (n := 22) (b := false) (by decide +kernel) (by decide +kernel)
theorem q98_169 : zQ 98 169 [v0, v1, v2, v3, v4, v5, .int x] st M Q ↔ zQ 98 171 [v0, v1, v2, v3, v4, v5, .int x] (.int x :: st) M Q := zq_go (i := .iload 6) (by decide +kernel) rfl
theorem q98_171 : zQ 98 171 [.ref a, v1, v2, v3, v4, v5, v6] st M Q ↔ zQ 98 172 [.ref a, v1, v2, v3, v4, v5, v6] (.ref a :: st) M Q := zq_go (i := .aload_n 0) (by decide +kernel) rfl
theorem q98_172 : zQ 98 172 L (.ref a :: st) M Q ↔ (a < zNC ∧ zk a = 6) ∧ zQ 98 175 L (zfv a 15 M :: st) M Q := zq_getf (n := 37) (b := false) (by decide +kernel) (by decide +kernel)
theorem q98_175 : zQ 98 175 [v0, v1, v2, v3, v4, v5, .int x] st M Q ↔ zQ 98 177 [v0, v1, v2, v3, v4, v5, .int x] (.int x :: st) M Q := zq_go (i := .iload 6) (by decide +kernel) rfl
theorem q98_177 : zQ 98 177 L (.int x :: .ref a :: st) M Q ↔ (a < zNC ∧ zk a = 7 ∧ zin x (zn a) = true) ∧ zQ 98 178 L (.int (M a x.toNatClampNeg) :: st) M Q := zq_iald (by decide +kernel)
theorem q98_178 : zQ 98 178 L (.int x :: .int y :: .ref a :: st) M Q ↔ (a < zNC ∧ zk a = 7 ∧ zin y (zn a) = true) ∧ zQ 98 179 L st (zup M a y.toNatClampNeg x) Q := zq_iast (by decide +kernel)
theorem q98_179 : zQ 98 179 [.ref a, v1, v2, v3, v4, v5, v6] st M Q ↔ zQ 98 180 [.ref a, v1, v2, v3, v4, v5, v6] (.ref a :: st) M Q := zq_go (i := .aload_n 0) (by decide +kernel) rfl
theorem q98_180 : zQ 98 180 L (.ref a :: st) M Q ↔ (a < zNC ∧ zk a = 6) ∧ zQ 98 183 L (zfv a 8 M :: st) M Q := zq_getf (n := 25) (b := false) (by decide +kernel) (by decide +kernel)
theorem q98_183 : zQ 98 183 [v0, v1, v2, v3, v4, v5, .int x] st M Q ↔ zQ 98 185 [v0, v1, v2, v3, v4, v5, .int x] (.int x :: st) M Q := zq_go (i := .iload 6) (by decide +kernel) rfl
theorem q98_185 : zQ 98 185 [.ref a, v1, v2, v3, v4, v5, v6] st M Q ↔ zQ 98 186 [.ref a, v1, v2, v3, v4, v5, v6] (.ref a :: st) M Q := zq_go (i := .aload_n 0) (by decide +kernel) rfl
theorem q98_186 : zQ 98 186 L (.ref a :: st) M Q ↔ (a < zNC ∧ zk a = 6) ∧ zQ 98 189 L (zfv a 16 M :: st) M Q := zq_getf (n := 40) (b := false) (by decide +kernel) (by decide +kernel)
theorem q98_189 : zQ 98 189 [v0, v1, v2, v3, v4, v5, .int x] st M Q ↔ zQ 98 191 [v0, v1, v2, v3, v4, v5, .int x] (.int x :: st) M Q := zq_go (i := .iload 6) (by decide +kernel) rfl
theorem q98_191 : zQ 98 191 L (.int x :: .ref a :: st) M Q ↔ (a < zNC ∧ zk a = 7 ∧ zin x (zn a) = true) ∧ zQ 98 192 L (.int (M a x.toNatClampNeg) :: st) M Q := zq_iald (by decide +kernel)
theorem q98_192 : zQ 98 192 L (.int x :: .int y :: .ref a :: st) M Q ↔ (a < zNC ∧ zk a = 7 ∧ zin y (zn a) = true) ∧ zQ 98 193 L st (zup M a y.toNatClampNeg x) Q := zq_iast (by decide +kernel)
theorem q98_193i : zQ 98 193 [v0, v1, v2, v3, v4, .int y, .int x] st M Q ↔ zQ 98 196 [v0, v1, v2, v3, v4, .int y, .int (x + 1)] st M Q := zq_inc (k := 6) (n := 1) (x := x) (v := 1) (by decide +kernel) (by decide +kernel) rfl rfl rfl rfl
theorem q98_193r : zQ 98 193 [v0, v1, v2, v3, v4, .ref r1, .int x] st M Q ↔ zQ 98 196 [v0, v1, v2, v3, v4, .ref r1, .int (x + 1)] st M Q := zq_inc (k := 6) (n := 1) (x := x) (v := 1) (by decide +kernel) (by decide +kernel) rfl rfl rfl rfl
theorem q98_193n : zQ 98 193 [v0, v1, v2, v3, v4, .null, .int x] st M Q ↔ zQ 98 196 [v0, v1, v2, v3, v4, .null, .int (x + 1)] st M Q := zq_inc (k := 6) (n := 1) (x := x) (v := 1) (by decide +kernel) (by decide +kernel) rfl rfl rfl rfl
theorem q98_196 : zQ 98 196 L st M Q ↔ zQ 98 100 L st M Q := zq_jmp (off := (-96)) (by decide +kernel) (by decide)
theorem q98_199 : zQ 98 199 [.ref a, v1, v2, v3, v4, v5, v6] st M Q ↔ zQ 98 200 [.ref a, v1, v2, v3, v4, v5, v6] (.ref a :: st) M Q := zq_go (i := .aload_n 0) (by decide +kernel) rfl
theorem q98_200 : zQ 98 200 L st M Q ↔ zQ 98 201 L (.int 0 :: st) M Q := zq_con (n := 0) (by decide +kernel) (by decide +kernel) rfl
theorem q98_201 : zQ 98 201 L (.int x :: .ref a :: st) M Q ↔ (a < zNC ∧ zk a = 6 ∧ zf a 23 = none) ∧ zQ 98 204 L st (zup M a 23 x) Q := zq_putf (n := 142) (b := false) (by decide +kernel) (by decide +kernel) (by decide +kernel)
theorem q98_204 : zQ 98 204 [.ref a, v1, v2, v3, v4, v5, v6] st M Q ↔ zQ 98 205 [.ref a, v1, v2, v3, v4, v5, v6] (.ref a :: st) M Q := zq_go (i := .aload_n 0) (by decide +kernel) rfl
theorem q98_205 : zQ 98 205 [.ref a, v1, v2, v3, v4, v5, v6] st M Q ↔ zQ 98 206 [.ref a, v1, v2, v3, v4, v5, v6] (.ref a :: st) M Q := zq_go (i := .aload_n 0) (by decide +kernel) rfl
theorem q98_206 : zQ 98 206 L (.ref a :: st) M Q ↔ (a < zNC ∧ zk a = 6) ∧ zQ 98 209 L (zfv a 1 M :: st) M Q := zq_getf (n := 86) (b := false) (by decide +kernel) (by decide +kernel)
theorem q98_209 : zQ 98 209 L (.int x1 :: .ref a :: st) M Q ↔ (zcs st ≤ 8 ∧ a < zNC ∧ zk a = 6) ∧ zQ 89 0 [.ref a, .int x1] [] M (fun r M1 => zQ 98 212 L (zpush r st) M1 Q) := zq_callV (n := 123) (j := 89) (b := false) (As := [.int x1]) (by decide +kernel) (by decide +kernel) ⟨by decide +kernel, by decide +kernel, rfl, by decide +kernel, by decide +kernel, Nat.le_of_ble_eq_true rfl⟩ rfl
theorem q98_212 : zQ 98 212 L [.int x] M Q ↔ Q (zI x) M := zq_reI (by decide +kernel) (by decide +kernel)
-- 99 SandKeepersModel.rateOf(I)I
theorem q99_0 : zQ 99 0 [.ref a, v1, v2] st M Q ↔ zQ 99 1 [.ref a, v1, v2] (.ref a :: st) M Q := zq_go (i := .aload_n 0) (by decide +kernel) rfl
theorem q99_1 : zQ 99 1 L (.ref a :: st) M Q ↔ (a < zNC ∧ zk a = 6) ∧ zQ 99 4 L (zfv a 6 M :: st) M Q := zq_getf (n := 19) (b := false) (by decide +kernel) (by decide +kernel)
theorem q99_4 : zQ 99 4 [v0, .int x, v2] st M Q ↔ zQ 99 5 [v0, .int x, v2] (.int x :: st) M Q := zq_go (i := .iload_n 1) (by decide +kernel) rfl
theorem q99_5 : zQ 99 5 L (.int x :: .ref a :: st) M Q ↔ (a < zNC ∧ zk a = 7 ∧ zin x (zn a) = true) ∧ zQ 99 6 L (.int (M a x.toNatClampNeg) :: st) M Q := zq_iald (by decide +kernel)
theorem q99_6 : zQ 99 6 [.ref a, v1, v2] st M Q ↔ zQ 99 7 [.ref a, v1, v2] (.ref a :: st) M Q := zq_go (i := .aload_n 0) (by decide +kernel) rfl
theorem q99_7 : zQ 99 7 L (.ref a :: st) M Q ↔ (a < zNC ∧ zk a = 6) ∧ zQ 99 10 L (zfv a 7 M :: st) M Q := zq_getf (n := 22) (b := false) (by decide +kernel) (by decide +kernel)
theorem q99_10 : zQ 99 10 [.ref a, v1, v2] st M Q ↔ zQ 99 11 [.ref a, v1, v2] (.ref a :: st) M Q := zq_go (i := .aload_n 0) (by decide +kernel) rfl
theorem q99_11 : zQ 99 11 L (.ref a :: st) M Q ↔ (a < zNC ∧ zk a = 6) ∧ zQ 99 14 L (zfv a 8 M :: st) M Q := zq_getf (n := 25) (b := false) (by decide +kernel) (by decide +kernel)
theorem q99_14 : zQ 99 14 [v0, .int x, v2] st M Q ↔ zQ 99 15 [v0, .int x, v2] (.int x :: st) M Q := zq_go (i := .iload_n 1) (by decide +kernel) rfl
theorem q99_15 : zQ 99 15 L (.int x :: .ref a :: st) M Q ↔ (a < zNC ∧ zk a = 7 ∧ zin x (zn a) = true) ∧ zQ 99 16 L (.int (M a x.toNatClampNeg) :: st) M Q := zq_iald (by decide +kernel)
theorem q99_16 : zQ 99 16 L (.int x :: .ref a :: st) M Q ↔ (a < zNC ∧ zk a = 7 ∧ zin x (zn a) = true) ∧ zQ 99 17 L (.int (M a x.toNatClampNeg) :: st) M Q := zq_iald (by decide +kernel)
theorem q99_17 : zQ 99 17 L (.int y :: .int x :: st) M Q ↔ zQ 99 18 L (.int (x + y) :: st) M Q := zq_go (i := .iadd) (by decide +kernel) rfl
theorem q99_18i : zQ 99 18 [v0, .int y, v2] (.int x :: st) M Q ↔ zQ 99 19 [v0, .int y, .int x] st M Q := zq_stI (i := .istore_n 2) (k := 2) (by decide +kernel) rfl (Nat.le_of_ble_eq_true rfl) rfl rfl
theorem q99_18r : zQ 99 18 [v0, .ref r1, v2] (.int x :: st) M Q ↔ zQ 99 19 [v0, .ref r1, .int x] st M Q := zq_stI (i := .istore_n 2) (k := 2) (by decide +kernel) rfl (Nat.le_of_ble_eq_true rfl) rfl rfl
theorem q99_18n : zQ 99 18 [v0, .null, v2] (.int x :: st) M Q ↔ zQ 99 19 [v0, .null, .int x] st M Q := zq_stI (i := .istore_n 2) (k := 2) (by decide +kernel) rfl (Nat.le_of_ble_eq_true rfl) rfl rfl
theorem q99_19 : zQ 99 19 [.ref a, v1, v2] st M Q ↔ zQ 99 20 [.ref a, v1, v2] (.ref a :: st) M Q := zq_go (i := .aload_n 0) (by decide +kernel) rfl
theorem q99_20 : zQ 99 20 L (.ref a :: st) M Q ↔ (a < zNC ∧ zk a = 6) ∧ zQ 99 23 L (zfv a 3 M :: st) M Q := zq_getf (n := 7) (b := false) (by decide +kernel) (by decide +kernel)
theorem q99_23 : zQ 99 23 [v0, .int x, v2] st M Q ↔ zQ 99 24 [v0, .int x, v2] (.int x :: st) M Q := zq_go (i := .iload_n 1) (by decide +kernel) rfl
theorem q99_24 : zQ 99 24 L (.int x :: .ref a :: st) M Q ↔ (a < zNC ∧ zk a = 7 ∧ zin x (zn a) = true) ∧ zQ 99 25 L (.int (M a x.toNatClampNeg) :: st) M Q := zq_iald (by decide +kernel)
theorem q99_25 : zQ 99 25 L (.int x :: st) M Q ↔ (x = 0 → zQ 99 28 L st M Q) ∧ (¬ x = 0 → zQ 99 32 L st M Q) := zq_bn (i := .ifCond .ne 7) (off := 7) (by decide +kernel) rfl (by decide) rfl
theorem q99_28 : zQ 99 28 [v0, v1, .int x] st M Q ↔ zQ 99 29 [v0, v1, .int x] (.int x :: st) M Q := zq_go (i := .iload_n 2) (by decide +kernel) rfl
theorem q99_29 : zQ 99 29 L st M Q ↔ zQ 99 53 L st M Q := zq_jmp (off := 24) (by decide +kernel) (by decide)
theorem q99_32 : zQ 99 32 [.ref a, v1, v2] st M Q ↔ zQ 99 33 [.ref a, v1, v2] (.ref a :: st) M Q := zq_go (i := .aload_n 0) (by decide +kernel) rfl
theorem q99_33 : zQ 99 33 L (.ref a :: st) M Q ↔ (a < zNC ∧ zk a = 6) ∧ zQ 99 36 L (zfv a 3 M :: st) M Q := zq_getf (n := 7) (b := false) (by decide +kernel) (by decide +kernel)
theorem q99_36 : zQ 99 36 [v0, .int x, v2] st M Q ↔ zQ 99 37 [v0, .int x, v2] (.int x :: st) M Q := zq_go (i := .iload_n 1) (by decide +kernel) rfl
theorem q99_37 : zQ 99 37 L (.int x :: .ref a :: st) M Q ↔ (a < zNC ∧ zk a = 7 ∧ zin x (zn a) = true) ∧ zQ 99 38 L (.int (M a x.toNatClampNeg) :: st) M Q := zq_iald (by decide +kernel)
theorem q99_38 : zQ 99 38 L st M Q ↔ zQ 99 39 L (.int 1 :: st) M Q := zq_con (n := 1) (by decide +kernel) (by decide +kernel) rfl
theorem q99_39 : zQ 99 39 L (.int y :: .int x :: st) M Q ↔ (x = y → zQ 99 42 L st M Q) ∧ (¬ x = y → zQ 99 48 L st M Q) := zq_bn (i := .if_icmp .ne 9) (off := 9) (by decide +kernel) rfl (by decide) rfl
theorem q99_42 : zQ 99 42 [v0, v1, .int x] st M Q ↔ zQ 99 43 [v0, v1, .int x] (.int x :: st) M Q := zq_go (i := .iload_n 2) (by decide +kernel) rfl
theorem q99_43 : zQ 99 43 L st M Q ↔ zQ 99 44 L (.int 1 :: st) M Q := zq_con (n := 1) (by decide +kernel) (by decide +kernel) rfl
theorem q99_44 : zQ 99 44 L (.int y :: .int x :: st) M Q ↔ zQ 99 45 L (.int (x + y) :: st) M Q := zq_go (i := .iadd) (by decide +kernel) rfl
theorem q99_45 : zQ 99 45 L st M Q ↔ zQ 99 53 L st M Q := zq_jmp (off := 8) (by decide +kernel) (by decide)
theorem q99_48 : zQ 99 48 [v0, v1, .int x] st M Q ↔ zQ 99 49 [v0, v1, .int x] (.int x :: st) M Q := zq_go (i := .iload_n 2) (by decide +kernel) rfl
theorem q99_49 : zQ 99 49 L st M Q ↔ zQ 99 50 L (.int 1 :: st) M Q := zq_con (n := 1) (by decide +kernel) (by decide +kernel) rfl
theorem q99_50 : zQ 99 50 L (.int y :: .int x :: st) M Q ↔ zQ 99 51 L (.int (x + y) :: st) M Q := zq_go (i := .iadd) (by decide +kernel) rfl
theorem q99_51 : zQ 99 51 L st M Q ↔ zQ 99 52 L (.int 2 :: st) M Q := zq_con (n := 2) (by decide +kernel) (by decide +kernel) rfl
theorem q99_52 : zQ 99 52 L (.int y :: .int x :: st) M Q ↔ ¬ y = 0 ∧ zQ 99 53 L (.int (x / y) :: st) M Q := zq_div (by decide +kernel)
theorem q99_53 : zQ 99 53 L [.int x] M Q ↔ Q (zI x) M := zq_reI (by decide +kernel) (by decide +kernel)
-- 100 SandKeepersModel.isAlive(I)Z
theorem q100_0 : zQ 100 0 [.ref a, v1] st M Q ↔ zQ 100 1 [.ref a, v1] (.ref a :: st) M Q := zq_go (i := .aload_n 0) (by decide +kernel) rfl
theorem q100_1 : zQ 100 1 L (.ref a :: st) M Q ↔ (a < zNC ∧ zk a = 6) ∧ zQ 100 4 L (zfv a 4 M :: st) M Q := zq_getf (n := 13) (b := false) (by decide +kernel) (by decide +kernel)
theorem q100_4 : zQ 100 4 [v0, .int x] st M Q ↔ zQ 100 5 [v0, .int x] (.int x :: st) M Q := zq_go (i := .iload_n 1) (by decide +kernel) rfl
theorem q100_5 : zQ 100 5 L (.int x :: .ref a :: st) M Q ↔ (a < zNC ∧ zk a = 7 ∧ zin x (zn a) = true) ∧ zQ 100 6 L (.int (M a x.toNatClampNeg) :: st) M Q := zq_iald (by decide +kernel)
theorem q100_6 : zQ 100 6 L (.int x :: st) M Q ↔ (x ≤ 0 → zQ 100 13 L st M Q) ∧ (¬ x ≤ 0 → zQ 100 9 L st M Q) := zq_br (i := .ifCond .le 7) (off := 7) (by decide +kernel) rfl (by decide) rfl
theorem q100_9 : zQ 100 9 L st M Q ↔ zQ 100 10 L (.int 1 :: st) M Q := zq_con (n := 1) (by decide +kernel) (by decide +kernel) rfl
theorem q100_10 : zQ 100 10 L st M Q ↔ zQ 100 14 L st M Q := zq_jmp (off := 4) (by decide +kernel) (by decide)
theorem q100_13 : zQ 100 13 L st M Q ↔ zQ 100 14 L (.int 0 :: st) M Q := zq_con (n := 0) (by decide +kernel) (by decide +kernel) rfl
theorem q100_14 : zQ 100 14 L [.int x] M Q ↔ (x = 0 ∨ x = 1) ∧ Q (zI x) M := zq_reZ (by decide +kernel) (by decide +kernel)
-- 101 SandKeepersModel.ofGlass(II)I
theorem q101_0 : zQ 101 0 [.ref a, v1, v2] st M Q ↔ zQ 101 1 [.ref a, v1, v2] (.ref a :: st) M Q := zq_go (i := .aload_n 0) (by decide +kernel) rfl
theorem q101_1 : zQ 101 1 [v0, .int x, v2] st M Q ↔ zQ 101 2 [v0, .int x, v2] (.int x :: st) M Q := zq_go (i := .iload_n 1) (by decide +kernel) rfl
theorem q101_2 : zQ 101 2 L (.int x1 :: .ref a :: st) M Q ↔ (zcs st ≤ 8 ∧ a < zNC ∧ zk a = 6) ∧ zQ 92 0 [.ref a, .int x1] [] M (fun r M1 => zQ 101 5 L (zpush r st) M1 Q) := zq_callV (n := 145) (j := 92) (b := false) (As := [.int x1]) (by decide +kernel) (by decide +kernel) ⟨by decide +kernel, by decide +kernel, rfl, by decide +kernel, by decide +kernel, Nat.le_of_ble_eq_true rfl⟩ rfl
theorem q101_5 : zQ 101 5 L (.int x :: st) M Q ↔ (x = 0 → zQ 101 10 L st M Q) ∧ (¬ x = 0 → zQ 101 8 L st M Q) := zq_br (i := .ifCond .eq 5) (off := 5) (by decide +kernel) rfl (by decide) rfl
theorem q101_8 : zQ 101 8 L st M Q ↔ zQ 101 9 L (.int (-1) :: st) M Q := zq_con (n := (-1)) (by decide +kernel) (by decide +kernel) rfl
theorem q101_9 : zQ 101 9 L [.int x] M Q ↔ Q (zI x) M := zq_reI (by decide +kernel) (by decide +kernel)
theorem q101_10 : zQ 101 10 [v0, v1, .int x] st M Q ↔ zQ 101 11 [v0, v1, .int x] (.int x :: st) M Q := zq_go (i := .iload_n 2) (by decide +kernel) rfl
theorem q101_11 : zQ 101 11 L (.int x :: st) M Q ↔ zQ 101 (ztgt 11 (ztabo 102 0 7 #[45, 52, 59, 66, 73, 80, 86, 95] x.toInt)) L st M Q := zq_tab (by decide +kernel) (by decide) (by decide)
theorem q101_56 : zQ 101 56 [.ref a, v1, v2] st M Q ↔ zQ 101 57 [.ref a, v1, v2] (.ref a :: st) M Q := zq_go (i := .aload_n 0) (by decide +kernel) rfl
theorem q101_57 : zQ 101 57 L (.ref a :: st) M Q ↔ (a < zNC ∧ zk a = 6) ∧ zQ 101 60 L (zfv a 3 M :: st) M Q := zq_getf (n := 7) (b := false) (by decide +kernel) (by decide +kernel)
theorem q101_60 : zQ 101 60 [v0, .int x, v2] st M Q ↔ zQ 101 61 [v0, .int x, v2] (.int x :: st) M Q := zq_go (i := .iload_n 1) (by decide +kernel) rfl
theorem q101_61 : zQ 101 61 L (.int x :: .ref a :: st) M Q ↔ (a < zNC ∧ zk a = 7 ∧ zin x (zn a) = true) ∧ zQ 101 62 L (.int (M a x.toNatClampNeg) :: st) M Q := zq_iald (by decide +kernel)
theorem q101_62 : zQ 101 62 L [.int x] M Q ↔ Q (zI x) M := zq_reI (by decide +kernel) (by decide +kernel)
theorem q101_63 : zQ 101 63 [.ref a, v1, v2] st M Q ↔ zQ 101 64 [.ref a, v1, v2] (.ref a :: st) M Q := zq_go (i := .aload_n 0) (by decide +kernel) rfl
theorem q101_64 : zQ 101 64 L (.ref a :: st) M Q ↔ (a < zNC ∧ zk a = 6) ∧ zQ 101 67 L (zfv a 4 M :: st) M Q := zq_getf (n := 13) (b := false) (by decide +kernel) (by decide +kernel)
theorem q101_67 : zQ 101 67 [v0, .int x, v2] st M Q ↔ zQ 101 68 [v0, .int x, v2] (.int x :: st) M Q := zq_go (i := .iload_n 1) (by decide +kernel) rfl
theorem q101_68 : zQ 101 68 L (.int x :: .ref a :: st) M Q ↔ (a < zNC ∧ zk a = 7 ∧ zin x (zn a) = true) ∧ zQ 101 69 L (.int (M a x.toNatClampNeg) :: st) M Q := zq_iald (by decide +kernel)
theorem q101_69 : zQ 101 69 L [.int x] M Q ↔ Q (zI x) M := zq_reI (by decide +kernel) (by decide +kernel)
theorem q101_70 : zQ 101 70 [.ref a, v1, v2] st M Q ↔ zQ 101 71 [.ref a, v1, v2] (.ref a :: st) M Q := zq_go (i := .aload_n 0) (by decide +kernel) rfl
theorem q101_71 : zQ 101 71 L (.ref a :: st) M Q ↔ (a < zNC ∧ zk a = 6) ∧ zQ 101 74 L (zfv a 6 M :: st) M Q := zq_getf (n := 19) (b := false) (by decide +kernel) (by decide +kernel)
theorem q101_74 : zQ 101 74 [v0, .int x, v2] st M Q ↔ zQ 101 75 [v0, .int x, v2] (.int x :: st) M Q := zq_go (i := .iload_n 1) (by decide +kernel) rfl
theorem q101_75 : zQ 101 75 L (.int x :: .ref a :: st) M Q ↔ (a < zNC ∧ zk a = 7 ∧ zin x (zn a) = true) ∧ zQ 101 76 L (.int (M a x.toNatClampNeg) :: st) M Q := zq_iald (by decide +kernel)
theorem q101_76 : zQ 101 76 L [.int x] M Q ↔ Q (zI x) M := zq_reI (by decide +kernel) (by decide +kernel)
theorem q101_77 : zQ 101 77 [.ref a, v1, v2] st M Q ↔ zQ 101 78 [.ref a, v1, v2] (.ref a :: st) M Q := zq_go (i := .aload_n 0) (by decide +kernel) rfl
theorem q101_78 : zQ 101 78 L (.ref a :: st) M Q ↔ (a < zNC ∧ zk a = 6) ∧ zQ 101 81 L (zfv a 7 M :: st) M Q := zq_getf (n := 22) (b := false) (by decide +kernel) (by decide +kernel)
theorem q101_81 : zQ 101 81 [v0, .int x, v2] st M Q ↔ zQ 101 82 [v0, .int x, v2] (.int x :: st) M Q := zq_go (i := .iload_n 1) (by decide +kernel) rfl
theorem q101_82 : zQ 101 82 L (.int x :: .ref a :: st) M Q ↔ (a < zNC ∧ zk a = 7 ∧ zin x (zn a) = true) ∧ zQ 101 83 L (.int (M a x.toNatClampNeg) :: st) M Q := zq_iald (by decide +kernel)
theorem q101_83 : zQ 101 83 L [.int x] M Q ↔ Q (zI x) M := zq_reI (by decide +kernel) (by decide +kernel)
theorem q101_84 : zQ 101 84 [.ref a, v1, v2] st M Q ↔ zQ 101 85 [.ref a, v1, v2] (.ref a :: st) M Q := zq_go (i := .aload_n 0) (by decide +kernel) rfl
theorem q101_85 : zQ 101 85 L (.ref a :: st) M Q ↔ (a < zNC ∧ zk a = 6) ∧ zQ 101 88 L (zfv a 8 M :: st) M Q := zq_getf (n := 25) (b := false) (by decide +kernel) (by decide +kernel)
theorem q101_88 : zQ 101 88 [v0, .int x, v2] st M Q ↔ zQ 101 89 [v0, .int x, v2] (.int x :: st) M Q := zq_go (i := .iload_n 1) (by decide +kernel) rfl
theorem q101_89 : zQ 101 89 L (.int x :: .ref a :: st) M Q ↔ (a < zNC ∧ zk a = 7 ∧ zin x (zn a) = true) ∧ zQ 101 90 L (.int (M a x.toNatClampNeg) :: st) M Q := zq_iald (by decide +kernel)
theorem q101_90 : zQ 101 90 L [.int x] M Q ↔ Q (zI x) M := zq_reI (by decide +kernel) (by decide +kernel)
theorem q101_91 : zQ 101 91 [.ref a, v1, v2] st M Q ↔ zQ 101 92 [.ref a, v1, v2] (.ref a :: st) M Q := zq_go (i := .aload_n 0) (by decide +kernel) rfl
theorem q101_92 : zQ 101 92 [v0, .int x, v2] st M Q ↔ zQ 101 93 [v0, .int x, v2] (.int x :: st) M Q := zq_go (i := .iload_n 1) (by decide +kernel) rfl
theorem q101_93 : zQ 101 93 L (.int x1 :: .ref a :: st) M Q ↔ (zcs st ≤ 8 ∧ a < zNC ∧ zk a = 6) ∧ zQ 99 0 [.ref a, .int x1, .null] [] M (fun r M1 => zQ 101 96 L (zpush r st) M1 Q) := zq_callV (n := 148) (j := 99) (b := false) (As := [.int x1]) (by decide +kernel) (by decide +kernel) ⟨by decide +kernel, by decide +kernel, rfl, by decide +kernel, by decide +kernel, Nat.le_of_ble_eq_true rfl⟩ rfl
theorem q101_96 : zQ 101 96 L [.int x] M Q ↔ Q (zI x) M := zq_reI (by decide +kernel) (by decide +kernel)
theorem q101_97 : zQ 101 97 [.ref a, v1, v2] st M Q ↔ zQ 101 98 [.ref a, v1, v2] (.ref a :: st) M Q := zq_go (i := .aload_n 0) (by decide +kernel) rfl
theorem q101_98 : zQ 101 98 L (.ref a :: st) M Q ↔ (a < zNC ∧ zk a = 6) ∧ zQ 101 101 L (zfv a 9 M :: st) M Q := zq_getf (n := 139) (b := false) (by decide +kernel) (by decide +kernel)
theorem q101_101 : zQ 101 101 [v0, .int x, v2] st M Q ↔ zQ 101 102 [v0, .int x, v2] (.int x :: st) M Q := zq_go (i := .iload_n 1) (by decide +kernel) rfl
theorem q101_102 : zQ 101 102 L (.int y :: .int x :: st) M Q ↔ zQ 101 103 L (.int (x >>> (y &&& 31)) :: st) M Q := zq_go (i := .ishr) (by decide +kernel) rfl
theorem q101_103 : zQ 101 103 L st M Q ↔ zQ 101 104 L (.int 1 :: st) M Q := zq_con (n := 1) (by decide +kernel) (by decide +kernel) rfl
theorem q101_104 : zQ 101 104 L (.int y :: .int x :: st) M Q ↔ zQ 101 105 L (.int (x &&& y) :: st) M Q := zq_go (i := .iand) (by decide +kernel) rfl
theorem q101_105 : zQ 101 105 L [.int x] M Q ↔ Q (zI x) M := zq_reI (by decide +kernel) (by decide +kernel)
theorem q101_106 : zQ 101 106 [.ref a, v1, v2] st M Q ↔ zQ 101 107 [.ref a, v1, v2] (.ref a :: st) M Q := zq_go (i := .aload_n 0) (by decide +kernel) rfl
theorem q101_107 : zQ 101 107 L (.ref a :: st) M Q ↔ (a < zNC ∧ zk a = 6) ∧ zQ 101 110 L (zfv a 5 M :: st) M Q := zq_getf (n := 16) (b := false) (by decide +kernel) (by decide +kernel)
theorem q101_110 : zQ 101 110 [v0, .int x, v2] st M Q ↔ zQ 101 111 [v0, .int x, v2] (.int x :: st) M Q := zq_go (i := .iload_n 1) (by decide +kernel) rfl
theorem q101_111 : zQ 101 111 L (.int x :: .ref a :: st) M Q ↔ (a < zNC ∧ zk a = 7 ∧ zin x (zn a) = true) ∧ zQ 101 112 L (.int (M a x.toNatClampNeg) :: st) M Q := zq_iald (by decide +kernel)
theorem q101_112 : zQ 101 112 L [.int x] M Q ↔ Q (zI x) M := zq_reI (by decide +kernel) (by decide +kernel)
theorem q101_113 : zQ 101 113 L st M Q ↔ zQ 101 115 L (.int (-2) :: st) M Q := zq_bip (n := (-2)) (by decide +kernel) (by decide +kernel) rfl
theorem q101_115 : zQ 101 115 L [.int x] M Q ↔ Q (zI x) M := zq_reI (by decide +kernel) (by decide +kernel)
-- 102 SandKeepersModel.keeps(I)I
theorem q102_0 : zQ 102 0 [.ref a, v1, v2, v3] st M Q ↔ zQ 102 1 [.ref a, v1, v2, v3] (.ref a :: st) M Q := zq_go (i := .aload_n 0) (by decide +kernel) rfl
theorem q102_1 : zQ 102 1 [v0, .int x, v2, v3] st M Q ↔ zQ 102 2 [v0, .int x, v2, v3] (.int x :: st) M Q := zq_go (i := .iload_n 1) (by decide +kernel) rfl
theorem q102_2 : zQ 102 2 L (.int x1 :: .ref a :: st) M Q ↔ (zcs st ≤ 8 ∧ a < zNC ∧ zk a = 6) ∧ zQ 92 0 [.ref a, .int x1] [] M (fun r M1 => zQ 102 5 L (zpush r st) M1 Q) := zq_callV (n := 145) (j := 92) (b := false) (As := [.int x1]) (by decide +kernel) (by decide +kernel) ⟨by decide +kernel, by decide +kernel, rfl, by decide +kernel, by decide +kernel, Nat.le_of_ble_eq_true rfl⟩ rfl
theorem q102_5 : zQ 102 5 L (.int x :: st) M Q ↔ (x = 0 → zQ 102 10 L st M Q) ∧ (¬ x = 0 → zQ 102 8 L st M Q) := zq_br (i := .ifCond .eq 5) (off := 5) (by decide +kernel) rfl (by decide) rfl
theorem q102_8 : zQ 102 8 L st M Q ↔ zQ 102 9 L (.int (-1) :: st) M Q := zq_con (n := (-1)) (by decide +kernel) (by decide +kernel) rfl
theorem q102_9 : zQ 102 9 L [.int x] M Q ↔ Q (zI x) M := zq_reI (by decide +kernel) (by decide +kernel)
theorem q102_10 : zQ 102 10 L st M Q ↔ zQ 102 11 L (.int 0 :: st) M Q := zq_con (n := 0) (by decide +kernel) (by decide +kernel) rfl
theorem q102_11i : zQ 102 11 [v0, .int y, v2, v3] (.int x :: st) M Q ↔ zQ 102 12 [v0, .int y, .int x, v3] st M Q := zq_stI (i := .istore_n 2) (k := 2) (by decide +kernel) rfl (Nat.le_of_ble_eq_true rfl) rfl rfl
theorem q102_11r : zQ 102 11 [v0, .ref r1, v2, v3] (.int x :: st) M Q ↔ zQ 102 12 [v0, .ref r1, .int x, v3] st M Q := zq_stI (i := .istore_n 2) (k := 2) (by decide +kernel) rfl (Nat.le_of_ble_eq_true rfl) rfl rfl
theorem q102_11n : zQ 102 11 [v0, .null, v2, v3] (.int x :: st) M Q ↔ zQ 102 12 [v0, .null, .int x, v3] st M Q := zq_stI (i := .istore_n 2) (k := 2) (by decide +kernel) rfl (Nat.le_of_ble_eq_true rfl) rfl rfl
theorem q102_12 : zQ 102 12 L st M Q ↔ zQ 102 13 L (.int 0 :: st) M Q := zq_con (n := 0) (by decide +kernel) (by decide +kernel) rfl
theorem q102_13i : zQ 102 13 [v0, v1, .int y, v3] (.int x :: st) M Q ↔ zQ 102 14 [v0, v1, .int y, .int x] st M Q := zq_stI (i := .istore_n 3) (k := 3) (by decide +kernel) rfl (Nat.le_of_ble_eq_true rfl) rfl rfl
theorem q102_13r : zQ 102 13 [v0, v1, .ref r1, v3] (.int x :: st) M Q ↔ zQ 102 14 [v0, v1, .ref r1, .int x] st M Q := zq_stI (i := .istore_n 3) (k := 3) (by decide +kernel) rfl (Nat.le_of_ble_eq_true rfl) rfl rfl
theorem q102_13n : zQ 102 13 [v0, v1, .null, v3] (.int x :: st) M Q ↔ zQ 102 14 [v0, v1, .null, .int x] st M Q := zq_stI (i := .istore_n 3) (k := 3) (by decide +kernel) rfl (Nat.le_of_ble_eq_true rfl) rfl rfl
theorem q102_14 : zQ 102 14 [v0, v1, v2, .int x] st M Q ↔ zQ 102 15 [v0, v1, v2, .int x] (.int x :: st) M Q := zq_go (i := .iload_n 3) (by decide +kernel) rfl
theorem q102_15 : zQ 102 15 [.ref a, v1, v2, v3] st M Q ↔ zQ 102 16 [.ref a, v1, v2, v3] (.ref a :: st) M Q := zq_go (i := .aload_n 0) (by decide +kernel) rfl
theorem q102_16 : zQ 102 16 L (.ref a :: st) M Q ↔ (a < zNC ∧ zk a = 6) ∧ zQ 102 19 L (zfv a 1 M :: st) M Q := zq_getf (n := 86) (b := false) (by decide +kernel) (by decide +kernel)
theorem q102_19 : zQ 102 19 L (.int y :: .int x :: st) M Q ↔ (y ≤ x → zQ 102 48 L st M Q) ∧ (¬ y ≤ x → zQ 102 22 L st M Q) := zq_br (i := .if_icmp .ge 29) (off := 29) (by decide +kernel) rfl (by decide) rfl
theorem q102_22 : zQ 102 22 [v0, v1, .int x, v3] st M Q ↔ zQ 102 23 [v0, v1, .int x, v3] (.int x :: st) M Q := zq_go (i := .iload_n 2) (by decide +kernel) rfl
theorem q102_23 : zQ 102 23 [.ref a, v1, v2, v3] st M Q ↔ zQ 102 24 [.ref a, v1, v2, v3] (.ref a :: st) M Q := zq_go (i := .aload_n 0) (by decide +kernel) rfl
theorem q102_24 : zQ 102 24 L (.ref a :: st) M Q ↔ (a < zNC ∧ zk a = 6) ∧ zQ 102 27 L (zfv a 8 M :: st) M Q := zq_getf (n := 25) (b := false) (by decide +kernel) (by decide +kernel)
theorem q102_27 : zQ 102 27 [v0, v1, v2, .int x] st M Q ↔ zQ 102 28 [v0, v1, v2, .int x] (.int x :: st) M Q := zq_go (i := .iload_n 3) (by decide +kernel) rfl
theorem q102_28 : zQ 102 28 L (.int x :: .ref a :: st) M Q ↔ (a < zNC ∧ zk a = 7 ∧ zin x (zn a) = true) ∧ zQ 102 29 L (.int (M a x.toNatClampNeg) :: st) M Q := zq_iald (by decide +kernel)
theorem q102_29 : zQ 102 29 [v0, .int x, v2, v3] st M Q ↔ zQ 102 30 [v0, .int x, v2, v3] (.int x :: st) M Q := zq_go (i := .iload_n 1) (by decide +kernel) rfl
theorem q102_30 : zQ 102 30 L (.int y :: .int x :: st) M Q ↔ (x = y → zQ 102 33 L st M Q) ∧ (¬ x = y → zQ 102 39 L st M Q) := zq_bn (i := .if_icmp .ne 9) (off := 9) (by decide +kernel) rfl (by decide) rfl
theorem q102_33 : zQ 102 33 L st M Q ↔ zQ 102 34 L (.int 1 :: st) M Q := zq_con (n := 1) (by decide +kernel) (by decide +kernel) rfl
theorem q102_34 : zQ 102 34 [v0, v1, v2, .int x] st M Q ↔ zQ 102 35 [v0, v1, v2, .int x] (.int x :: st) M Q := zq_go (i := .iload_n 3) (by decide +kernel) rfl
theorem q102_35 : zQ 102 35 L (.int y :: .int x :: st) M Q ↔ zQ 102 36 L (.int (x <<< (y &&& 31)) :: st) M Q := zq_go (i := .ishl) (by decide +kernel) rfl
theorem q102_36 : zQ 102 36 L st M Q ↔ zQ 102 40 L st M Q := zq_jmp (off := 4) (by decide +kernel) (by decide)
theorem q102_39 : zQ 102 39 L st M Q ↔ zQ 102 40 L (.int 0 :: st) M Q := zq_con (n := 0) (by decide +kernel) (by decide +kernel) rfl
theorem q102_40 : zQ 102 40 L (.int y :: .int x :: st) M Q ↔ zQ 102 41 L (.int (x ||| y) :: st) M Q := zq_go (i := .ior) (by decide +kernel) rfl
theorem q102_41i : zQ 102 41 [v0, .int y, v2, v3] (.int x :: st) M Q ↔ zQ 102 42 [v0, .int y, .int x, v3] st M Q := zq_stI (i := .istore_n 2) (k := 2) (by decide +kernel) rfl (Nat.le_of_ble_eq_true rfl) rfl rfl
theorem q102_41r : zQ 102 41 [v0, .ref r1, v2, v3] (.int x :: st) M Q ↔ zQ 102 42 [v0, .ref r1, .int x, v3] st M Q := zq_stI (i := .istore_n 2) (k := 2) (by decide +kernel) rfl (Nat.le_of_ble_eq_true rfl) rfl rfl
theorem q102_41n : zQ 102 41 [v0, .null, v2, v3] (.int x :: st) M Q ↔ zQ 102 42 [v0, .null, .int x, v3] st M Q := zq_stI (i := .istore_n 2) (k := 2) (by decide +kernel) rfl (Nat.le_of_ble_eq_true rfl) rfl rfl
theorem q102_42i : zQ 102 42 [v0, v1, .int y, .int x] st M Q ↔ zQ 102 45 [v0, v1, .int y, .int (x + 1)] st M Q := zq_inc (k := 3) (n := 1) (x := x) (v := 1) (by decide +kernel) (by decide +kernel) rfl rfl rfl rfl
theorem q102_42r : zQ 102 42 [v0, v1, .ref r1, .int x] st M Q ↔ zQ 102 45 [v0, v1, .ref r1, .int (x + 1)] st M Q := zq_inc (k := 3) (n := 1) (x := x) (v := 1) (by decide +kernel) (by decide +kernel) rfl rfl rfl rfl
theorem q102_42n : zQ 102 42 [v0, v1, .null, .int x] st M Q ↔ zQ 102 45 [v0, v1, .null, .int (x + 1)] st M Q := zq_inc (k := 3) (n := 1) (x := x) (v := 1) (by decide +kernel) (by decide +kernel) rfl rfl rfl rfl
theorem q102_45 : zQ 102 45 L st M Q ↔ zQ 102 14 L st M Q := zq_jmp (off := (-31)) (by decide +kernel) (by decide)
theorem q102_48 : zQ 102 48 [v0, v1, .int x, v3] st M Q ↔ zQ 102 49 [v0, v1, .int x, v3] (.int x :: st) M Q := zq_go (i := .iload_n 2) (by decide +kernel) rfl
theorem q102_49 : zQ 102 49 L [.int x] M Q ↔ Q (zI x) M := zq_reI (by decide +kernel) (by decide +kernel)
-- 103 SandKeepersModel.chafe(II)I
theorem q103_0 : zQ 103 0 [.ref a, v1, v2, v3] st M Q ↔ zQ 103 1 [.ref a, v1, v2, v3] (.ref a :: st) M Q := zq_go (i := .aload_n 0) (by decide +kernel) rfl
theorem q103_1 : zQ 103 1 [v0, .int x, v2, v3] st M Q ↔ zQ 103 2 [v0, .int x, v2, v3] (.int x :: st) M Q := zq_go (i := .iload_n 1) (by decide +kernel) rfl
theorem q103_2 : zQ 103 2 L (.int x1 :: .ref a :: st) M Q ↔ (zcs st ≤ 8 ∧ a < zNC ∧ zk a = 6) ∧ zQ 92 0 [.ref a, .int x1] [] M (fun r M1 => zQ 103 5 L (zpush r st) M1 Q) := zq_callV (n := 145) (j := 92) (b := false) (As := [.int x1]) (by decide +kernel) (by decide +kernel) ⟨by decide +kernel, by decide +kernel, rfl, by decide +kernel, by decide +kernel, Nat.le_of_ble_eq_true rfl⟩ rfl
theorem q103_5 : zQ 103 5 L (.int x :: st) M Q ↔ (x = 0 → zQ 103 10 L st M Q) ∧ (¬ x = 0 → zQ 103 8 L st M Q) := zq_br (i := .ifCond .eq 5) (off := 5) (by decide +kernel) rfl (by decide) rfl
theorem q103_8 : zQ 103 8 L st M Q ↔ zQ 103 9 L (.int (-1) :: st) M Q := zq_con (n := (-1)) (by decide +kernel) (by decide +kernel) rfl
theorem q103_9 : zQ 103 9 L [.int x] M Q ↔ Q (zI x) M := zq_reI (by decide +kernel) (by decide +kernel)
theorem q103_10 : zQ 103 10 [v0, v1, .int x, v3] st M Q ↔ zQ 103 11 [v0, v1, .int x, v3] (.int x :: st) M Q := zq_go (i := .iload_n 2) (by decide +kernel) rfl
theorem q103_11 : zQ 103 11 L (.int x :: st) M Q ↔ zQ 103 12 L (.long x.toInt64 :: st) M Q := zq_go (i := .i2l) (by decide +kernel) rfl
theorem q103_12 : zQ 103 12 L st M Q ↔ zQ 103 13 L (.long 0 :: st) M Q := zq_lco (n := 0) (by decide +kernel) (by decide +kernel) rfl
theorem q103_13 : zQ 103 13 L st M Q ↔ zQ 103 16 L (.long 9 :: st) M Q := zq_ld2 (n := 151) (by decide +kernel) (by decide +kernel) rfl
theorem q103_16 : zQ 103 16 L (.long l3 :: .long l2 :: .long l1 :: st) M Q ↔ zcs st ≤ 8 ∧ zQ 84 0 [.long l1, .null, .long l2, .null, .long l3, .null] [] M (fun r M1 => zQ 103 19 L (zpush r st) M1 Q) := zq_callS (n := 89) (j := 84) (b := false) (As := [.long l1, .long l2, .long l3]) (by decide +kernel) (by decide +kernel) ⟨by decide +kernel, by decide +kernel, rfl, by decide +kernel, by decide +kernel, Nat.le_of_ble_eq_true rfl⟩ rfl
theorem q103_19 : zQ 103 19 L (.int x :: st) M Q ↔ (x = 0 → zQ 103 22 L st M Q) ∧ (¬ x = 0 → zQ 103 25 L st M Q) := zq_bn (i := .ifCond .ne 6) (off := 6) (by decide +kernel) rfl (by decide) rfl
theorem q103_22 : zQ 103 22 L st M Q ↔ zQ 103 24 L (.int (-2) :: st) M Q := zq_bip (n := (-2)) (by decide +kernel) (by decide +kernel) rfl
theorem q103_24 : zQ 103 24 L [.int x] M Q ↔ Q (zI x) M := zq_reI (by decide +kernel) (by decide +kernel)
theorem q103_25 : zQ 103 25 [.ref a, v1, v2, v3] st M Q ↔ zQ 103 26 [.ref a, v1, v2, v3] (.ref a :: st) M Q := zq_go (i := .aload_n 0) (by decide +kernel) rfl
theorem q103_26 : zQ 103 26 L (.ref a :: st) M Q ↔ (a < zNC ∧ zk a = 6) ∧ zQ 103 29 L (zfv a 6 M :: st) M Q := zq_getf (n := 19) (b := false) (by decide +kernel) (by decide +kernel)
theorem q103_29 : zQ 103 29 [v0, .int x, v2, v3] st M Q ↔ zQ 103 30 [v0, .int x, v2, v3] (.int x :: st) M Q := zq_go (i := .iload_n 1) (by decide +kernel) rfl
theorem q103_30 : zQ 103 30 L (.int x :: .ref a :: st) M Q ↔ (a < zNC ∧ zk a = 7 ∧ zin x (zn a) = true) ∧ zQ 103 31 L (.int (M a x.toNatClampNeg) :: st) M Q := zq_iald (by decide +kernel)
theorem q103_31i : zQ 103 31 [v0, v1, .int y, v3] (.int x :: st) M Q ↔ zQ 103 32 [v0, v1, .int y, .int x] st M Q := zq_stI (i := .istore_n 3) (k := 3) (by decide +kernel) rfl (Nat.le_of_ble_eq_true rfl) rfl rfl
theorem q103_31r : zQ 103 31 [v0, v1, .ref r1, v3] (.int x :: st) M Q ↔ zQ 103 32 [v0, v1, .ref r1, .int x] st M Q := zq_stI (i := .istore_n 3) (k := 3) (by decide +kernel) rfl (Nat.le_of_ble_eq_true rfl) rfl rfl
theorem q103_31n : zQ 103 31 [v0, v1, .null, v3] (.int x :: st) M Q ↔ zQ 103 32 [v0, v1, .null, .int x] st M Q := zq_stI (i := .istore_n 3) (k := 3) (by decide +kernel) rfl (Nat.le_of_ble_eq_true rfl) rfl rfl
theorem q103_32 : zQ 103 32 [.ref a, v1, v2, v3] st M Q ↔ zQ 103 33 [.ref a, v1, v2, v3] (.ref a :: st) M Q := zq_go (i := .aload_n 0) (by decide +kernel) rfl
theorem q103_33 : zQ 103 33 L (.ref a :: st) M Q ↔ (a < zNC ∧ zk a = 6) ∧ zQ 103 36 L (zfv a 6 M :: st) M Q := zq_getf (n := 19) (b := false) (by decide +kernel) (by decide +kernel)
theorem q103_36 : zQ 103 36 [v0, .int x, v2, v3] st M Q ↔ zQ 103 37 [v0, .int x, v2, v3] (.int x :: st) M Q := zq_go (i := .iload_n 1) (by decide +kernel) rfl
theorem q103_37 : zQ 103 37 [v0, v1, .int x, v3] st M Q ↔ zQ 103 38 [v0, v1, .int x, v3] (.int x :: st) M Q := zq_go (i := .iload_n 2) (by decide +kernel) rfl
theorem q103_38 : zQ 103 38 L (.int x :: .int y :: .ref a :: st) M Q ↔ (a < zNC ∧ zk a = 7 ∧ zin y (zn a) = true) ∧ zQ 103 39 L st (zup M a y.toNatClampNeg x) Q := zq_iast (by decide +kernel)
theorem q103_39 : zQ 103 39 [v0, v1, v2, .int x] st M Q ↔ zQ 103 40 [v0, v1, v2, .int x] (.int x :: st) M Q := zq_go (i := .iload_n 3) (by decide +kernel) rfl
theorem q103_40 : zQ 103 40 L [.int x] M Q ↔ Q (zI x) M := zq_reI (by decide +kernel) (by decide +kernel)
-- 104 SandKeepersModel.warm(II)I
theorem q104_0 : zQ 104 0 [.ref a, v1, v2, v3] st M Q ↔ zQ 104 1 [.ref a, v1, v2, v3] (.ref a :: st) M Q := zq_go (i := .aload_n 0) (by decide +kernel) rfl
theorem q104_1 : zQ 104 1 [v0, .int x, v2, v3] st M Q ↔ zQ 104 2 [v0, .int x, v2, v3] (.int x :: st) M Q := zq_go (i := .iload_n 1) (by decide +kernel) rfl
theorem q104_2 : zQ 104 2 L (.int x1 :: .ref a :: st) M Q ↔ (zcs st ≤ 8 ∧ a < zNC ∧ zk a = 6) ∧ zQ 92 0 [.ref a, .int x1] [] M (fun r M1 => zQ 104 5 L (zpush r st) M1 Q) := zq_callV (n := 145) (j := 92) (b := false) (As := [.int x1]) (by decide +kernel) (by decide +kernel) ⟨by decide +kernel, by decide +kernel, rfl, by decide +kernel, by decide +kernel, Nat.le_of_ble_eq_true rfl⟩ rfl
theorem q104_5 : zQ 104 5 L (.int x :: st) M Q ↔ (x = 0 → zQ 104 10 L st M Q) ∧ (¬ x = 0 → zQ 104 8 L st M Q) := zq_br (i := .ifCond .eq 5) (off := 5) (by decide +kernel) rfl (by decide) rfl
theorem q104_8 : zQ 104 8 L st M Q ↔ zQ 104 9 L (.int (-1) :: st) M Q := zq_con (n := (-1)) (by decide +kernel) (by decide +kernel) rfl
theorem q104_9 : zQ 104 9 L [.int x] M Q ↔ Q (zI x) M := zq_reI (by decide +kernel) (by decide +kernel)
theorem q104_10 : zQ 104 10 [v0, v1, .int x, v3] st M Q ↔ zQ 104 11 [v0, v1, .int x, v3] (.int x :: st) M Q := zq_go (i := .iload_n 2) (by decide +kernel) rfl
theorem q104_11 : zQ 104 11 L (.int x :: st) M Q ↔ zQ 104 12 L (.long x.toInt64 :: st) M Q := zq_go (i := .i2l) (by decide +kernel) rfl
theorem q104_12 : zQ 104 12 L st M Q ↔ zQ 104 13 L (.long 0 :: st) M Q := zq_lco (n := 0) (by decide +kernel) (by decide +kernel) rfl
theorem q104_13 : zQ 104 13 L st M Q ↔ zQ 104 16 L (.long 3 :: st) M Q := zq_ld2 (n := 153) (by decide +kernel) (by decide +kernel) rfl
theorem q104_16 : zQ 104 16 L (.long l3 :: .long l2 :: .long l1 :: st) M Q ↔ zcs st ≤ 8 ∧ zQ 84 0 [.long l1, .null, .long l2, .null, .long l3, .null] [] M (fun r M1 => zQ 104 19 L (zpush r st) M1 Q) := zq_callS (n := 89) (j := 84) (b := false) (As := [.long l1, .long l2, .long l3]) (by decide +kernel) (by decide +kernel) ⟨by decide +kernel, by decide +kernel, rfl, by decide +kernel, by decide +kernel, Nat.le_of_ble_eq_true rfl⟩ rfl
theorem q104_19 : zQ 104 19 L (.int x :: st) M Q ↔ (x = 0 → zQ 104 22 L st M Q) ∧ (¬ x = 0 → zQ 104 25 L st M Q) := zq_bn (i := .ifCond .ne 6) (off := 6) (by decide +kernel) rfl (by decide) rfl
theorem q104_22 : zQ 104 22 L st M Q ↔ zQ 104 24 L (.int (-2) :: st) M Q := zq_bip (n := (-2)) (by decide +kernel) (by decide +kernel) rfl
theorem q104_24 : zQ 104 24 L [.int x] M Q ↔ Q (zI x) M := zq_reI (by decide +kernel) (by decide +kernel)
theorem q104_25 : zQ 104 25 [.ref a, v1, v2, v3] st M Q ↔ zQ 104 26 [.ref a, v1, v2, v3] (.ref a :: st) M Q := zq_go (i := .aload_n 0) (by decide +kernel) rfl
theorem q104_26 : zQ 104 26 L (.ref a :: st) M Q ↔ (a < zNC ∧ zk a = 6) ∧ zQ 104 29 L (zfv a 7 M :: st) M Q := zq_getf (n := 22) (b := false) (by decide +kernel) (by decide +kernel)
theorem q104_29 : zQ 104 29 [v0, .int x, v2, v3] st M Q ↔ zQ 104 30 [v0, .int x, v2, v3] (.int x :: st) M Q := zq_go (i := .iload_n 1) (by decide +kernel) rfl
theorem q104_30 : zQ 104 30 L (.int x :: .ref a :: st) M Q ↔ (a < zNC ∧ zk a = 7 ∧ zin x (zn a) = true) ∧ zQ 104 31 L (.int (M a x.toNatClampNeg) :: st) M Q := zq_iald (by decide +kernel)
theorem q104_31i : zQ 104 31 [v0, v1, .int y, v3] (.int x :: st) M Q ↔ zQ 104 32 [v0, v1, .int y, .int x] st M Q := zq_stI (i := .istore_n 3) (k := 3) (by decide +kernel) rfl (Nat.le_of_ble_eq_true rfl) rfl rfl
theorem q104_31r : zQ 104 31 [v0, v1, .ref r1, v3] (.int x :: st) M Q ↔ zQ 104 32 [v0, v1, .ref r1, .int x] st M Q := zq_stI (i := .istore_n 3) (k := 3) (by decide +kernel) rfl (Nat.le_of_ble_eq_true rfl) rfl rfl
theorem q104_31n : zQ 104 31 [v0, v1, .null, v3] (.int x :: st) M Q ↔ zQ 104 32 [v0, v1, .null, .int x] st M Q := zq_stI (i := .istore_n 3) (k := 3) (by decide +kernel) rfl (Nat.le_of_ble_eq_true rfl) rfl rfl
theorem q104_32 : zQ 104 32 [.ref a, v1, v2, v3] st M Q ↔ zQ 104 33 [.ref a, v1, v2, v3] (.ref a :: st) M Q := zq_go (i := .aload_n 0) (by decide +kernel) rfl
theorem q104_33 : zQ 104 33 L (.ref a :: st) M Q ↔ (a < zNC ∧ zk a = 6) ∧ zQ 104 36 L (zfv a 7 M :: st) M Q := zq_getf (n := 22) (b := false) (by decide +kernel) (by decide +kernel)
theorem q104_36 : zQ 104 36 [v0, .int x, v2, v3] st M Q ↔ zQ 104 37 [v0, .int x, v2, v3] (.int x :: st) M Q := zq_go (i := .iload_n 1) (by decide +kernel) rfl
theorem q104_37 : zQ 104 37 [v0, v1, .int x, v3] st M Q ↔ zQ 104 38 [v0, v1, .int x, v3] (.int x :: st) M Q := zq_go (i := .iload_n 2) (by decide +kernel) rfl
theorem q104_38 : zQ 104 38 L (.int x :: .int y :: .ref a :: st) M Q ↔ (a < zNC ∧ zk a = 7 ∧ zin y (zn a) = true) ∧ zQ 104 39 L st (zup M a y.toNatClampNeg x) Q := zq_iast (by decide +kernel)
theorem q104_39 : zQ 104 39 [v0, v1, v2, .int x] st M Q ↔ zQ 104 40 [v0, v1, v2, .int x] (.int x :: st) M Q := zq_go (i := .iload_n 3) (by decide +kernel) rfl
theorem q104_40 : zQ 104 40 L [.int x] M Q ↔ Q (zI x) M := zq_reI (by decide +kernel) (by decide +kernel)
-- 105 SandKeepersModel.give(II)I
theorem q105_0 : zQ 105 0 [.ref a, v1, v2, v3] st M Q ↔ zQ 105 1 [.ref a, v1, v2, v3] (.ref a :: st) M Q := zq_go (i := .aload_n 0) (by decide +kernel) rfl
theorem q105_1 : zQ 105 1 [v0, .int x, v2, v3] st M Q ↔ zQ 105 2 [v0, .int x, v2, v3] (.int x :: st) M Q := zq_go (i := .iload_n 1) (by decide +kernel) rfl
theorem q105_2 : zQ 105 2 L (.int x1 :: .ref a :: st) M Q ↔ (zcs st ≤ 8 ∧ a < zNC ∧ zk a = 6) ∧ zQ 92 0 [.ref a, .int x1] [] M (fun r M1 => zQ 105 5 L (zpush r st) M1 Q) := zq_callV (n := 145) (j := 92) (b := false) (As := [.int x1]) (by decide +kernel) (by decide +kernel) ⟨by decide +kernel, by decide +kernel, rfl, by decide +kernel, by decide +kernel, Nat.le_of_ble_eq_true rfl⟩ rfl
theorem q105_5 : zQ 105 5 L (.int x :: st) M Q ↔ (x = 0 → zQ 105 8 L st M Q) ∧ (¬ x = 0 → zQ 105 16 L st M Q) := zq_bn (i := .ifCond .ne 11) (off := 11) (by decide +kernel) rfl (by decide) rfl
theorem q105_8 : zQ 105 8 [.ref a, v1, v2, v3] st M Q ↔ zQ 105 9 [.ref a, v1, v2, v3] (.ref a :: st) M Q := zq_go (i := .aload_n 0) (by decide +kernel) rfl
theorem q105_9 : zQ 105 9 [v0, v1, .int x, v3] st M Q ↔ zQ 105 10 [v0, v1, .int x, v3] (.int x :: st) M Q := zq_go (i := .iload_n 2) (by decide +kernel) rfl
theorem q105_10 : zQ 105 10 L (.int x1 :: .ref a :: st) M Q ↔ (zcs st ≤ 8 ∧ a < zNC ∧ zk a = 6) ∧ zQ 92 0 [.ref a, .int x1] [] M (fun r M1 => zQ 105 13 L (zpush r st) M1 Q) := zq_callV (n := 145) (j := 92) (b := false) (As := [.int x1]) (by decide +kernel) (by decide +kernel) ⟨by decide +kernel, by decide +kernel, rfl, by decide +kernel, by decide +kernel, Nat.le_of_ble_eq_true rfl⟩ rfl
theorem q105_13 : zQ 105 13 L (.int x :: st) M Q ↔ (x = 0 → zQ 105 18 L st M Q) ∧ (¬ x = 0 → zQ 105 16 L st M Q) := zq_br (i := .ifCond .eq 5) (off := 5) (by decide +kernel) rfl (by decide) rfl
theorem q105_16 : zQ 105 16 L st M Q ↔ zQ 105 17 L (.int (-1) :: st) M Q := zq_con (n := (-1)) (by decide +kernel) (by decide +kernel) rfl
theorem q105_17 : zQ 105 17 L [.int x] M Q ↔ Q (zI x) M := zq_reI (by decide +kernel) (by decide +kernel)
theorem q105_18 : zQ 105 18 [.ref a, v1, v2, v3] st M Q ↔ zQ 105 19 [.ref a, v1, v2, v3] (.ref a :: st) M Q := zq_go (i := .aload_n 0) (by decide +kernel) rfl
theorem q105_19 : zQ 105 19 L (.ref a :: st) M Q ↔ (a < zNC ∧ zk a = 6) ∧ zQ 105 22 L (zfv a 8 M :: st) M Q := zq_getf (n := 25) (b := false) (by decide +kernel) (by decide +kernel)
theorem q105_22 : zQ 105 22 [v0, .int x, v2, v3] st M Q ↔ zQ 105 23 [v0, .int x, v2, v3] (.int x :: st) M Q := zq_go (i := .iload_n 1) (by decide +kernel) rfl
theorem q105_23 : zQ 105 23 L (.int x :: .ref a :: st) M Q ↔ (a < zNC ∧ zk a = 7 ∧ zin x (zn a) = true) ∧ zQ 105 24 L (.int (M a x.toNatClampNeg) :: st) M Q := zq_iald (by decide +kernel)
theorem q105_24i : zQ 105 24 [v0, v1, .int y, v3] (.int x :: st) M Q ↔ zQ 105 25 [v0, v1, .int y, .int x] st M Q := zq_stI (i := .istore_n 3) (k := 3) (by decide +kernel) rfl (Nat.le_of_ble_eq_true rfl) rfl rfl
theorem q105_24r : zQ 105 24 [v0, v1, .ref r1, v3] (.int x :: st) M Q ↔ zQ 105 25 [v0, v1, .ref r1, .int x] st M Q := zq_stI (i := .istore_n 3) (k := 3) (by decide +kernel) rfl (Nat.le_of_ble_eq_true rfl) rfl rfl
theorem q105_24n : zQ 105 24 [v0, v1, .null, v3] (.int x :: st) M Q ↔ zQ 105 25 [v0, v1, .null, .int x] st M Q := zq_stI (i := .istore_n 3) (k := 3) (by decide +kernel) rfl (Nat.le_of_ble_eq_true rfl) rfl rfl
theorem q105_25 : zQ 105 25 [.ref a, v1, v2, v3] st M Q ↔ zQ 105 26 [.ref a, v1, v2, v3] (.ref a :: st) M Q := zq_go (i := .aload_n 0) (by decide +kernel) rfl
theorem q105_26 : zQ 105 26 L (.ref a :: st) M Q ↔ (a < zNC ∧ zk a = 6) ∧ zQ 105 29 L (zfv a 8 M :: st) M Q := zq_getf (n := 25) (b := false) (by decide +kernel) (by decide +kernel)
theorem q105_29 : zQ 105 29 [v0, .int x, v2, v3] st M Q ↔ zQ 105 30 [v0, .int x, v2, v3] (.int x :: st) M Q := zq_go (i := .iload_n 1) (by decide +kernel) rfl
theorem q105_30 : zQ 105 30 [v0, v1, .int x, v3] st M Q ↔ zQ 105 31 [v0, v1, .int x, v3] (.int x :: st) M Q := zq_go (i := .iload_n 2) (by decide +kernel) rfl
theorem q105_31 : zQ 105 31 L (.int x :: .int y :: .ref a :: st) M Q ↔ (a < zNC ∧ zk a = 7 ∧ zin y (zn a) = true) ∧ zQ 105 32 L st (zup M a y.toNatClampNeg x) Q := zq_iast (by decide +kernel)
theorem q105_32 : zQ 105 32 [v0, v1, v2, .int x] st M Q ↔ zQ 105 33 [v0, v1, v2, .int x] (.int x :: st) M Q := zq_go (i := .iload_n 3) (by decide +kernel) rfl
theorem q105_33 : zQ 105 33 L [.int x] M Q ↔ Q (zI x) M := zq_reI (by decide +kernel) (by decide +kernel)
-- 106 SandKeepersModel.aliveNow()I
theorem q106_0 : zQ 106 0 L st M Q ↔ zQ 106 1 L (.int 0 :: st) M Q := zq_con (n := 0) (by decide +kernel) (by decide +kernel) rfl
theorem q106_1i : zQ 106 1 [.int y, v1, v2] (.int x :: st) M Q ↔ zQ 106 2 [.int y, .int x, v2] st M Q := zq_stI (i := .istore_n 1) (k := 1) (by decide +kernel) rfl (Nat.le_of_ble_eq_true rfl) rfl rfl
theorem q106_1r : zQ 106 1 [.ref r1, v1, v2] (.int x :: st) M Q ↔ zQ 106 2 [.ref r1, .int x, v2] st M Q := zq_stI (i := .istore_n 1) (k := 1) (by decide +kernel) rfl (Nat.le_of_ble_eq_true rfl) rfl rfl
theorem q106_1n : zQ 106 1 [.null, v1, v2] (.int x :: st) M Q ↔ zQ 106 2 [.null, .int x, v2] st M Q := zq_stI (i := .istore_n 1) (k := 1) (by decide +kernel) rfl (Nat.le_of_ble_eq_true rfl) rfl rfl
theorem q106_2 : zQ 106 2 L st M Q ↔ zQ 106 3 L (.int 0 :: st) M Q := zq_con (n := 0) (by decide +kernel) (by decide +kernel) rfl
theorem q106_3i : zQ 106 3 [v0, .int y, v2] (.int x :: st) M Q ↔ zQ 106 4 [v0, .int y, .int x] st M Q := zq_stI (i := .istore_n 2) (k := 2) (by decide +kernel) rfl (Nat.le_of_ble_eq_true rfl) rfl rfl
theorem q106_3r : zQ 106 3 [v0, .ref r1, v2] (.int x :: st) M Q ↔ zQ 106 4 [v0, .ref r1, .int x] st M Q := zq_stI (i := .istore_n 2) (k := 2) (by decide +kernel) rfl (Nat.le_of_ble_eq_true rfl) rfl rfl
theorem q106_3n : zQ 106 3 [v0, .null, v2] (.int x :: st) M Q ↔ zQ 106 4 [v0, .null, .int x] st M Q := zq_stI (i := .istore_n 2) (k := 2) (by decide +kernel) rfl (Nat.le_of_ble_eq_true rfl) rfl rfl
theorem q106_4 : zQ 106 4 [v0, v1, .int x] st M Q ↔ zQ 106 5 [v0, v1, .int x] (.int x :: st) M Q := zq_go (i := .iload_n 2) (by decide +kernel) rfl
theorem q106_5 : zQ 106 5 [.ref a, v1, v2] st M Q ↔ zQ 106 6 [.ref a, v1, v2] (.ref a :: st) M Q := zq_go (i := .aload_n 0) (by decide +kernel) rfl
theorem q106_6 : zQ 106 6 L (.ref a :: st) M Q ↔ (a < zNC ∧ zk a = 6) ∧ zQ 106 9 L (zfv a 1 M :: st) M Q := zq_getf (n := 86) (b := false) (by decide +kernel) (by decide +kernel)
theorem q106_9 : zQ 106 9 L (.int y :: .int x :: st) M Q ↔ (y ≤ x → zQ 106 36 L st M Q) ∧ (¬ y ≤ x → zQ 106 12 L st M Q) := zq_br (i := .if_icmp .ge 27) (off := 27) (by decide +kernel) rfl (by decide) rfl
theorem q106_12 : zQ 106 12 [v0, .int x, v2] st M Q ↔ zQ 106 13 [v0, .int x, v2] (.int x :: st) M Q := zq_go (i := .iload_n 1) (by decide +kernel) rfl
theorem q106_13 : zQ 106 13 [.ref a, v1, v2] st M Q ↔ zQ 106 14 [.ref a, v1, v2] (.ref a :: st) M Q := zq_go (i := .aload_n 0) (by decide +kernel) rfl
theorem q106_14 : zQ 106 14 [v0, v1, .int x] st M Q ↔ zQ 106 15 [v0, v1, .int x] (.int x :: st) M Q := zq_go (i := .iload_n 2) (by decide +kernel) rfl
theorem q106_15 : zQ 106 15 L (.int x1 :: .ref a :: st) M Q ↔ (zcs st ≤ 8 ∧ a < zNC ∧ zk a = 6) ∧ zQ 100 0 [.ref a, .int x1] [] M (fun r M1 => zQ 106 18 L (zpush r st) M1 Q) := zq_callV (n := 155) (j := 100) (b := false) (As := [.int x1]) (by decide +kernel) (by decide +kernel) ⟨by decide +kernel, by decide +kernel, rfl, by decide +kernel, by decide +kernel, Nat.le_of_ble_eq_true rfl⟩ rfl
theorem q106_18 : zQ 106 18 L (.int x :: st) M Q ↔ (x = 0 → zQ 106 27 L st M Q) ∧ (¬ x = 0 → zQ 106 21 L st M Q) := zq_br (i := .ifCond .eq 9) (off := 9) (by decide +kernel) rfl (by decide) rfl
theorem q106_21 : zQ 106 21 L st M Q ↔ zQ 106 22 L (.int 1 :: st) M Q := zq_con (n := 1) (by decide +kernel) (by decide +kernel) rfl
theorem q106_22 : zQ 106 22 [v0, v1, .int x] st M Q ↔ zQ 106 23 [v0, v1, .int x] (.int x :: st) M Q := zq_go (i := .iload_n 2) (by decide +kernel) rfl
theorem q106_23 : zQ 106 23 L (.int y :: .int x :: st) M Q ↔ zQ 106 24 L (.int (x <<< (y &&& 31)) :: st) M Q := zq_go (i := .ishl) (by decide +kernel) rfl
theorem q106_24 : zQ 106 24 L st M Q ↔ zQ 106 28 L st M Q := zq_jmp (off := 4) (by decide +kernel) (by decide)
theorem q106_27 : zQ 106 27 L st M Q ↔ zQ 106 28 L (.int 0 :: st) M Q := zq_con (n := 0) (by decide +kernel) (by decide +kernel) rfl
theorem q106_28 : zQ 106 28 L (.int y :: .int x :: st) M Q ↔ zQ 106 29 L (.int (x ||| y) :: st) M Q := zq_go (i := .ior) (by decide +kernel) rfl
theorem q106_29i : zQ 106 29 [.int y, v1, v2] (.int x :: st) M Q ↔ zQ 106 30 [.int y, .int x, v2] st M Q := zq_stI (i := .istore_n 1) (k := 1) (by decide +kernel) rfl (Nat.le_of_ble_eq_true rfl) rfl rfl
theorem q106_29r : zQ 106 29 [.ref r1, v1, v2] (.int x :: st) M Q ↔ zQ 106 30 [.ref r1, .int x, v2] st M Q := zq_stI (i := .istore_n 1) (k := 1) (by decide +kernel) rfl (Nat.le_of_ble_eq_true rfl) rfl rfl
theorem q106_29n : zQ 106 29 [.null, v1, v2] (.int x :: st) M Q ↔ zQ 106 30 [.null, .int x, v2] st M Q := zq_stI (i := .istore_n 1) (k := 1) (by decide +kernel) rfl (Nat.le_of_ble_eq_true rfl) rfl rfl
theorem q106_30i : zQ 106 30 [v0, .int y, .int x] st M Q ↔ zQ 106 33 [v0, .int y, .int (x + 1)] st M Q := zq_inc (k := 2) (n := 1) (x := x) (v := 1) (by decide +kernel) (by decide +kernel) rfl rfl rfl rfl
theorem q106_30r : zQ 106 30 [v0, .ref r1, .int x] st M Q ↔ zQ 106 33 [v0, .ref r1, .int (x + 1)] st M Q := zq_inc (k := 2) (n := 1) (x := x) (v := 1) (by decide +kernel) (by decide +kernel) rfl rfl rfl rfl
theorem q106_30n : zQ 106 30 [v0, .null, .int x] st M Q ↔ zQ 106 33 [v0, .null, .int (x + 1)] st M Q := zq_inc (k := 2) (n := 1) (x := x) (v := 1) (by decide +kernel) (by decide +kernel) rfl rfl rfl rfl
theorem q106_33 : zQ 106 33 L st M Q ↔ zQ 106 4 L st M Q := zq_jmp (off := (-29)) (by decide +kernel) (by decide)
theorem q106_36 : zQ 106 36 [v0, .int x, v2] st M Q ↔ zQ 106 37 [v0, .int x, v2] (.int x :: st) M Q := zq_go (i := .iload_n 1) (by decide +kernel) rfl
theorem q106_37 : zQ 106 37 L [.int x] M Q ↔ Q (zI x) M := zq_reI (by decide +kernel) (by decide +kernel)
-- 107 SandKeepersModel.alive(I)I
theorem q107_0 : zQ 107 0 [.ref a, v1] st M Q ↔ zQ 107 1 [.ref a, v1] (.ref a :: st) M Q := zq_go (i := .aload_n 0) (by decide +kernel) rfl
theorem q107_1 : zQ 107 1 L (.ref a :: st) M Q ↔ (a < zNC ∧ zk a = 6) ∧ zQ 107 4 L (zfv a 1 M :: st) M Q := zq_getf (n := 86) (b := false) (by decide +kernel) (by decide +kernel)
theorem q107_4 : zQ 107 4 L (.int x :: st) M Q ↔ (x = 0 → zQ 107 7 L st M Q) ∧ (¬ x = 0 → zQ 107 10 L st M Q) := zq_bn (i := .ifCond .ne 6) (off := 6) (by decide +kernel) rfl (by decide) rfl
theorem q107_7 : zQ 107 7 L st M Q ↔ zQ 107 9 L (.int (-3) :: st) M Q := zq_bip (n := (-3)) (by decide +kernel) (by decide +kernel) rfl
theorem q107_9 : zQ 107 9 L [.int x] M Q ↔ Q (zI x) M := zq_reI (by decide +kernel) (by decide +kernel)
theorem q107_10 : zQ 107 10 [v0, .int x] st M Q ↔ zQ 107 11 [v0, .int x] (.int x :: st) M Q := zq_go (i := .iload_n 1) (by decide +kernel) rfl
theorem q107_11 : zQ 107 11 L (.int x :: st) M Q ↔ (x = 0 → zQ 107 14 L st M Q) ∧ (¬ x = 0 → zQ 107 21 L st M Q) := zq_bn (i := .ifCond .ne 10) (off := 10) (by decide +kernel) rfl (by decide) rfl
theorem q107_14 : zQ 107 14 [.ref a, v1] st M Q ↔ zQ 107 15 [.ref a, v1] (.ref a :: st) M Q := zq_go (i := .aload_n 0) (by decide +kernel) rfl
theorem q107_15 : zQ 107 15 L (.ref a :: st) M Q ↔ (zcs st ≤ 8 ∧ a < zNC ∧ zk a = 6) ∧ zQ 106 0 [.ref a, .null, .null] [] M (fun r M1 => zQ 107 18 L (zpush r st) M1 Q) := zq_callV (n := 158) (j := 106) (b := false) (As := []) (by decide +kernel) (by decide +kernel) ⟨by decide +kernel, by decide +kernel, rfl, by decide +kernel, by decide +kernel, Nat.le_of_ble_eq_true rfl⟩ rfl
theorem q107_18 : zQ 107 18 L st M Q ↔ zQ 107 40 L st M Q := zq_jmp (off := 22) (by decide +kernel) (by decide)
theorem q107_21 : zQ 107 21 [v0, .int x] st M Q ↔ zQ 107 22 [v0, .int x] (.int x :: st) M Q := zq_go (i := .iload_n 1) (by decide +kernel) rfl
theorem q107_22 : zQ 107 22 L st M Q ↔ zQ 107 23 L (.int 1 :: st) M Q := zq_con (n := 1) (by decide +kernel) (by decide +kernel) rfl
theorem q107_23 : zQ 107 23 L (.int y :: .int x :: st) M Q ↔ (x = y → zQ 107 26 L st M Q) ∧ (¬ x = y → zQ 107 38 L st M Q) := zq_bn (i := .if_icmp .ne 15) (off := 15) (by decide +kernel) rfl (by decide) rfl
theorem q107_26 : zQ 107 26 [.ref a, v1] st M Q ↔ zQ 107 27 [.ref a, v1] (.ref a :: st) M Q := zq_go (i := .aload_n 0) (by decide +kernel) rfl
theorem q107_27 : zQ 107 27 L (.ref a :: st) M Q ↔ (zcs st ≤ 8 ∧ a < zNC ∧ zk a = 6) ∧ zQ 106 0 [.ref a, .null, .null] [] M (fun r M1 => zQ 107 30 L (zpush r st) M1 Q) := zq_callV (n := 158) (j := 106) (b := false) (As := []) (by decide +kernel) (by decide +kernel) ⟨by decide +kernel, by decide +kernel, rfl, by decide +kernel, by decide +kernel, Nat.le_of_ble_eq_true rfl⟩ rfl
theorem q107_30 : zQ 107 30 [.ref a, v1] st M Q ↔ zQ 107 31 [.ref a, v1] (.ref a :: st) M Q := zq_go (i := .aload_n 0) (by decide +kernel) rfl
theorem q107_31 : zQ 107 31 L (.ref a :: st) M Q ↔ (a < zNC ∧ zk a = 6) ∧ zQ 107 34 L (zfv a 9 M :: st) M Q := zq_getf (n := 139) (b := false) (by decide +kernel) (by decide +kernel)
theorem q107_34 : zQ 107 34 L (.int y :: .int x :: st) M Q ↔ zQ 107 35 L (.int (x &&& y) :: st) M Q := zq_go (i := .iand) (by decide +kernel) rfl
theorem q107_35 : zQ 107 35 L st M Q ↔ zQ 107 40 L st M Q := zq_jmp (off := 5) (by decide +kernel) (by decide)
theorem q107_38 : zQ 107 38 L st M Q ↔ zQ 107 40 L (.int (-2) :: st) M Q := zq_bip (n := (-2)) (by decide +kernel) (by decide +kernel) rfl
theorem q107_40 : zQ 107 40 L [.int x] M Q ↔ Q (zI x) M := zq_reI (by decide +kernel) (by decide +kernel)
-- 108 SandKeepersModel.can(II)Z
theorem q108_0 : zQ 108 0 [.ref a, v1, v2, v3, v4] st M Q ↔ zQ 108 1 [.ref a, v1, v2, v3, v4] (.ref a :: st) M Q := zq_go (i := .aload_n 0) (by decide +kernel) rfl
theorem q108_1 : zQ 108 1 L (.ref a :: st) M Q ↔ (a < zNC ∧ zk a = 6) ∧ zQ 108 4 L (zfv a 9 M :: st) M Q := zq_getf (n := 139) (b := false) (by decide +kernel) (by decide +kernel)
theorem q108_4 : zQ 108 4 [v0, .int x, v2, v3, v4] st M Q ↔ zQ 108 5 [v0, .int x, v2, v3, v4] (.int x :: st) M Q := zq_go (i := .iload_n 1) (by decide +kernel) rfl
theorem q108_5 : zQ 108 5 L (.int x2 :: .int x1 :: st) M Q ↔ zcs st ≤ 8 ∧ zQ 86 0 [.int x1, .int x2] [] M (fun r M1 => zQ 108 8 L (zpush r st) M1 Q) := zq_callS (n := 162) (j := 86) (b := false) (As := [.int x1, .int x2]) (by decide +kernel) (by decide +kernel) ⟨by decide +kernel, by decide +kernel, rfl, by decide +kernel, by decide +kernel, Nat.le_of_ble_eq_true rfl⟩ rfl
theorem q108_8i : zQ 108 8 [v0, v1, .int y, v3, v4] (.int x :: st) M Q ↔ zQ 108 9 [v0, v1, .int y, .int x, v4] st M Q := zq_stI (i := .istore_n 3) (k := 3) (by decide +kernel) rfl (Nat.le_of_ble_eq_true rfl) rfl rfl
theorem q108_8r : zQ 108 8 [v0, v1, .ref r1, v3, v4] (.int x :: st) M Q ↔ zQ 108 9 [v0, v1, .ref r1, .int x, v4] st M Q := zq_stI (i := .istore_n 3) (k := 3) (by decide +kernel) rfl (Nat.le_of_ble_eq_true rfl) rfl rfl
theorem q108_8n : zQ 108 8 [v0, v1, .null, v3, v4] (.int x :: st) M Q ↔ zQ 108 9 [v0, v1, .null, .int x, v4] st M Q := zq_stI (i := .istore_n 3) (k := 3) (by decide +kernel) rfl (Nat.le_of_ble_eq_true rfl) rfl rfl
theorem q108_9 : zQ 108 9 [.ref a, v1, v2, v3, v4] st M Q ↔ zQ 108 10 [.ref a, v1, v2, v3, v4] (.ref a :: st) M Q := zq_go (i := .aload_n 0) (by decide +kernel) rfl
theorem q108_10 : zQ 108 10 L (.ref a :: st) M Q ↔ (a < zNC ∧ zk a = 6) ∧ zQ 108 13 L (zfv a 8 M :: st) M Q := zq_getf (n := 25) (b := false) (by decide +kernel) (by decide +kernel)
theorem q108_13 : zQ 108 13 [v0, .int x, v2, v3, v4] st M Q ↔ zQ 108 14 [v0, .int x, v2, v3, v4] (.int x :: st) M Q := zq_go (i := .iload_n 1) (by decide +kernel) rfl
theorem q108_14 : zQ 108 14 L (.int x :: .ref a :: st) M Q ↔ (a < zNC ∧ zk a = 7 ∧ zin x (zn a) = true) ∧ zQ 108 15 L (.int (M a x.toNatClampNeg) :: st) M Q := zq_iald (by decide +kernel)
theorem q108_15i : zQ 108 15 [v0, v1, v2, .int y, v4] (.int x :: st) M Q ↔ zQ 108 17 [v0, v1, v2, .int y, .int x] st M Q := zq_stI (i := .istore 4) (k := 4) (by decide +kernel) rfl (Nat.le_of_ble_eq_true rfl) rfl rfl
theorem q108_15r : zQ 108 15 [v0, v1, v2, .ref r1, v4] (.int x :: st) M Q ↔ zQ 108 17 [v0, v1, v2, .ref r1, .int x] st M Q := zq_stI (i := .istore 4) (k := 4) (by decide +kernel) rfl (Nat.le_of_ble_eq_true rfl) rfl rfl
theorem q108_15n : zQ 108 15 [v0, v1, v2, .null, v4] (.int x :: st) M Q ↔ zQ 108 17 [v0, v1, v2, .null, .int x] st M Q := zq_stI (i := .istore 4) (k := 4) (by decide +kernel) rfl (Nat.le_of_ble_eq_true rfl) rfl rfl
theorem q108_17 : zQ 108 17 [.ref a, v1, v2, v3, v4] st M Q ↔ zQ 108 18 [.ref a, v1, v2, v3, v4] (.ref a :: st) M Q := zq_go (i := .aload_n 0) (by decide +kernel) rfl
theorem q108_18 : zQ 108 18 [v0, .int x, v2, v3, v4] st M Q ↔ zQ 108 19 [v0, .int x, v2, v3, v4] (.int x :: st) M Q := zq_go (i := .iload_n 1) (by decide +kernel) rfl
theorem q108_19 : zQ 108 19 L (.int x1 :: .ref a :: st) M Q ↔ (zcs st ≤ 8 ∧ a < zNC ∧ zk a = 6) ∧ zQ 100 0 [.ref a, .int x1] [] M (fun r M1 => zQ 108 22 L (zpush r st) M1 Q) := zq_callV (n := 155) (j := 100) (b := false) (As := [.int x1]) (by decide +kernel) (by decide +kernel) ⟨by decide +kernel, by decide +kernel, rfl, by decide +kernel, by decide +kernel, Nat.le_of_ble_eq_true rfl⟩ rfl
theorem q108_22 : zQ 108 22 L (.int x :: st) M Q ↔ (x = 0 → zQ 108 64 L st M Q) ∧ (¬ x = 0 → zQ 108 25 L st M Q) := zq_br (i := .ifCond .eq 42) (off := 42) (by decide +kernel) rfl (by decide) rfl
theorem q108_25 : zQ 108 25 [.ref a, v1, v2, v3, v4] st M Q ↔ zQ 108 26 [.ref a, v1, v2, v3, v4] (.ref a :: st) M Q := zq_go (i := .aload_n 0) (by decide +kernel) rfl
theorem q108_26 : zQ 108 26 [v0, v1, v2, v3, .int x] st M Q ↔ zQ 108 28 [v0, v1, v2, v3, .int x] (.int x :: st) M Q := zq_go (i := .iload 4) (by decide +kernel) rfl
theorem q108_28 : zQ 108 28 L (.int x1 :: .ref a :: st) M Q ↔ (zcs st ≤ 8 ∧ a < zNC ∧ zk a = 6) ∧ zQ 100 0 [.ref a, .int x1] [] M (fun r M1 => zQ 108 31 L (zpush r st) M1 Q) := zq_callV (n := 155) (j := 100) (b := false) (As := [.int x1]) (by decide +kernel) (by decide +kernel) ⟨by decide +kernel, by decide +kernel, rfl, by decide +kernel, by decide +kernel, Nat.le_of_ble_eq_true rfl⟩ rfl
theorem q108_31 : zQ 108 31 L (.int x :: st) M Q ↔ (x = 0 → zQ 108 64 L st M Q) ∧ (¬ x = 0 → zQ 108 34 L st M Q) := zq_br (i := .ifCond .eq 33) (off := 33) (by decide +kernel) rfl (by decide) rfl
theorem q108_34 : zQ 108 34 [.ref a, v1, v2, v3, v4] st M Q ↔ zQ 108 35 [.ref a, v1, v2, v3, v4] (.ref a :: st) M Q := zq_go (i := .aload_n 0) (by decide +kernel) rfl
theorem q108_35 : zQ 108 35 L (.ref a :: st) M Q ↔ (a < zNC ∧ zk a = 6) ∧ zQ 108 38 L (zfv a 9 M :: st) M Q := zq_getf (n := 139) (b := false) (by decide +kernel) (by decide +kernel)
theorem q108_38 : zQ 108 38 [v0, v1, v2, v3, .int x] st M Q ↔ zQ 108 40 [v0, v1, v2, v3, .int x] (.int x :: st) M Q := zq_go (i := .iload 4) (by decide +kernel) rfl
theorem q108_40 : zQ 108 40 L (.int x2 :: .int x1 :: st) M Q ↔ zcs st ≤ 8 ∧ zQ 86 0 [.int x1, .int x2] [] M (fun r M1 => zQ 108 43 L (zpush r st) M1 Q) := zq_callS (n := 162) (j := 86) (b := false) (As := [.int x1, .int x2]) (by decide +kernel) (by decide +kernel) ⟨by decide +kernel, by decide +kernel, rfl, by decide +kernel, by decide +kernel, Nat.le_of_ble_eq_true rfl⟩ rfl
theorem q108_43 : zQ 108 43 L (.int x :: st) M Q ↔ (x = 0 → zQ 108 46 L st M Q) ∧ (¬ x = 0 → zQ 108 64 L st M Q) := zq_bn (i := .ifCond .ne 21) (off := 21) (by decide +kernel) rfl (by decide) rfl
theorem q108_46 : zQ 108 46 [v0, v1, v2, .int x, v4] st M Q ↔ zQ 108 47 [v0, v1, v2, .int x, v4] (.int x :: st) M Q := zq_go (i := .iload_n 3) (by decide +kernel) rfl
theorem q108_47 : zQ 108 47 [v0, v1, .int x, v3, v4] st M Q ↔ zQ 108 48 [v0, v1, .int x, v3, v4] (.int x :: st) M Q := zq_go (i := .iload_n 2) (by decide +kernel) rfl
theorem q108_48 : zQ 108 48 L st M Q ↔ zQ 108 49 L (.int 1 :: st) M Q := zq_con (n := 1) (by decide +kernel) (by decide +kernel) rfl
theorem q108_49 : zQ 108 49 L (.int y :: .int x :: st) M Q ↔ (x = y → zQ 108 52 L st M Q) ∧ (¬ x = y → zQ 108 56 L st M Q) := zq_bn (i := .if_icmp .ne 7) (off := 7) (by decide +kernel) rfl (by decide) rfl
theorem q108_52 : zQ 108 52 L st M Q ↔ zQ 108 53 L (.int 1 :: st) M Q := zq_con (n := 1) (by decide +kernel) (by decide +kernel) rfl
theorem q108_53 : zQ 108 53 L st M Q ↔ zQ 108 57 L st M Q := zq_jmp (off := 4) (by decide +kernel) (by decide)
theorem q108_56 : zQ 108 56 L st M Q ↔ zQ 108 57 L (.int 0 :: st) M Q := zq_con (n := 0) (by decide +kernel) (by decide +kernel) rfl
theorem q108_57 : zQ 108 57 L (.int y :: .int x :: st) M Q ↔ (x = y → zQ 108 60 L st M Q) ∧ (¬ x = y → zQ 108 64 L st M Q) := zq_bn (i := .if_icmp .ne 7) (off := 7) (by decide +kernel) rfl (by decide) rfl
theorem q108_60 : zQ 108 60 L st M Q ↔ zQ 108 61 L (.int 1 :: st) M Q := zq_con (n := 1) (by decide +kernel) (by decide +kernel) rfl
theorem q108_61 : zQ 108 61 L st M Q ↔ zQ 108 65 L st M Q := zq_jmp (off := 4) (by decide +kernel) (by decide)
theorem q108_64 : zQ 108 64 L st M Q ↔ zQ 108 65 L (.int 0 :: st) M Q := zq_con (n := 0) (by decide +kernel) (by decide +kernel) rfl
theorem q108_65 : zQ 108 65 L [.int x] M Q ↔ (x = 0 ∨ x = 1) ∧ Q (zI x) M := zq_reZ (by decide +kernel) (by decide +kernel)
-- 109 SandKeepersModel.done(II)I
theorem q109_0 : zQ 109 0 [.ref a, v1, v2] st M Q ↔ zQ 109 1 [.ref a, v1, v2] (.ref a :: st) M Q := zq_go (i := .aload_n 0) (by decide +kernel) rfl
theorem q109_1 : zQ 109 1 [v0, .int x, v2] st M Q ↔ zQ 109 2 [v0, .int x, v2] (.int x :: st) M Q := zq_go (i := .iload_n 1) (by decide +kernel) rfl
theorem q109_2 : zQ 109 2 [v0, v1, .int x] st M Q ↔ zQ 109 3 [v0, v1, .int x] (.int x :: st) M Q := zq_go (i := .iload_n 2) (by decide +kernel) rfl
theorem q109_3 : zQ 109 3 L (.int x2 :: .int x1 :: .ref a :: st) M Q ↔ (zcs st ≤ 8 ∧ a < zNC ∧ zk a = 6) ∧ zQ 108 0 [.ref a, .int x1, .int x2, .null, .null] [] M (fun r M1 => zQ 109 6 L (zpush r st) M1 Q) := zq_callV (n := 165) (j := 108) (b := false) (As := [.int x1, .int x2]) (by decide +kernel) (by decide +kernel) ⟨by decide +kernel, by decide +kernel, rfl, by decide +kernel, by decide +kernel, Nat.le_of_ble_eq_true rfl⟩ rfl
theorem q109_6 : zQ 109 6 L (.int x :: st) M Q ↔ (x = 0 → zQ 109 9 L st M Q) ∧ (¬ x = 0 → zQ 109 12 L st M Q) := zq_bn (i := .ifCond .ne 6) (off := 6) (by decide +kernel) rfl (by decide) rfl
theorem q109_9 : zQ 109 9 L st M Q ↔ zQ 109 11 L (.int (-3) :: st) M Q := zq_bip (n := (-3)) (by decide +kernel) (by decide +kernel) rfl
theorem q109_11 : zQ 109 11 L [.int x] M Q ↔ Q (zI x) M := zq_reI (by decide +kernel) (by decide +kernel)
theorem q109_12 : zQ 109 12 [.ref a, v1, v2] st M Q ↔ zQ 109 13 [.ref a, v1, v2] (.ref a :: st) M Q := zq_go (i := .aload_n 0) (by decide +kernel) rfl
theorem q109_13 : zQ 109 13 [v0, v1, .int x] st M Q ↔ zQ 109 14 [v0, v1, .int x] (.int x :: st) M Q := zq_go (i := .iload_n 2) (by decide +kernel) rfl
theorem q109_14 : zQ 109 14 L (.int x :: st) M Q ↔ (x = 0 → zQ 109 17 L st M Q) ∧ (¬ x = 0 → zQ 109 28 L st M Q) := zq_bn (i := .ifCond .ne 14) (off := 14) (by decide +kernel) rfl (by decide) rfl
theorem q109_17 : zQ 109 17 [.ref a, v1, v2] st M Q ↔ zQ 109 18 [.ref a, v1, v2] (.ref a :: st) M Q := zq_go (i := .aload_n 0) (by decide +kernel) rfl
theorem q109_18 : zQ 109 18 L (.ref a :: st) M Q ↔ (a < zNC ∧ zk a = 6) ∧ zQ 109 21 L (zfv a 9 M :: st) M Q := zq_getf (n := 139) (b := false) (by decide +kernel) (by decide +kernel)
theorem q109_21 : zQ 109 21 L st M Q ↔ zQ 109 22 L (.int 1 :: st) M Q := zq_con (n := 1) (by decide +kernel) (by decide +kernel) rfl
theorem q109_22 : zQ 109 22 [v0, .int x, v2] st M Q ↔ zQ 109 23 [v0, .int x, v2] (.int x :: st) M Q := zq_go (i := .iload_n 1) (by decide +kernel) rfl
theorem q109_23 : zQ 109 23 L (.int y :: .int x :: st) M Q ↔ zQ 109 24 L (.int (x <<< (y &&& 31)) :: st) M Q := zq_go (i := .ishl) (by decide +kernel) rfl
theorem q109_24 : zQ 109 24 L (.int y :: .int x :: st) M Q ↔ zQ 109 25 L (.int (x ||| y) :: st) M Q := zq_go (i := .ior) (by decide +kernel) rfl
theorem q109_25 : zQ 109 25 L st M Q ↔ zQ 109 50 L st M Q := zq_jmp (off := 25) (by decide +kernel) (by decide)
theorem q109_28 : zQ 109 28 [v0, v1, .int x] st M Q ↔ zQ 109 29 [v0, v1, .int x] (.int x :: st) M Q := zq_go (i := .iload_n 2) (by decide +kernel) rfl
theorem q109_29 : zQ 109 29 L st M Q ↔ zQ 109 30 L (.int 1 :: st) M Q := zq_con (n := 1) (by decide +kernel) (by decide +kernel) rfl
theorem q109_30 : zQ 109 30 L (.int y :: .int x :: st) M Q ↔ (x = y → zQ 109 33 L st M Q) ∧ (¬ x = y → zQ 109 46 L st M Q) := zq_bn (i := .if_icmp .ne 16) (off := 16) (by decide +kernel) rfl (by decide) rfl
theorem q109_33 : zQ 109 33 [.ref a, v1, v2] st M Q ↔ zQ 109 34 [.ref a, v1, v2] (.ref a :: st) M Q := zq_go (i := .aload_n 0) (by decide +kernel) rfl
theorem q109_34 : zQ 109 34 L (.ref a :: st) M Q ↔ (a < zNC ∧ zk a = 6) ∧ zQ 109 37 L (zfv a 9 M :: st) M Q := zq_getf (n := 139) (b := false) (by decide +kernel) (by decide +kernel)
theorem q109_37 : zQ 109 37 L st M Q ↔ zQ 109 38 L (.int 1 :: st) M Q := zq_con (n := 1) (by decide +kernel) (by decide +kernel) rfl
theorem q109_38 : zQ 109 38 [v0, .int x, v2] st M Q ↔ zQ 109 39 [v0, .int x, v2] (.int x :: st) M Q := zq_go (i := .iload_n 1) (by decide +kernel) rfl
theorem q109_39 : zQ 109 39 L (.int y :: .int x :: st) M Q ↔ zQ 109 40 L (.int (x <<< (y &&& 31)) :: st) M Q := zq_go (i := .ishl) (by decide +kernel) rfl
theorem q109_40 : zQ 109 40 L st M Q ↔ zQ 109 41 L (.int (-1) :: st) M Q := zq_con (n := (-1)) (by decide +kernel) (by decide +kernel) rfl
theorem q109_41 : zQ 109 41 L (.int y :: .int x :: st) M Q ↔ zQ 109 42 L (.int (x ^^^ y) :: st) M Q := zq_go (i := .ixor) (by decide +kernel) rfl
theorem q109_42 : zQ 109 42 L (.int y :: .int x :: st) M Q ↔ zQ 109 43 L (.int (x &&& y) :: st) M Q := zq_go (i := .iand) (by decide +kernel) rfl
theorem q109_43 : zQ 109 43 L st M Q ↔ zQ 109 50 L st M Q := zq_jmp (off := 7) (by decide +kernel) (by decide)
theorem q109_46 : zQ 109 46 [.ref a, v1, v2] st M Q ↔ zQ 109 47 [.ref a, v1, v2] (.ref a :: st) M Q := zq_go (i := .aload_n 0) (by decide +kernel) rfl
theorem q109_47 : zQ 109 47 L (.ref a :: st) M Q ↔ (a < zNC ∧ zk a = 6) ∧ zQ 109 50 L (zfv a 9 M :: st) M Q := zq_getf (n := 139) (b := false) (by decide +kernel) (by decide +kernel)
theorem q109_50 : zQ 109 50 L (.int x :: .ref a :: st) M Q ↔ (a < zNC ∧ zk a = 6 ∧ zf a 9 = none) ∧ zQ 109 53 L st (zup M a 9 x) Q := zq_putf (n := 139) (b := false) (by decide +kernel) (by decide +kernel) (by decide +kernel)
theorem q109_53 : zQ 109 53 [.ref a, v1, v2] st M Q ↔ zQ 109 54 [.ref a, v1, v2] (.ref a :: st) M Q := zq_go (i := .aload_n 0) (by decide +kernel) rfl
theorem q109_54 : zQ 109 54 L (.ref a :: st) M Q ↔ (a < zNC ∧ zk a = 6) ∧ zQ 109 57 L (zfv a 4 M :: st) M Q := zq_getf (n := 13) (b := false) (by decide +kernel) (by decide +kernel)
theorem q109_57 : zQ 109 57 [v0, .int x, v2] st M Q ↔ zQ 109 58 [v0, .int x, v2] (.int x :: st) M Q := zq_go (i := .iload_n 1) (by decide +kernel) rfl
theorem q109_58 : zQ 109 58 [v0, v1, .int x] st M Q ↔ zQ 109 59 [v0, v1, .int x] (.int x :: st) M Q := zq_go (i := .iload_n 2) (by decide +kernel) rfl
theorem q109_59 : zQ 109 59 L st M Q ↔ zQ 109 60 L (.int 2 :: st) M Q := zq_con (n := 2) (by decide +kernel) (by decide +kernel) rfl
theorem q109_60 : zQ 109 60 L (.int y :: .int x :: st) M Q ↔ (x = y → zQ 109 63 L st M Q) ∧ (¬ x = y → zQ 109 79 L st M Q) := zq_bn (i := .if_icmp .ne 19) (off := 19) (by decide +kernel) rfl (by decide) rfl
theorem q109_63 : zQ 109 63 [.ref a, v1, v2] st M Q ↔ zQ 109 64 [.ref a, v1, v2] (.ref a :: st) M Q := zq_go (i := .aload_n 0) (by decide +kernel) rfl
theorem q109_64 : zQ 109 64 L (.ref a :: st) M Q ↔ (a < zNC ∧ zk a = 6) ∧ zQ 109 67 L (zfv a 5 M :: st) M Q := zq_getf (n := 16) (b := false) (by decide +kernel) (by decide +kernel)
theorem q109_67 : zQ 109 67 [v0, .int x, v2] st M Q ↔ zQ 109 68 [v0, .int x, v2] (.int x :: st) M Q := zq_go (i := .iload_n 1) (by decide +kernel) rfl
theorem q109_68 : zQ 109 68 L (.int x :: .ref a :: st) M Q ↔ (a < zNC ∧ zk a = 7 ∧ zin x (zn a) = true) ∧ zQ 109 69 L (.int (M a x.toNatClampNeg) :: st) M Q := zq_iald (by decide +kernel)
theorem q109_69 : zQ 109 69 [.ref a, v1, v2] st M Q ↔ zQ 109 70 [.ref a, v1, v2] (.ref a :: st) M Q := zq_go (i := .aload_n 0) (by decide +kernel) rfl
theorem q109_70 : zQ 109 70 L (.ref a :: st) M Q ↔ (a < zNC ∧ zk a = 6) ∧ zQ 109 73 L (zfv a 4 M :: st) M Q := zq_getf (n := 13) (b := false) (by decide +kernel) (by decide +kernel)
theorem q109_73 : zQ 109 73 [v0, .int x, v2] st M Q ↔ zQ 109 74 [v0, .int x, v2] (.int x :: st) M Q := zq_go (i := .iload_n 1) (by decide +kernel) rfl
theorem q109_74 : zQ 109 74 L (.int x :: .ref a :: st) M Q ↔ (a < zNC ∧ zk a = 7 ∧ zin x (zn a) = true) ∧ zQ 109 75 L (.int (M a x.toNatClampNeg) :: st) M Q := zq_iald (by decide +kernel)
theorem q109_75 : zQ 109 75 L (.int y :: .int x :: st) M Q ↔ zQ 109 76 L (.int (x - y) :: st) M Q := zq_go (i := .isub) (by decide +kernel) rfl
theorem q109_76 : zQ 109 76 L st M Q ↔ zQ 109 85 L st M Q := zq_jmp (off := 9) (by decide +kernel) (by decide)
theorem q109_79 : zQ 109 79 [.ref a, v1, v2] st M Q ↔ zQ 109 80 [.ref a, v1, v2] (.ref a :: st) M Q := zq_go (i := .aload_n 0) (by decide +kernel) rfl
theorem q109_80 : zQ 109 80 L (.ref a :: st) M Q ↔ (a < zNC ∧ zk a = 6) ∧ zQ 109 83 L (zfv a 4 M :: st) M Q := zq_getf (n := 13) (b := false) (by decide +kernel) (by decide +kernel)
theorem q109_83 : zQ 109 83 [v0, .int x, v2] st M Q ↔ zQ 109 84 [v0, .int x, v2] (.int x :: st) M Q := zq_go (i := .iload_n 1) (by decide +kernel) rfl
theorem q109_84 : zQ 109 84 L (.int x :: .ref a :: st) M Q ↔ (a < zNC ∧ zk a = 7 ∧ zin x (zn a) = true) ∧ zQ 109 85 L (.int (M a x.toNatClampNeg) :: st) M Q := zq_iald (by decide +kernel)
theorem q109_85 : zQ 109 85 L (.int x :: .int y :: .ref a :: st) M Q ↔ (a < zNC ∧ zk a = 7 ∧ zin y (zn a) = true) ∧ zQ 109 86 L st (zup M a y.toNatClampNeg x) Q := zq_iast (by decide +kernel)
theorem q109_86 : zQ 109 86 [.ref a, v1, v2] st M Q ↔ zQ 109 87 [.ref a, v1, v2] (.ref a :: st) M Q := zq_go (i := .aload_n 0) (by decide +kernel) rfl
theorem q109_87 : zQ 109 87 L (.ref a :: st) M Q ↔ (a < zNC ∧ zk a = 6) ∧ zQ 109 90 L (zfv a 4 M :: st) M Q := zq_getf (n := 13) (b := false) (by decide +kernel) (by decide +kernel)
theorem q109_90 : zQ 109 90 [v0, .int x, v2] st M Q ↔ zQ 109 91 [v0, .int x, v2] (.int x :: st) M Q := zq_go (i := .iload_n 1) (by decide +kernel) rfl
theorem q109_91 : zQ 109 91 L (.int x :: .ref a :: st) M Q ↔ (a < zNC ∧ zk a = 7 ∧ zin x (zn a) = true) ∧ zQ 109 92 L (.int (M a x.toNatClampNeg) :: st) M Q := zq_iald (by decide +kernel)
theorem q109_92 : zQ 109 92 L [.int x] M Q ↔ Q (zI x) M := zq_reI (by decide +kernel) (by decide +kernel)
-- 110 SandKeepersModel.lay(I)I
theorem q110_0 : zQ 110 0 [.ref a, v1] st M Q ↔ zQ 110 1 [.ref a, v1] (.ref a :: st) M Q := zq_go (i := .aload_n 0) (by decide +kernel) rfl
theorem q110_1 : zQ 110 1 [v0, .int x] st M Q ↔ zQ 110 2 [v0, .int x] (.int x :: st) M Q := zq_go (i := .iload_n 1) (by decide +kernel) rfl
theorem q110_2 : zQ 110 2 L (.int x1 :: .ref a :: st) M Q ↔ (zcs st ≤ 8 ∧ a < zNC ∧ zk a = 6) ∧ zQ 92 0 [.ref a, .int x1] [] M (fun r M1 => zQ 110 5 L (zpush r st) M1 Q) := zq_callV (n := 145) (j := 92) (b := false) (As := [.int x1]) (by decide +kernel) (by decide +kernel) ⟨by decide +kernel, by decide +kernel, rfl, by decide +kernel, by decide +kernel, Nat.le_of_ble_eq_true rfl⟩ rfl
theorem q110_5 : zQ 110 5 L (.int x :: st) M Q ↔ (x = 0 → zQ 110 12 L st M Q) ∧ (¬ x = 0 → zQ 110 8 L st M Q) := zq_br (i := .ifCond .eq 7) (off := 7) (by decide +kernel) rfl (by decide) rfl
theorem q110_8 : zQ 110 8 L st M Q ↔ zQ 110 9 L (.int (-1) :: st) M Q := zq_con (n := (-1)) (by decide +kernel) (by decide +kernel) rfl
theorem q110_9 : zQ 110 9 L st M Q ↔ zQ 110 18 L st M Q := zq_jmp (off := 9) (by decide +kernel) (by decide)
theorem q110_12 : zQ 110 12 [.ref a, v1] st M Q ↔ zQ 110 13 [.ref a, v1] (.ref a :: st) M Q := zq_go (i := .aload_n 0) (by decide +kernel) rfl
theorem q110_13 : zQ 110 13 [v0, .int x] st M Q ↔ zQ 110 14 [v0, .int x] (.int x :: st) M Q := zq_go (i := .iload_n 1) (by decide +kernel) rfl
theorem q110_14 : zQ 110 14 L st M Q ↔ zQ 110 15 L (.int 0 :: st) M Q := zq_con (n := 0) (by decide +kernel) (by decide +kernel) rfl
theorem q110_15 : zQ 110 15 L (.int x2 :: .int x1 :: .ref a :: st) M Q ↔ (zcs st ≤ 8 ∧ a < zNC ∧ zk a = 6) ∧ zQ 109 0 [.ref a, .int x1, .int x2] [] M (fun r M1 => zQ 110 18 L (zpush r st) M1 Q) := zq_callV (n := 168) (j := 109) (b := false) (As := [.int x1, .int x2]) (by decide +kernel) (by decide +kernel) ⟨by decide +kernel, by decide +kernel, rfl, by decide +kernel, by decide +kernel, Nat.le_of_ble_eq_true rfl⟩ rfl
theorem q110_18 : zQ 110 18 L [.int x] M Q ↔ Q (zI x) M := zq_reI (by decide +kernel) (by decide +kernel)
-- 111 SandKeepersModel.raise(I)I
theorem q111_0 : zQ 111 0 [.ref a, v1] st M Q ↔ zQ 111 1 [.ref a, v1] (.ref a :: st) M Q := zq_go (i := .aload_n 0) (by decide +kernel) rfl
theorem q111_1 : zQ 111 1 [v0, .int x] st M Q ↔ zQ 111 2 [v0, .int x] (.int x :: st) M Q := zq_go (i := .iload_n 1) (by decide +kernel) rfl
theorem q111_2 : zQ 111 2 L (.int x1 :: .ref a :: st) M Q ↔ (zcs st ≤ 8 ∧ a < zNC ∧ zk a = 6) ∧ zQ 92 0 [.ref a, .int x1] [] M (fun r M1 => zQ 111 5 L (zpush r st) M1 Q) := zq_callV (n := 145) (j := 92) (b := false) (As := [.int x1]) (by decide +kernel) (by decide +kernel) ⟨by decide +kernel, by decide +kernel, rfl, by decide +kernel, by decide +kernel, Nat.le_of_ble_eq_true rfl⟩ rfl
theorem q111_5 : zQ 111 5 L (.int x :: st) M Q ↔ (x = 0 → zQ 111 12 L st M Q) ∧ (¬ x = 0 → zQ 111 8 L st M Q) := zq_br (i := .ifCond .eq 7) (off := 7) (by decide +kernel) rfl (by decide) rfl
theorem q111_8 : zQ 111 8 L st M Q ↔ zQ 111 9 L (.int (-1) :: st) M Q := zq_con (n := (-1)) (by decide +kernel) (by decide +kernel) rfl
theorem q111_9 : zQ 111 9 L st M Q ↔ zQ 111 18 L st M Q := zq_jmp (off := 9) (by decide +kernel) (by decide)
theorem q111_12 : zQ 111 12 [.ref a, v1] st M Q ↔ zQ 111 13 [.ref a, v1] (.ref a :: st) M Q := zq_go (i := .aload_n 0) (by decide +kernel) rfl
theorem q111_13 : zQ 111 13 [v0, .int x] st M Q ↔ zQ 111 14 [v0, .int x] (.int x :: st) M Q := zq_go (i := .iload_n 1) (by decide +kernel) rfl
theorem q111_14 : zQ 111 14 L st M Q ↔ zQ 111 15 L (.int 1 :: st) M Q := zq_con (n := 1) (by decide +kernel) (by decide +kernel) rfl
theorem q111_15 : zQ 111 15 L (.int x2 :: .int x1 :: .ref a :: st) M Q ↔ (zcs st ≤ 8 ∧ a < zNC ∧ zk a = 6) ∧ zQ 109 0 [.ref a, .int x1, .int x2] [] M (fun r M1 => zQ 111 18 L (zpush r st) M1 Q) := zq_callV (n := 168) (j := 109) (b := false) (As := [.int x1, .int x2]) (by decide +kernel) (by decide +kernel) ⟨by decide +kernel, by decide +kernel, rfl, by decide +kernel, by decide +kernel, Nat.le_of_ble_eq_true rfl⟩ rfl
theorem q111_18 : zQ 111 18 L [.int x] M Q ↔ Q (zI x) M := zq_reI (by decide +kernel) (by decide +kernel)
-- 112 SandKeepersModel.turn(I)I
theorem q112_0 : zQ 112 0 [.ref a, v1] st M Q ↔ zQ 112 1 [.ref a, v1] (.ref a :: st) M Q := zq_go (i := .aload_n 0) (by decide +kernel) rfl
theorem q112_1 : zQ 112 1 [v0, .int x] st M Q ↔ zQ 112 2 [v0, .int x] (.int x :: st) M Q := zq_go (i := .iload_n 1) (by decide +kernel) rfl
theorem q112_2 : zQ 112 2 L (.int x1 :: .ref a :: st) M Q ↔ (zcs st ≤ 8 ∧ a < zNC ∧ zk a = 6) ∧ zQ 92 0 [.ref a, .int x1] [] M (fun r M1 => zQ 112 5 L (zpush r st) M1 Q) := zq_callV (n := 145) (j := 92) (b := false) (As := [.int x1]) (by decide +kernel) (by decide +kernel) ⟨by decide +kernel, by decide +kernel, rfl, by decide +kernel, by decide +kernel, Nat.le_of_ble_eq_true rfl⟩ rfl
theorem q112_5 : zQ 112 5 L (.int x :: st) M Q ↔ (x = 0 → zQ 112 12 L st M Q) ∧ (¬ x = 0 → zQ 112 8 L st M Q) := zq_br (i := .ifCond .eq 7) (off := 7) (by decide +kernel) rfl (by decide) rfl
theorem q112_8 : zQ 112 8 L st M Q ↔ zQ 112 9 L (.int (-1) :: st) M Q := zq_con (n := (-1)) (by decide +kernel) (by decide +kernel) rfl
theorem q112_9 : zQ 112 9 L st M Q ↔ zQ 112 18 L st M Q := zq_jmp (off := 9) (by decide +kernel) (by decide)
theorem q112_12 : zQ 112 12 [.ref a, v1] st M Q ↔ zQ 112 13 [.ref a, v1] (.ref a :: st) M Q := zq_go (i := .aload_n 0) (by decide +kernel) rfl
theorem q112_13 : zQ 112 13 [v0, .int x] st M Q ↔ zQ 112 14 [v0, .int x] (.int x :: st) M Q := zq_go (i := .iload_n 1) (by decide +kernel) rfl
theorem q112_14 : zQ 112 14 L st M Q ↔ zQ 112 15 L (.int 2 :: st) M Q := zq_con (n := 2) (by decide +kernel) (by decide +kernel) rfl
theorem q112_15 : zQ 112 15 L (.int x2 :: .int x1 :: .ref a :: st) M Q ↔ (zcs st ≤ 8 ∧ a < zNC ∧ zk a = 6) ∧ zQ 109 0 [.ref a, .int x1, .int x2] [] M (fun r M1 => zQ 112 18 L (zpush r st) M1 Q) := zq_callV (n := 168) (j := 109) (b := false) (As := [.int x1, .int x2]) (by decide +kernel) (by decide +kernel) ⟨by decide +kernel, by decide +kernel, rfl, by decide +kernel, by decide +kernel, Nat.le_of_ble_eq_true rfl⟩ rfl
theorem q112_18 : zQ 112 18 L [.int x] M Q ↔ Q (zI x) M := zq_reI (by decide +kernel) (by decide +kernel)
-- 113 SandKeepersModel.sandBehind(II)I
theorem q113_0 : zQ 113 0 [.ref a, v1, v2, v3] st M Q ↔ zQ 113 1 [.ref a, v1, v2, v3] (.ref a :: st) M Q := zq_go (i := .aload_n 0) (by decide +kernel) rfl
theorem q113_1 : zQ 113 1 L (.ref a :: st) M Q ↔ (a < zNC ∧ zk a = 6) ∧ zQ 113 4 L (zfv a 9 M :: st) M Q := zq_getf (n := 139) (b := false) (by decide +kernel) (by decide +kernel)
theorem q113_4 : zQ 113 4 [v0, .int x, v2, v3] st M Q ↔ zQ 113 5 [v0, .int x, v2, v3] (.int x :: st) M Q := zq_go (i := .iload_n 1) (by decide +kernel) rfl
theorem q113_5 : zQ 113 5 L (.int x2 :: .int x1 :: st) M Q ↔ zcs st ≤ 8 ∧ zQ 86 0 [.int x1, .int x2] [] M (fun r M1 => zQ 113 8 L (zpush r st) M1 Q) := zq_callS (n := 162) (j := 86) (b := false) (As := [.int x1, .int x2]) (by decide +kernel) (by decide +kernel) ⟨by decide +kernel, by decide +kernel, rfl, by decide +kernel, by decide +kernel, Nat.le_of_ble_eq_true rfl⟩ rfl
theorem q113_8 : zQ 113 8 L (.int x :: st) M Q ↔ (x = 0 → zQ 113 20 L st M Q) ∧ (¬ x = 0 → zQ 113 11 L st M Q) := zq_br (i := .ifCond .eq 12) (off := 12) (by decide +kernel) rfl (by decide) rfl
theorem q113_11 : zQ 113 11 [.ref a, v1, v2, v3] st M Q ↔ zQ 113 12 [.ref a, v1, v2, v3] (.ref a :: st) M Q := zq_go (i := .aload_n 0) (by decide +kernel) rfl
theorem q113_12 : zQ 113 12 L (.ref a :: st) M Q ↔ (a < zNC ∧ zk a = 6) ∧ zQ 113 15 L (zfv a 4 M :: st) M Q := zq_getf (n := 13) (b := false) (by decide +kernel) (by decide +kernel)
theorem q113_15 : zQ 113 15 [v0, .int x, v2, v3] st M Q ↔ zQ 113 16 [v0, .int x, v2, v3] (.int x :: st) M Q := zq_go (i := .iload_n 1) (by decide +kernel) rfl
theorem q113_16 : zQ 113 16 L (.int x :: .ref a :: st) M Q ↔ (a < zNC ∧ zk a = 7 ∧ zin x (zn a) = true) ∧ zQ 113 17 L (.int (M a x.toNatClampNeg) :: st) M Q := zq_iald (by decide +kernel)
theorem q113_17 : zQ 113 17 L st M Q ↔ zQ 113 34 L st M Q := zq_jmp (off := 17) (by decide +kernel) (by decide)
theorem q113_20 : zQ 113 20 [.ref a, v1, v2, v3] st M Q ↔ zQ 113 21 [.ref a, v1, v2, v3] (.ref a :: st) M Q := zq_go (i := .aload_n 0) (by decide +kernel) rfl
theorem q113_21 : zQ 113 21 L (.ref a :: st) M Q ↔ (a < zNC ∧ zk a = 6) ∧ zQ 113 24 L (zfv a 4 M :: st) M Q := zq_getf (n := 13) (b := false) (by decide +kernel) (by decide +kernel)
theorem q113_24 : zQ 113 24 [v0, .int x, v2, v3] st M Q ↔ zQ 113 25 [v0, .int x, v2, v3] (.int x :: st) M Q := zq_go (i := .iload_n 1) (by decide +kernel) rfl
theorem q113_25 : zQ 113 25 L (.int x :: .ref a :: st) M Q ↔ (a < zNC ∧ zk a = 7 ∧ zin x (zn a) = true) ∧ zQ 113 26 L (.int (M a x.toNatClampNeg) :: st) M Q := zq_iald (by decide +kernel)
theorem q113_26 : zQ 113 26 [v0, v1, .int x, v3] st M Q ↔ zQ 113 27 [v0, v1, .int x, v3] (.int x :: st) M Q := zq_go (i := .iload_n 2) (by decide +kernel) rfl
theorem q113_27 : zQ 113 27 [.ref a, v1, v2, v3] st M Q ↔ zQ 113 28 [.ref a, v1, v2, v3] (.ref a :: st) M Q := zq_go (i := .aload_n 0) (by decide +kernel) rfl
theorem q113_28 : zQ 113 28 [v0, .int x, v2, v3] st M Q ↔ zQ 113 29 [v0, .int x, v2, v3] (.int x :: st) M Q := zq_go (i := .iload_n 1) (by decide +kernel) rfl
theorem q113_29 : zQ 113 29 L (.int x1 :: .ref a :: st) M Q ↔ (zcs st ≤ 8 ∧ a < zNC ∧ zk a = 6) ∧ zQ 99 0 [.ref a, .int x1, .null] [] M (fun r M1 => zQ 113 32 L (zpush r st) M1 Q) := zq_callV (n := 148) (j := 99) (b := false) (As := [.int x1]) (by decide +kernel) (by decide +kernel) ⟨by decide +kernel, by decide +kernel, rfl, by decide +kernel, by decide +kernel, Nat.le_of_ble_eq_true rfl⟩ rfl
theorem q113_32 : zQ 113 32 L (.int y :: .int x :: st) M Q ↔ zQ 113 33 L (.int (x * y) :: st) M Q := zq_go (i := .imul) (by decide +kernel) rfl
theorem q113_33 : zQ 113 33 L (.int y :: .int x :: st) M Q ↔ zQ 113 34 L (.int (x - y) :: st) M Q := zq_go (i := .isub) (by decide +kernel) rfl
theorem q113_34i : zQ 113 34 [v0, v1, .int y, v3] (.int x :: st) M Q ↔ zQ 113 35 [v0, v1, .int y, .int x] st M Q := zq_stI (i := .istore_n 3) (k := 3) (by decide +kernel) rfl (Nat.le_of_ble_eq_true rfl) rfl rfl
theorem q113_34r : zQ 113 34 [v0, v1, .ref r1, v3] (.int x :: st) M Q ↔ zQ 113 35 [v0, v1, .ref r1, .int x] st M Q := zq_stI (i := .istore_n 3) (k := 3) (by decide +kernel) rfl (Nat.le_of_ble_eq_true rfl) rfl rfl
theorem q113_34n : zQ 113 34 [v0, v1, .null, v3] (.int x :: st) M Q ↔ zQ 113 35 [v0, v1, .null, .int x] st M Q := zq_stI (i := .istore_n 3) (k := 3) (by decide +kernel) rfl (Nat.le_of_ble_eq_true rfl) rfl rfl
theorem q113_35 : zQ 113 35 [v0, v1, v2, .int x] st M Q ↔ zQ 113 36 [v0, v1, v2, .int x] (.int x :: st) M Q := zq_go (i := .iload_n 3) (by decide +kernel) rfl
theorem q113_36 : zQ 113 36 L (.int x :: st) M Q ↔ (0 ≤ x → zQ 113 43 L st M Q) ∧ (¬ 0 ≤ x → zQ 113 39 L st M Q) := zq_br (i := .ifCond .ge 7) (off := 7) (by decide +kernel) rfl (by decide) rfl
theorem q113_39 : zQ 113 39 L st M Q ↔ zQ 113 40 L (.int 0 :: st) M Q := zq_con (n := 0) (by decide +kernel) (by decide +kernel) rfl
theorem q113_40 : zQ 113 40 L st M Q ↔ zQ 113 44 L st M Q := zq_jmp (off := 4) (by decide +kernel) (by decide)
theorem q113_43 : zQ 113 43 [v0, v1, v2, .int x] st M Q ↔ zQ 113 44 [v0, v1, v2, .int x] (.int x :: st) M Q := zq_go (i := .iload_n 3) (by decide +kernel) rfl
theorem q113_44 : zQ 113 44 L [.int x] M Q ↔ Q (zI x) M := zq_reI (by decide +kernel) (by decide +kernel)
-- 114 SandKeepersModel.oneYear()V
theorem q114_0 : zQ 114 0 L st M Q ↔ zQ 114 1 L (.int 0 :: st) M Q := zq_con (n := 0) (by decide +kernel) (by decide +kernel) rfl
theorem q114_1i : zQ 114 1 [.int y, v1] (.int x :: st) M Q ↔ zQ 114 2 [.int y, .int x] st M Q := zq_stI (i := .istore_n 1) (k := 1) (by decide +kernel) rfl (Nat.le_of_ble_eq_true rfl) rfl rfl
theorem q114_1r : zQ 114 1 [.ref r1, v1] (.int x :: st) M Q ↔ zQ 114 2 [.ref r1, .int x] st M Q := zq_stI (i := .istore_n 1) (k := 1) (by decide +kernel) rfl (Nat.le_of_ble_eq_true rfl) rfl rfl
theorem q114_1n : zQ 114 1 [.null, v1] (.int x :: st) M Q ↔ zQ 114 2 [.null, .int x] st M Q := zq_stI (i := .istore_n 1) (k := 1) (by decide +kernel) rfl (Nat.le_of_ble_eq_true rfl) rfl rfl
theorem q114_2 : zQ 114 2 [v0, .int x] st M Q ↔ zQ 114 3 [v0, .int x] (.int x :: st) M Q := zq_go (i := .iload_n 1) (by decide +kernel) rfl
theorem q114_3 : zQ 114 3 [.ref a, v1] st M Q ↔ zQ 114 4 [.ref a, v1] (.ref a :: st) M Q := zq_go (i := .aload_n 0) (by decide +kernel) rfl
theorem q114_4 : zQ 114 4 L (.ref a :: st) M Q ↔ (a < zNC ∧ zk a = 6) ∧ zQ 114 7 L (zfv a 1 M :: st) M Q := zq_getf (n := 86) (b := false) (by decide +kernel) (by decide +kernel)
theorem q114_7 : zQ 114 7 L (.int y :: .int x :: st) M Q ↔ (y ≤ x → zQ 114 28 L st M Q) ∧ (¬ y ≤ x → zQ 114 10 L st M Q) := zq_br (i := .if_icmp .ge 21) (off := 21) (by decide +kernel) rfl (by decide) rfl
theorem q114_10 : zQ 114 10 [.ref a, v1] st M Q ↔ zQ 114 11 [.ref a, v1] (.ref a :: st) M Q := zq_go (i := .aload_n 0) (by decide +kernel) rfl
theorem q114_11 : zQ 114 11 L (.ref a :: st) M Q ↔ (a < zNC ∧ zk a = 6) ∧ zQ 114 14 L (zfv a 4 M :: st) M Q := zq_getf (n := 13) (b := false) (by decide +kernel) (by decide +kernel)
theorem q114_14 : zQ 114 14 [v0, .int x] st M Q ↔ zQ 114 15 [v0, .int x] (.int x :: st) M Q := zq_go (i := .iload_n 1) (by decide +kernel) rfl
theorem q114_15 : zQ 114 15 [.ref a, v1] st M Q ↔ zQ 114 16 [.ref a, v1] (.ref a :: st) M Q := zq_go (i := .aload_n 0) (by decide +kernel) rfl
theorem q114_16 : zQ 114 16 [v0, .int x] st M Q ↔ zQ 114 17 [v0, .int x] (.int x :: st) M Q := zq_go (i := .iload_n 1) (by decide +kernel) rfl
theorem q114_17 : zQ 114 17 L st M Q ↔ zQ 114 18 L (.int 1 :: st) M Q := zq_con (n := 1) (by decide +kernel) (by decide +kernel) rfl
theorem q114_18 : zQ 114 18 L (.int x2 :: .int x1 :: .ref a :: st) M Q ↔ (zcs st ≤ 8 ∧ a < zNC ∧ zk a = 6) ∧ zQ 113 0 [.ref a, .int x1, .int x2, .null] [] M (fun r M1 => zQ 114 21 L (zpush r st) M1 Q) := zq_callV (n := 171) (j := 113) (b := false) (As := [.int x1, .int x2]) (by decide +kernel) (by decide +kernel) ⟨by decide +kernel, by decide +kernel, rfl, by decide +kernel, by decide +kernel, Nat.le_of_ble_eq_true rfl⟩ rfl
theorem q114_21 : zQ 114 21 L (.int x :: .int y :: .ref a :: st) M Q ↔ (a < zNC ∧ zk a = 7 ∧ zin y (zn a) = true) ∧ zQ 114 22 L st (zup M a y.toNatClampNeg x) Q := zq_iast (by decide +kernel)
theorem q114_22i : zQ 114 22 [.int y, .int x] st M Q ↔ zQ 114 25 [.int y, .int (x + 1)] st M Q := zq_inc (k := 1) (n := 1) (x := x) (v := 1) (by decide +kernel) (by decide +kernel) rfl rfl rfl rfl
theorem q114_22r : zQ 114 22 [.ref r1, .int x] st M Q ↔ zQ 114 25 [.ref r1, .int (x + 1)] st M Q := zq_inc (k := 1) (n := 1) (x := x) (v := 1) (by decide +kernel) (by decide +kernel) rfl rfl rfl rfl
theorem q114_22n : zQ 114 22 [.null, .int x] st M Q ↔ zQ 114 25 [.null, .int (x + 1)] st M Q := zq_inc (k := 1) (n := 1) (x := x) (v := 1) (by decide +kernel) (by decide +kernel) rfl rfl rfl rfl
theorem q114_25 : zQ 114 25 L st M Q ↔ zQ 114 2 L st M Q := zq_jmp (off := (-23)) (by decide +kernel) (by decide)
theorem q114_28 : zQ 114 28 [.ref a, v1] st M Q ↔ zQ 114 29 [.ref a, v1] (.ref a :: st) M Q := zq_go (i := .aload_n 0) (by decide +kernel) rfl
theorem q114_29 : zQ 114 29 L (.ref a :: st) M Q ↔ zQ 114 30 L (.ref a :: .ref a :: st) M Q := zq_go (i := .dup) (by decide +kernel) rfl
theorem q114_30 : zQ 114 30 L (.ref a :: st) M Q ↔ (a < zNC ∧ zk a = 6) ∧ zQ 114 33 L (zfv a 2 M :: st) M Q := zq_getf (n := 136) (b := false) (by decide +kernel) (by decide +kernel)
theorem q114_33 : zQ 114 33 L st M Q ↔ zQ 114 34 L (.int 1 :: st) M Q := zq_con (n := 1) (by decide +kernel) (by decide +kernel) rfl
theorem q114_34 : zQ 114 34 L (.int y :: .int x :: st) M Q ↔ zQ 114 35 L (.int (x + y) :: st) M Q := zq_go (i := .iadd) (by decide +kernel) rfl
theorem q114_35 : zQ 114 35 L (.int x :: .ref a :: st) M Q ↔ (a < zNC ∧ zk a = 6 ∧ zf a 2 = none) ∧ zQ 114 38 L st (zup M a 2 x) Q := zq_putf (n := 136) (b := false) (by decide +kernel) (by decide +kernel) (by decide +kernel)
theorem q114_38 : zQ 114 38 L [] M Q ↔ Q none M := zq_reV (by decide +kernel) (by decide +kernel)
-- 115 SandKeepersModel.go(I)I
theorem q115_0 : zQ 115 0 [.ref a, v1, v2, v3] st M Q ↔ zQ 115 1 [.ref a, v1, v2, v3] (.ref a :: st) M Q := zq_go (i := .aload_n 0) (by decide +kernel) rfl
theorem q115_1 : zQ 115 1 L (.ref a :: st) M Q ↔ (a < zNC ∧ zk a = 6) ∧ zQ 115 4 L (zfv a 1 M :: st) M Q := zq_getf (n := 86) (b := false) (by decide +kernel) (by decide +kernel)
theorem q115_4 : zQ 115 4 L (.int x :: st) M Q ↔ (x = 0 → zQ 115 7 L st M Q) ∧ (¬ x = 0 → zQ 115 10 L st M Q) := zq_bn (i := .ifCond .ne 6) (off := 6) (by decide +kernel) rfl (by decide) rfl
theorem q115_7 : zQ 115 7 L st M Q ↔ zQ 115 9 L (.int (-3) :: st) M Q := zq_bip (n := (-3)) (by decide +kernel) (by decide +kernel) rfl
theorem q115_9 : zQ 115 9 L [.int x] M Q ↔ Q (zI x) M := zq_reI (by decide +kernel) (by decide +kernel)
theorem q115_10 : zQ 115 10 [v0, .int x, v2, v3] st M Q ↔ zQ 115 11 [v0, .int x, v2, v3] (.int x :: st) M Q := zq_go (i := .iload_n 1) (by decide +kernel) rfl
theorem q115_11 : zQ 115 11 L (.int x :: st) M Q ↔ zQ 115 12 L (.long x.toInt64 :: st) M Q := zq_go (i := .i2l) (by decide +kernel) rfl
theorem q115_12 : zQ 115 12 L st M Q ↔ zQ 115 13 L (.long 1 :: st) M Q := zq_lco (n := 1) (by decide +kernel) (by decide +kernel) rfl
theorem q115_13 : zQ 115 13 L st M Q ↔ zQ 115 16 L (.long 99 :: st) M Q := zq_ld2 (n := 174) (by decide +kernel) (by decide +kernel) rfl
theorem q115_16 : zQ 115 16 L (.long l3 :: .long l2 :: .long l1 :: st) M Q ↔ zcs st ≤ 8 ∧ zQ 84 0 [.long l1, .null, .long l2, .null, .long l3, .null] [] M (fun r M1 => zQ 115 19 L (zpush r st) M1 Q) := zq_callS (n := 89) (j := 84) (b := false) (As := [.long l1, .long l2, .long l3]) (by decide +kernel) (by decide +kernel) ⟨by decide +kernel, by decide +kernel, rfl, by decide +kernel, by decide +kernel, Nat.le_of_ble_eq_true rfl⟩ rfl
theorem q115_19 : zQ 115 19 L (.int x :: st) M Q ↔ (x = 0 → zQ 115 22 L st M Q) ∧ (¬ x = 0 → zQ 115 25 L st M Q) := zq_bn (i := .ifCond .ne 6) (off := 6) (by decide +kernel) rfl (by decide) rfl
theorem q115_22 : zQ 115 22 L st M Q ↔ zQ 115 24 L (.int (-2) :: st) M Q := zq_bip (n := (-2)) (by decide +kernel) (by decide +kernel) rfl
theorem q115_24 : zQ 115 24 L [.int x] M Q ↔ Q (zI x) M := zq_reI (by decide +kernel) (by decide +kernel)
theorem q115_25 : zQ 115 25 [.ref a, v1, v2, v3] st M Q ↔ zQ 115 26 [.ref a, v1, v2, v3] (.ref a :: st) M Q := zq_go (i := .aload_n 0) (by decide +kernel) rfl
theorem q115_26 : zQ 115 26 L (.ref a :: st) M Q ↔ (a < zNC ∧ zk a = 6) ∧ zQ 115 29 L (zfv a 2 M :: st) M Q := zq_getf (n := 136) (b := false) (by decide +kernel) (by decide +kernel)
theorem q115_29 : zQ 115 29 [v0, .int x, v2, v3] st M Q ↔ zQ 115 30 [v0, .int x, v2, v3] (.int x :: st) M Q := zq_go (i := .iload_n 1) (by decide +kernel) rfl
theorem q115_30 : zQ 115 30 L (.int y :: .int x :: st) M Q ↔ zQ 115 31 L (.int (x + y) :: st) M Q := zq_go (i := .iadd) (by decide +kernel) rfl
theorem q115_31 : zQ 115 31 L st M Q ↔ zQ 115 34 L (.int 999 :: st) M Q := zq_sip (n := 999) (by decide +kernel) (by decide +kernel) rfl
theorem q115_34 : zQ 115 34 L (.int y :: .int x :: st) M Q ↔ (x ≤ y → zQ 115 40 L st M Q) ∧ (¬ x ≤ y → zQ 115 37 L st M Q) := zq_br (i := .if_icmp .le 6) (off := 6) (by decide +kernel) rfl (by decide) rfl
theorem q115_37 : zQ 115 37 L st M Q ↔ zQ 115 39 L (.int (-3) :: st) M Q := zq_bip (n := (-3)) (by decide +kernel) (by decide +kernel) rfl
theorem q115_39 : zQ 115 39 L [.int x] M Q ↔ Q (zI x) M := zq_reI (by decide +kernel) (by decide +kernel)
theorem q115_40 : zQ 115 40 [.ref a, v1, v2, v3] st M Q ↔ zQ 115 41 [.ref a, v1, v2, v3] (.ref a :: st) M Q := zq_go (i := .aload_n 0) (by decide +kernel) rfl
theorem q115_41 : zQ 115 41 L (.ref a :: st) M Q ↔ (zcs st ≤ 8 ∧ a < zNC ∧ zk a = 6) ∧ zQ 106 0 [.ref a, .null, .null] [] M (fun r M1 => zQ 115 44 L (zpush r st) M1 Q) := zq_callV (n := 158) (j := 106) (b := false) (As := []) (by decide +kernel) (by decide +kernel) ⟨by decide +kernel, by decide +kernel, rfl, by decide +kernel, by decide +kernel, Nat.le_of_ble_eq_true rfl⟩ rfl
theorem q115_44 : zQ 115 44 L (.int x1 :: st) M Q ↔ zcs st ≤ 8 ∧ zQ 87 0 [.int x1, .null, .null] [] M (fun r M1 => zQ 115 47 L (zpush r st) M1 Q) := zq_callS (n := 176) (j := 87) (b := false) (As := [.int x1]) (by decide +kernel) (by decide +kernel) ⟨by decide +kernel, by decide +kernel, rfl, by decide +kernel, by decide +kernel, Nat.le_of_ble_eq_true rfl⟩ rfl
theorem q115_47i : zQ 115 47 [v0, .int y, v2, v3] (.int x :: st) M Q ↔ zQ 115 48 [v0, .int y, .int x, v3] st M Q := zq_stI (i := .istore_n 2) (k := 2) (by decide +kernel) rfl (Nat.le_of_ble_eq_true rfl) rfl rfl
theorem q115_47r : zQ 115 47 [v0, .ref r1, v2, v3] (.int x :: st) M Q ↔ zQ 115 48 [v0, .ref r1, .int x, v3] st M Q := zq_stI (i := .istore_n 2) (k := 2) (by decide +kernel) rfl (Nat.le_of_ble_eq_true rfl) rfl rfl
theorem q115_47n : zQ 115 47 [v0, .null, v2, v3] (.int x :: st) M Q ↔ zQ 115 48 [v0, .null, .int x, v3] st M Q := zq_stI (i := .istore_n 2) (k := 2) (by decide +kernel) rfl (Nat.le_of_ble_eq_true rfl) rfl rfl
theorem q115_48 : zQ 115 48 L st M Q ↔ zQ 115 49 L (.int 0 :: st) M Q := zq_con (n := 0) (by decide +kernel) (by decide +kernel) rfl
theorem q115_49i : zQ 115 49 [v0, v1, .int y, v3] (.int x :: st) M Q ↔ zQ 115 50 [v0, v1, .int y, .int x] st M Q := zq_stI (i := .istore_n 3) (k := 3) (by decide +kernel) rfl (Nat.le_of_ble_eq_true rfl) rfl rfl
theorem q115_49r : zQ 115 49 [v0, v1, .ref r1, v3] (.int x :: st) M Q ↔ zQ 115 50 [v0, v1, .ref r1, .int x] st M Q := zq_stI (i := .istore_n 3) (k := 3) (by decide +kernel) rfl (Nat.le_of_ble_eq_true rfl) rfl rfl
theorem q115_49n : zQ 115 49 [v0, v1, .null, v3] (.int x :: st) M Q ↔ zQ 115 50 [v0, v1, .null, .int x] st M Q := zq_stI (i := .istore_n 3) (k := 3) (by decide +kernel) rfl (Nat.le_of_ble_eq_true rfl) rfl rfl
theorem q115_50 : zQ 115 50 [v0, v1, v2, .int x] st M Q ↔ zQ 115 51 [v0, v1, v2, .int x] (.int x :: st) M Q := zq_go (i := .iload_n 3) (by decide +kernel) rfl
theorem q115_51 : zQ 115 51 [v0, .int x, v2, v3] st M Q ↔ zQ 115 52 [v0, .int x, v2, v3] (.int x :: st) M Q := zq_go (i := .iload_n 1) (by decide +kernel) rfl
theorem q115_52 : zQ 115 52 L (.int y :: .int x :: st) M Q ↔ (y ≤ x → zQ 115 65 L st M Q) ∧ (¬ y ≤ x → zQ 115 55 L st M Q) := zq_br (i := .if_icmp .ge 13) (off := 13) (by decide +kernel) rfl (by decide) rfl
theorem q115_55 : zQ 115 55 [.ref a, v1, v2, v3] st M Q ↔ zQ 115 56 [.ref a, v1, v2, v3] (.ref a :: st) M Q := zq_go (i := .aload_n 0) (by decide +kernel) rfl
theorem q115_56 : zQ 115 56 L (.ref a :: st) M Q ↔ (zcs st ≤ 8 ∧ a < zNC ∧ zk a = 6) ∧ zQ 114 0 [.ref a, .null] [] M (fun r M1 => zQ 115 59 L (zpush r st) M1 Q) := zq_callV (n := 179) (j := 114) (b := false) (As := []) (by decide +kernel) (by decide +kernel) ⟨by decide +kernel, by decide +kernel, rfl, by decide +kernel, by decide +kernel, Nat.le_of_ble_eq_true rfl⟩ rfl
theorem q115_59i : zQ 115 59 [v0, v1, .int y, .int x] st M Q ↔ zQ 115 62 [v0, v1, .int y, .int (x + 1)] st M Q := zq_inc (k := 3) (n := 1) (x := x) (v := 1) (by decide +kernel) (by decide +kernel) rfl rfl rfl rfl
theorem q115_59r : zQ 115 59 [v0, v1, .ref r1, .int x] st M Q ↔ zQ 115 62 [v0, v1, .ref r1, .int (x + 1)] st M Q := zq_inc (k := 3) (n := 1) (x := x) (v := 1) (by decide +kernel) (by decide +kernel) rfl rfl rfl rfl
theorem q115_59n : zQ 115 59 [v0, v1, .null, .int x] st M Q ↔ zQ 115 62 [v0, v1, .null, .int (x + 1)] st M Q := zq_inc (k := 3) (n := 1) (x := x) (v := 1) (by decide +kernel) (by decide +kernel) rfl rfl rfl rfl
theorem q115_62 : zQ 115 62 L st M Q ↔ zQ 115 50 L st M Q := zq_jmp (off := (-12)) (by decide +kernel) (by decide)
theorem q115_65 : zQ 115 65 [v0, v1, .int x, v3] st M Q ↔ zQ 115 66 [v0, v1, .int x, v3] (.int x :: st) M Q := zq_go (i := .iload_n 2) (by decide +kernel) rfl
theorem q115_66 : zQ 115 66 [.ref a, v1, v2, v3] st M Q ↔ zQ 115 67 [.ref a, v1, v2, v3] (.ref a :: st) M Q := zq_go (i := .aload_n 0) (by decide +kernel) rfl
theorem q115_67 : zQ 115 67 L (.ref a :: st) M Q ↔ (zcs st ≤ 8 ∧ a < zNC ∧ zk a = 6) ∧ zQ 106 0 [.ref a, .null, .null] [] M (fun r M1 => zQ 115 70 L (zpush r st) M1 Q) := zq_callV (n := 158) (j := 106) (b := false) (As := []) (by decide +kernel) (by decide +kernel) ⟨by decide +kernel, by decide +kernel, rfl, by decide +kernel, by decide +kernel, Nat.le_of_ble_eq_true rfl⟩ rfl
theorem q115_70 : zQ 115 70 L (.int x1 :: st) M Q ↔ zcs st ≤ 8 ∧ zQ 87 0 [.int x1, .null, .null] [] M (fun r M1 => zQ 115 73 L (zpush r st) M1 Q) := zq_callS (n := 176) (j := 87) (b := false) (As := [.int x1]) (by decide +kernel) (by decide +kernel) ⟨by decide +kernel, by decide +kernel, rfl, by decide +kernel, by decide +kernel, Nat.le_of_ble_eq_true rfl⟩ rfl
theorem q115_73 : zQ 115 73 L (.int y :: .int x :: st) M Q ↔ zQ 115 74 L (.int (x - y) :: st) M Q := zq_go (i := .isub) (by decide +kernel) rfl
theorem q115_74 : zQ 115 74 L [.int x] M Q ↔ Q (zI x) M := zq_reI (by decide +kernel) (by decide +kernel)
-- 116 SandKeepersModel.lifeOf(I)I
theorem q116_0 : zQ 116 0 [.ref a, v1, v2] st M Q ↔ zQ 116 1 [.ref a, v1, v2] (.ref a :: st) M Q := zq_go (i := .aload_n 0) (by decide +kernel) rfl
theorem q116_1 : zQ 116 1 [v0, .int x, v2] st M Q ↔ zQ 116 2 [v0, .int x, v2] (.int x :: st) M Q := zq_go (i := .iload_n 1) (by decide +kernel) rfl
theorem q116_2 : zQ 116 2 L (.int x1 :: .ref a :: st) M Q ↔ (zcs st ≤ 8 ∧ a < zNC ∧ zk a = 6) ∧ zQ 99 0 [.ref a, .int x1, .null] [] M (fun r M1 => zQ 116 5 L (zpush r st) M1 Q) := zq_callV (n := 148) (j := 99) (b := false) (As := [.int x1]) (by decide +kernel) (by decide +kernel) ⟨by decide +kernel, by decide +kernel, rfl, by decide +kernel, by decide +kernel, Nat.le_of_ble_eq_true rfl⟩ rfl
theorem q116_5i : zQ 116 5 [v0, .int y, v2] (.int x :: st) M Q ↔ zQ 116 6 [v0, .int y, .int x] st M Q := zq_stI (i := .istore_n 2) (k := 2) (by decide +kernel) rfl (Nat.le_of_ble_eq_true rfl) rfl rfl
theorem q116_5r : zQ 116 5 [v0, .ref r1, v2] (.int x :: st) M Q ↔ zQ 116 6 [v0, .ref r1, .int x] st M Q := zq_stI (i := .istore_n 2) (k := 2) (by decide +kernel) rfl (Nat.le_of_ble_eq_true rfl) rfl rfl
theorem q116_5n : zQ 116 5 [v0, .null, v2] (.int x :: st) M Q ↔ zQ 116 6 [v0, .null, .int x] st M Q := zq_stI (i := .istore_n 2) (k := 2) (by decide +kernel) rfl (Nat.le_of_ble_eq_true rfl) rfl rfl
theorem q116_6 : zQ 116 6 [.ref a, v1, v2] st M Q ↔ zQ 116 7 [.ref a, v1, v2] (.ref a :: st) M Q := zq_go (i := .aload_n 0) (by decide +kernel) rfl
theorem q116_7 : zQ 116 7 [v0, .int x, v2] st M Q ↔ zQ 116 8 [v0, .int x, v2] (.int x :: st) M Q := zq_go (i := .iload_n 1) (by decide +kernel) rfl
theorem q116_8 : zQ 116 8 L (.int x1 :: .ref a :: st) M Q ↔ (zcs st ≤ 8 ∧ a < zNC ∧ zk a = 6) ∧ zQ 100 0 [.ref a, .int x1] [] M (fun r M1 => zQ 116 11 L (zpush r st) M1 Q) := zq_callV (n := 155) (j := 100) (b := false) (As := [.int x1]) (by decide +kernel) (by decide +kernel) ⟨by decide +kernel, by decide +kernel, rfl, by decide +kernel, by decide +kernel, Nat.le_of_ble_eq_true rfl⟩ rfl
theorem q116_11 : zQ 116 11 L (.int x :: st) M Q ↔ (x = 0 → zQ 116 14 L st M Q) ∧ (¬ x = 0 → zQ 116 16 L st M Q) := zq_bn (i := .ifCond .ne 5) (off := 5) (by decide +kernel) rfl (by decide) rfl
theorem q116_14 : zQ 116 14 L st M Q ↔ zQ 116 15 L (.int 0 :: st) M Q := zq_con (n := 0) (by decide +kernel) (by decide +kernel) rfl
theorem q116_15 : zQ 116 15 L [.int x] M Q ↔ Q (zI x) M := zq_reI (by decide +kernel) (by decide +kernel)
theorem q116_16 : zQ 116 16 [v0, v1, .int x] st M Q ↔ zQ 116 17 [v0, v1, .int x] (.int x :: st) M Q := zq_go (i := .iload_n 2) (by decide +kernel) rfl
theorem q116_17 : zQ 116 17 L (.int x :: st) M Q ↔ (x = 0 → zQ 116 31 L st M Q) ∧ (¬ x = 0 → zQ 116 20 L st M Q) := zq_br (i := .ifCond .eq 14) (off := 14) (by decide +kernel) rfl (by decide) rfl
theorem q116_20 : zQ 116 20 [.ref a, v1, v2] st M Q ↔ zQ 116 21 [.ref a, v1, v2] (.ref a :: st) M Q := zq_go (i := .aload_n 0) (by decide +kernel) rfl
theorem q116_21 : zQ 116 21 L (.ref a :: st) M Q ↔ (a < zNC ∧ zk a = 6) ∧ zQ 116 24 L (zfv a 9 M :: st) M Q := zq_getf (n := 139) (b := false) (by decide +kernel) (by decide +kernel)
theorem q116_24 : zQ 116 24 [v0, .int x, v2] st M Q ↔ zQ 116 25 [v0, .int x, v2] (.int x :: st) M Q := zq_go (i := .iload_n 1) (by decide +kernel) rfl
theorem q116_25 : zQ 116 25 L (.int x2 :: .int x1 :: st) M Q ↔ zcs st ≤ 8 ∧ zQ 86 0 [.int x1, .int x2] [] M (fun r M1 => zQ 116 28 L (zpush r st) M1 Q) := zq_callS (n := 162) (j := 86) (b := false) (As := [.int x1, .int x2]) (by decide +kernel) (by decide +kernel) ⟨by decide +kernel, by decide +kernel, rfl, by decide +kernel, by decide +kernel, Nat.le_of_ble_eq_true rfl⟩ rfl
theorem q116_28 : zQ 116 28 L (.int x :: st) M Q ↔ (x = 0 → zQ 116 36 L st M Q) ∧ (¬ x = 0 → zQ 116 31 L st M Q) := zq_br (i := .ifCond .eq 8) (off := 8) (by decide +kernel) rfl (by decide) rfl
theorem q116_31 : zQ 116 31 L st M Q ↔ zQ 116 33 L (.int 99 :: st) M Q := zq_bip (n := 99) (by decide +kernel) (by decide +kernel) rfl
theorem q116_33 : zQ 116 33 L st M Q ↔ zQ 116 48 L st M Q := zq_jmp (off := 15) (by decide +kernel) (by decide)
theorem q116_36 : zQ 116 36 [.ref a, v1, v2] st M Q ↔ zQ 116 37 [.ref a, v1, v2] (.ref a :: st) M Q := zq_go (i := .aload_n 0) (by decide +kernel) rfl
theorem q116_37 : zQ 116 37 L (.ref a :: st) M Q ↔ (a < zNC ∧ zk a = 6) ∧ zQ 116 40 L (zfv a 4 M :: st) M Q := zq_getf (n := 13) (b := false) (by decide +kernel) (by decide +kernel)
theorem q116_40 : zQ 116 40 [v0, .int x, v2] st M Q ↔ zQ 116 41 [v0, .int x, v2] (.int x :: st) M Q := zq_go (i := .iload_n 1) (by decide +kernel) rfl
theorem q116_41 : zQ 116 41 L (.int x :: .ref a :: st) M Q ↔ (a < zNC ∧ zk a = 7 ∧ zin x (zn a) = true) ∧ zQ 116 42 L (.int (M a x.toNatClampNeg) :: st) M Q := zq_iald (by decide +kernel)
theorem q116_42 : zQ 116 42 [v0, v1, .int x] st M Q ↔ zQ 116 43 [v0, v1, .int x] (.int x :: st) M Q := zq_go (i := .iload_n 2) (by decide +kernel) rfl
theorem q116_43 : zQ 116 43 L (.int y :: .int x :: st) M Q ↔ zQ 116 44 L (.int (x + y) :: st) M Q := zq_go (i := .iadd) (by decide +kernel) rfl
theorem q116_44 : zQ 116 44 L st M Q ↔ zQ 116 45 L (.int 1 :: st) M Q := zq_con (n := 1) (by decide +kernel) (by decide +kernel) rfl
theorem q116_45 : zQ 116 45 L (.int y :: .int x :: st) M Q ↔ zQ 116 46 L (.int (x - y) :: st) M Q := zq_go (i := .isub) (by decide +kernel) rfl
theorem q116_46 : zQ 116 46 [v0, v1, .int x] st M Q ↔ zQ 116 47 [v0, v1, .int x] (.int x :: st) M Q := zq_go (i := .iload_n 2) (by decide +kernel) rfl
theorem q116_47 : zQ 116 47 L (.int y :: .int x :: st) M Q ↔ ¬ y = 0 ∧ zQ 116 48 L (.int (x / y) :: st) M Q := zq_div (by decide +kernel)
theorem q116_48 : zQ 116 48 L [.int x] M Q ↔ Q (zI x) M := zq_reI (by decide +kernel) (by decide +kernel)
-- 117 SandKeepersModel.life(I)I
theorem q117_0 : zQ 117 0 [.ref a, v1] st M Q ↔ zQ 117 1 [.ref a, v1] (.ref a :: st) M Q := zq_go (i := .aload_n 0) (by decide +kernel) rfl
theorem q117_1 : zQ 117 1 [v0, .int x] st M Q ↔ zQ 117 2 [v0, .int x] (.int x :: st) M Q := zq_go (i := .iload_n 1) (by decide +kernel) rfl
theorem q117_2 : zQ 117 2 L (.int x1 :: .ref a :: st) M Q ↔ (zcs st ≤ 8 ∧ a < zNC ∧ zk a = 6) ∧ zQ 92 0 [.ref a, .int x1] [] M (fun r M1 => zQ 117 5 L (zpush r st) M1 Q) := zq_callV (n := 145) (j := 92) (b := false) (As := [.int x1]) (by decide +kernel) (by decide +kernel) ⟨by decide +kernel, by decide +kernel, rfl, by decide +kernel, by decide +kernel, Nat.le_of_ble_eq_true rfl⟩ rfl
theorem q117_5 : zQ 117 5 L (.int x :: st) M Q ↔ (x = 0 → zQ 117 12 L st M Q) ∧ (¬ x = 0 → zQ 117 8 L st M Q) := zq_br (i := .ifCond .eq 7) (off := 7) (by decide +kernel) rfl (by decide) rfl
theorem q117_8 : zQ 117 8 L st M Q ↔ zQ 117 9 L (.int (-1) :: st) M Q := zq_con (n := (-1)) (by decide +kernel) (by decide +kernel) rfl
theorem q117_9 : zQ 117 9 L st M Q ↔ zQ 117 17 L st M Q := zq_jmp (off := 8) (by decide +kernel) (by decide)
theorem q117_12 : zQ 117 12 [.ref a, v1] st M Q ↔ zQ 117 13 [.ref a, v1] (.ref a :: st) M Q := zq_go (i := .aload_n 0) (by decide +kernel) rfl
theorem q117_13 : zQ 117 13 [v0, .int x] st M Q ↔ zQ 117 14 [v0, .int x] (.int x :: st) M Q := zq_go (i := .iload_n 1) (by decide +kernel) rfl
theorem q117_14 : zQ 117 14 L (.int x1 :: .ref a :: st) M Q ↔ (zcs st ≤ 8 ∧ a < zNC ∧ zk a = 6) ∧ zQ 116 0 [.ref a, .int x1, .null] [] M (fun r M1 => zQ 117 17 L (zpush r st) M1 Q) := zq_callV (n := 182) (j := 116) (b := false) (As := [.int x1]) (by decide +kernel) (by decide +kernel) ⟨by decide +kernel, by decide +kernel, rfl, by decide +kernel, by decide +kernel, Nat.le_of_ble_eq_true rfl⟩ rfl
theorem q117_17 : zQ 117 17 L [.int x] M Q ↔ Q (zI x) M := zq_reI (by decide +kernel) (by decide +kernel)
-- 118 SandKeepersModel.whoDied()V
theorem q118_0 : zQ 118 0 L st M Q ↔ zQ 118 1 L (.int 0 :: st) M Q := zq_con (n := 0) (by decide +kernel) (by decide +kernel) rfl
theorem q118_1i : zQ 118 1 [.int y, v1, v2] (.int x :: st) M Q ↔ zQ 118 2 [.int y, .int x, v2] st M Q := zq_stI (i := .istore_n 1) (k := 1) (by decide +kernel) rfl (Nat.le_of_ble_eq_true rfl) rfl rfl
theorem q118_1r : zQ 118 1 [.ref r1, v1, v2] (.int x :: st) M Q ↔ zQ 118 2 [.ref r1, .int x, v2] st M Q := zq_stI (i := .istore_n 1) (k := 1) (by decide +kernel) rfl (Nat.le_of_ble_eq_true rfl) rfl rfl
theorem q118_1n : zQ 118 1 [.null, v1, v2] (.int x :: st) M Q ↔ zQ 118 2 [.null, .int x, v2] st M Q := zq_stI (i := .istore_n 1) (k := 1) (by decide +kernel) rfl (Nat.le_of_ble_eq_true rfl) rfl rfl
theorem q118_2 : zQ 118 2 [v0, .int x, v2] st M Q ↔ zQ 118 3 [v0, .int x, v2] (.int x :: st) M Q := zq_go (i := .iload_n 1) (by decide +kernel) rfl
theorem q118_3 : zQ 118 3 [.ref a, v1, v2] st M Q ↔ zQ 118 4 [.ref a, v1, v2] (.ref a :: st) M Q := zq_go (i := .aload_n 0) (by decide +kernel) rfl
theorem q118_4 : zQ 118 4 L (.ref a :: st) M Q ↔ (a < zNC ∧ zk a = 6) ∧ zQ 118 7 L (zfv a 1 M :: st) M Q := zq_getf (n := 86) (b := false) (by decide +kernel) (by decide +kernel)
theorem q118_7 : zQ 118 7 L (.int y :: .int x :: st) M Q ↔ (y ≤ x → zQ 118 76 L st M Q) ∧ (¬ y ≤ x → zQ 118 10 L st M Q) := zq_br (i := .if_icmp .ge 69) (off := 69) (by decide +kernel) rfl (by decide) rfl
theorem q118_10 : zQ 118 10 [.ref a, v1, v2] st M Q ↔ zQ 118 11 [.ref a, v1, v2] (.ref a :: st) M Q := zq_go (i := .aload_n 0) (by decide +kernel) rfl
theorem q118_11 : zQ 118 11 L (.ref a :: st) M Q ↔ (a < zNC ∧ zk a = 6) ∧ zQ 118 14 L (zfv a 20 M :: st) M Q := zq_getf (n := 46) (b := false) (by decide +kernel) (by decide +kernel)
theorem q118_14 : zQ 118 14 [v0, .int x, v2] st M Q ↔ zQ 118 15 [v0, .int x, v2] (.int x :: st) M Q := zq_go (i := .iload_n 1) (by decide +kernel) rfl
theorem q118_15 : zQ 118 15 L (.int x :: .ref a :: st) M Q ↔ (a < zNC ∧ zk a = 7 ∧ zin x (zn a) = true) ∧ zQ 118 16 L (.int (M a x.toNatClampNeg) :: st) M Q := zq_iald (by decide +kernel)
theorem q118_16 : zQ 118 16 L (.int x :: st) M Q ↔ (0 ≤ x → zQ 118 40 L st M Q) ∧ (¬ 0 ≤ x → zQ 118 19 L st M Q) := zq_br (i := .ifCond .ge 24) (off := 24) (by decide +kernel) rfl (by decide) rfl
theorem q118_19 : zQ 118 19 [.ref a, v1, v2] st M Q ↔ zQ 118 20 [.ref a, v1, v2] (.ref a :: st) M Q := zq_go (i := .aload_n 0) (by decide +kernel) rfl
theorem q118_20 : zQ 118 20 L (.ref a :: st) M Q ↔ (a < zNC ∧ zk a = 6) ∧ zQ 118 23 L (zfv a 17 M :: st) M Q := zq_getf (n := 43) (b := false) (by decide +kernel) (by decide +kernel)
theorem q118_23 : zQ 118 23 [v0, .int x, v2] st M Q ↔ zQ 118 24 [v0, .int x, v2] (.int x :: st) M Q := zq_go (i := .iload_n 1) (by decide +kernel) rfl
theorem q118_24 : zQ 118 24 L (.int x :: .ref a :: st) M Q ↔ (a < zNC ∧ zk a = 7 ∧ zin x (zn a) = true) ∧ zQ 118 25 L (.int (M a x.toNatClampNeg) :: st) M Q := zq_iald (by decide +kernel)
theorem q118_25 : zQ 118 25 L (.int x :: st) M Q ↔ (x ≤ 0 → zQ 118 40 L st M Q) ∧ (¬ x ≤ 0 → zQ 118 28 L st M Q) := zq_br (i := .ifCond .le 15) (off := 15) (by decide +kernel) rfl (by decide) rfl
theorem q118_28 : zQ 118 28 [.ref a, v1, v2] st M Q ↔ zQ 118 29 [.ref a, v1, v2] (.ref a :: st) M Q := zq_go (i := .aload_n 0) (by decide +kernel) rfl
theorem q118_29 : zQ 118 29 [v0, .int x, v2] st M Q ↔ zQ 118 30 [v0, .int x, v2] (.int x :: st) M Q := zq_go (i := .iload_n 1) (by decide +kernel) rfl
theorem q118_30 : zQ 118 30 L (.int x1 :: .ref a :: st) M Q ↔ (zcs st ≤ 8 ∧ a < zNC ∧ zk a = 6) ∧ zQ 100 0 [.ref a, .int x1] [] M (fun r M1 => zQ 118 33 L (zpush r st) M1 Q) := zq_callV (n := 155) (j := 100) (b := false) (As := [.int x1]) (by decide +kernel) (by decide +kernel) ⟨by decide +kernel, by decide +kernel, rfl, by decide +kernel, by decide +kernel, Nat.le_of_ble_eq_true rfl⟩ rfl
theorem q118_33 : zQ 118 33 L (.int x :: st) M Q ↔ (x = 0 → zQ 118 36 L st M Q) ∧ (¬ x = 0 → zQ 118 40 L st M Q) := zq_bn (i := .ifCond .ne 7) (off := 7) (by decide +kernel) rfl (by decide) rfl
theorem q118_36 : zQ 118 36 L st M Q ↔ zQ 118 37 L (.int 1 :: st) M Q := zq_con (n := 1) (by decide +kernel) (by decide +kernel) rfl
theorem q118_37 : zQ 118 37 L st M Q ↔ zQ 118 41 L st M Q := zq_jmp (off := 4) (by decide +kernel) (by decide)
theorem q118_40 : zQ 118 40 L st M Q ↔ zQ 118 41 L (.int 0 :: st) M Q := zq_con (n := 0) (by decide +kernel) (by decide +kernel) rfl
theorem q118_41i : zQ 118 41 [v0, .int y, v2] (.int x :: st) M Q ↔ zQ 118 42 [v0, .int y, .int x] st M Q := zq_stI (i := .istore_n 2) (k := 2) (by decide +kernel) rfl (Nat.le_of_ble_eq_true rfl) rfl rfl
theorem q118_41r : zQ 118 41 [v0, .ref r1, v2] (.int x :: st) M Q ↔ zQ 118 42 [v0, .ref r1, .int x] st M Q := zq_stI (i := .istore_n 2) (k := 2) (by decide +kernel) rfl (Nat.le_of_ble_eq_true rfl) rfl rfl
theorem q118_41n : zQ 118 41 [v0, .null, v2] (.int x :: st) M Q ↔ zQ 118 42 [v0, .null, .int x] st M Q := zq_stI (i := .istore_n 2) (k := 2) (by decide +kernel) rfl (Nat.le_of_ble_eq_true rfl) rfl rfl
theorem q118_42 : zQ 118 42 [.ref a, v1, v2] st M Q ↔ zQ 118 43 [.ref a, v1, v2] (.ref a :: st) M Q := zq_go (i := .aload_n 0) (by decide +kernel) rfl
theorem q118_43 : zQ 118 43 L (.ref a :: st) M Q ↔ (a < zNC ∧ zk a = 6) ∧ zQ 118 46 L (zfv a 20 M :: st) M Q := zq_getf (n := 46) (b := false) (by decide +kernel) (by decide +kernel)
theorem q118_46 : zQ 118 46 [v0, .int x, v2] st M Q ↔ zQ 118 47 [v0, .int x, v2] (.int x :: st) M Q := zq_go (i := .iload_n 1) (by decide +kernel) rfl
theorem q118_47 : zQ 118 47 [v0, v1, .int x] st M Q ↔ zQ 118 48 [v0, v1, .int x] (.int x :: st) M Q := zq_go (i := .iload_n 2) (by decide +kernel) rfl
theorem q118_48 : zQ 118 48 L (.int x :: st) M Q ↔ (x = 0 → zQ 118 63 L st M Q) ∧ (¬ x = 0 → zQ 118 51 L st M Q) := zq_br (i := .ifCond .eq 15) (off := 15) (by decide +kernel) rfl (by decide) rfl
theorem q118_51 : zQ 118 51 [.ref a, v1, v2] st M Q ↔ zQ 118 52 [.ref a, v1, v2] (.ref a :: st) M Q := zq_go (i := .aload_n 0) (by decide +kernel) rfl
theorem q118_52 : zQ 118 52 L (.ref a :: st) M Q ↔ (a < zNC ∧ zk a = 6) ∧ zQ 118 55 L (zfv a 2 M :: st) M Q := zq_getf (n := 136) (b := false) (by decide +kernel) (by decide +kernel)
theorem q118_55 : zQ 118 55 [.ref a, v1, v2] st M Q ↔ zQ 118 56 [.ref a, v1, v2] (.ref a :: st) M Q := zq_go (i := .aload_n 0) (by decide +kernel) rfl
theorem q118_56 : zQ 118 56 L (.ref a :: st) M Q ↔ (a < zNC ∧ zk a = 6) ∧ zQ 118 59 L (zfv a 19 M :: st) M Q := zq_getf (n := 185) (b := false) (by decide +kernel) (by decide +kernel)
theorem q118_59 : zQ 118 59 L (.int y :: .int x :: st) M Q ↔ zQ 118 60 L (.int (x - y) :: st) M Q := zq_go (i := .isub) (by decide +kernel) rfl
theorem q118_60 : zQ 118 60 L st M Q ↔ zQ 118 69 L st M Q := zq_jmp (off := 9) (by decide +kernel) (by decide)
theorem q118_63 : zQ 118 63 [.ref a, v1, v2] st M Q ↔ zQ 118 64 [.ref a, v1, v2] (.ref a :: st) M Q := zq_go (i := .aload_n 0) (by decide +kernel) rfl
theorem q118_64 : zQ 118 64 L (.ref a :: st) M Q ↔ (a < zNC ∧ zk a = 6) ∧ zQ 118 67 L (zfv a 20 M :: st) M Q := zq_getf (n := 46) (b := false) (by decide +kernel) (by decide +kernel)
theorem q118_67 : zQ 118 67 [v0, .int x, v2] st M Q ↔ zQ 118 68 [v0, .int x, v2] (.int x :: st) M Q := zq_go (i := .iload_n 1) (by decide +kernel) rfl
theorem q118_68 : zQ 118 68 L (.int x :: .ref a :: st) M Q ↔ (a < zNC ∧ zk a = 7 ∧ zin x (zn a) = true) ∧ zQ 118 69 L (.int (M a x.toNatClampNeg) :: st) M Q := zq_iald (by decide +kernel)
theorem q118_69 : zQ 118 69 L (.int x :: .int y :: .ref a :: st) M Q ↔ (a < zNC ∧ zk a = 7 ∧ zin y (zn a) = true) ∧ zQ 118 70 L st (zup M a y.toNatClampNeg x) Q := zq_iast (by decide +kernel)
theorem q118_70i : zQ 118 70 [.int y, .int x, v2] st M Q ↔ zQ 118 73 [.int y, .int (x + 1), v2] st M Q := zq_inc (k := 1) (n := 1) (x := x) (v := 1) (by decide +kernel) (by decide +kernel) rfl rfl rfl rfl
theorem q118_70r : zQ 118 70 [.ref r1, .int x, v2] st M Q ↔ zQ 118 73 [.ref r1, .int (x + 1), v2] st M Q := zq_inc (k := 1) (n := 1) (x := x) (v := 1) (by decide +kernel) (by decide +kernel) rfl rfl rfl rfl
theorem q118_70n : zQ 118 70 [.null, .int x, v2] st M Q ↔ zQ 118 73 [.null, .int (x + 1), v2] st M Q := zq_inc (k := 1) (n := 1) (x := x) (v := 1) (by decide +kernel) (by decide +kernel) rfl rfl rfl rfl
theorem q118_73 : zQ 118 73 L st M Q ↔ zQ 118 2 L st M Q := zq_jmp (off := (-71)) (by decide +kernel) (by decide)
theorem q118_76 : zQ 118 76 L [] M Q ↔ Q none M := zq_reV (by decide +kernel) (by decide +kernel)
-- 119 SandKeepersModel.didPair(II)Z
theorem q119_0 : zQ 119 0 [v0, v1, .int x, v3] st M Q ↔ zQ 119 1 [v0, v1, .int x, v3] (.int x :: st) M Q := zq_go (i := .iload_n 2) (by decide +kernel) rfl
theorem q119_1 : zQ 119 1 L st M Q ↔ zQ 119 3 L (.int 9 :: st) M Q := zq_bip (n := 9) (by decide +kernel) (by decide +kernel) rfl
theorem q119_3 : zQ 119 3 L (.int y :: .int x :: st) M Q ↔ (y ≤ x → zQ 119 27 L st M Q) ∧ (¬ y ≤ x → zQ 119 6 L st M Q) := zq_br (i := .if_icmp .ge 24) (off := 24) (by decide +kernel) rfl (by decide) rfl
theorem q119_6 : zQ 119 6 [.ref a, v1, v2, v3] st M Q ↔ zQ 119 7 [.ref a, v1, v2, v3] (.ref a :: st) M Q := zq_go (i := .aload_n 0) (by decide +kernel) rfl
theorem q119_7 : zQ 119 7 [v0, .int x, v2, v3] st M Q ↔ zQ 119 8 [v0, .int x, v2, v3] (.int x :: st) M Q := zq_go (i := .iload_n 1) (by decide +kernel) rfl
theorem q119_8 : zQ 119 8 [v0, v1, .int x, v3] st M Q ↔ zQ 119 9 [v0, v1, .int x, v3] (.int x :: st) M Q := zq_go (i := .iload_n 2) (by decide +kernel) rfl
theorem q119_9 : zQ 119 9 L (.int x2 :: .int x1 :: .ref a :: st) M Q ↔ (zcs st ≤ 8 ∧ a < zNC ∧ zk a = 6) ∧ zQ 109 0 [.ref a, .int x1, .int x2] [] M (fun r M1 => zQ 119 12 L (zpush r st) M1 Q) := zq_callV (n := 168) (j := 109) (b := false) (As := [.int x1, .int x2]) (by decide +kernel) (by decide +kernel) ⟨by decide +kernel, by decide +kernel, rfl, by decide +kernel, by decide +kernel, Nat.le_of_ble_eq_true rfl⟩ rfl
theorem q119_12 : zQ 119 12 L (.int x :: st) M Q ↔ (x < 0 → zQ 119 19 L st M Q) ∧ (¬ x < 0 → zQ 119 15 L st M Q) := zq_br (i := .ifCond .lt 7) (off := 7) (by decide +kernel) rfl (by decide) rfl
theorem q119_15 : zQ 119 15 L st M Q ↔ zQ 119 16 L (.int 1 :: st) M Q := zq_con (n := 1) (by decide +kernel) (by decide +kernel) rfl
theorem q119_16 : zQ 119 16 L st M Q ↔ zQ 119 20 L st M Q := zq_jmp (off := 4) (by decide +kernel) (by decide)
theorem q119_19 : zQ 119 19 L st M Q ↔ zQ 119 20 L (.int 0 :: st) M Q := zq_con (n := 0) (by decide +kernel) (by decide +kernel) rfl
theorem q119_20i : zQ 119 20 [v0, v1, .int y, v3] (.int x :: st) M Q ↔ zQ 119 21 [v0, v1, .int y, .int x] st M Q := zq_stI (i := .istore_n 3) (k := 3) (by decide +kernel) rfl (Nat.le_of_ble_eq_true rfl) rfl rfl
theorem q119_20r : zQ 119 20 [v0, v1, .ref r1, v3] (.int x :: st) M Q ↔ zQ 119 21 [v0, v1, .ref r1, .int x] st M Q := zq_stI (i := .istore_n 3) (k := 3) (by decide +kernel) rfl (Nat.le_of_ble_eq_true rfl) rfl rfl
theorem q119_20n : zQ 119 20 [v0, v1, .null, v3] (.int x :: st) M Q ↔ zQ 119 21 [v0, v1, .null, .int x] st M Q := zq_stI (i := .istore_n 3) (k := 3) (by decide +kernel) rfl (Nat.le_of_ble_eq_true rfl) rfl rfl
theorem q119_21 : zQ 119 21 [.ref a, v1, v2, v3] st M Q ↔ zQ 119 22 [.ref a, v1, v2, v3] (.ref a :: st) M Q := zq_go (i := .aload_n 0) (by decide +kernel) rfl
theorem q119_22 : zQ 119 22 L (.ref a :: st) M Q ↔ (zcs st ≤ 8 ∧ a < zNC ∧ zk a = 6) ∧ zQ 118 0 [.ref a, .null, .null] [] M (fun r M1 => zQ 119 25 L (zpush r st) M1 Q) := zq_callV (n := 188) (j := 118) (b := false) (As := []) (by decide +kernel) (by decide +kernel) ⟨by decide +kernel, by decide +kernel, rfl, by decide +kernel, by decide +kernel, Nat.le_of_ble_eq_true rfl⟩ rfl
theorem q119_25 : zQ 119 25 [v0, v1, v2, .int x] st M Q ↔ zQ 119 26 [v0, v1, v2, .int x] (.int x :: st) M Q := zq_go (i := .iload_n 3) (by decide +kernel) rfl
theorem q119_26 : zQ 119 26 L [.int x] M Q ↔ (x = 0 ∨ x = 1) ∧ Q (zI x) M := zq_reZ (by decide +kernel) (by decide +kernel)
theorem q119_27 : zQ 119 27 [.ref a, v1, v2, v3] st M Q ↔ zQ 119 28 [.ref a, v1, v2, v3] (.ref a :: st) M Q := zq_go (i := .aload_n 0) (by decide +kernel) rfl
theorem q119_28 : zQ 119 28 L (.ref a :: st) M Q ↔ (a < zNC ∧ zk a = 6) ∧ zQ 119 31 L (zfv a 2 M :: st) M Q := zq_getf (n := 136) (b := false) (by decide +kernel) (by decide +kernel)
theorem q119_31 : zQ 119 31 [v0, .int x, v2, v3] st M Q ↔ zQ 119 32 [v0, .int x, v2, v3] (.int x :: st) M Q := zq_go (i := .iload_n 1) (by decide +kernel) rfl
theorem q119_32 : zQ 119 32 L (.int y :: .int x :: st) M Q ↔ zQ 119 33 L (.int (x + y) :: st) M Q := zq_go (i := .iadd) (by decide +kernel) rfl
theorem q119_33 : zQ 119 33 L st M Q ↔ zQ 119 36 L (.int 999 :: st) M Q := zq_sip (n := 999) (by decide +kernel) (by decide +kernel) rfl
theorem q119_36 : zQ 119 36 L (.int y :: .int x :: st) M Q ↔ (x ≤ y → zQ 119 41 L st M Q) ∧ (¬ x ≤ y → zQ 119 39 L st M Q) := zq_br (i := .if_icmp .le 5) (off := 5) (by decide +kernel) rfl (by decide) rfl
theorem q119_39 : zQ 119 39 L st M Q ↔ zQ 119 40 L (.int 0 :: st) M Q := zq_con (n := 0) (by decide +kernel) (by decide +kernel) rfl
theorem q119_40 : zQ 119 40 L [.int x] M Q ↔ (x = 0 ∨ x = 1) ∧ Q (zI x) M := zq_reZ (by decide +kernel) (by decide +kernel)
theorem q119_41 : zQ 119 41 L st M Q ↔ zQ 119 42 L (.int 0 :: st) M Q := zq_con (n := 0) (by decide +kernel) (by decide +kernel) rfl
theorem q119_42i : zQ 119 42 [v0, v1, .int y, v3] (.int x :: st) M Q ↔ zQ 119 43 [v0, v1, .int y, .int x] st M Q := zq_stI (i := .istore_n 3) (k := 3) (by decide +kernel) rfl (Nat.le_of_ble_eq_true rfl) rfl rfl
theorem q119_42r : zQ 119 42 [v0, v1, .ref r1, v3] (.int x :: st) M Q ↔ zQ 119 43 [v0, v1, .ref r1, .int x] st M Q := zq_stI (i := .istore_n 3) (k := 3) (by decide +kernel) rfl (Nat.le_of_ble_eq_true rfl) rfl rfl
theorem q119_42n : zQ 119 42 [v0, v1, .null, v3] (.int x :: st) M Q ↔ zQ 119 43 [v0, v1, .null, .int x] st M Q := zq_stI (i := .istore_n 3) (k := 3) (by decide +kernel) rfl (Nat.le_of_ble_eq_true rfl) rfl rfl
theorem q119_43 : zQ 119 43 [v0, v1, v2, .int x] st M Q ↔ zQ 119 44 [v0, v1, v2, .int x] (.int x :: st) M Q := zq_go (i := .iload_n 3) (by decide +kernel) rfl
theorem q119_44 : zQ 119 44 [v0, .int x, v2, v3] st M Q ↔ zQ 119 45 [v0, .int x, v2, v3] (.int x :: st) M Q := zq_go (i := .iload_n 1) (by decide +kernel) rfl
theorem q119_45 : zQ 119 45 L (.int y :: .int x :: st) M Q ↔ (y ≤ x → zQ 119 62 L st M Q) ∧ (¬ y ≤ x → zQ 119 48 L st M Q) := zq_br (i := .if_icmp .ge 17) (off := 17) (by decide +kernel) rfl (by decide) rfl
theorem q119_48 : zQ 119 48 [.ref a, v1, v2, v3] st M Q ↔ zQ 119 49 [.ref a, v1, v2, v3] (.ref a :: st) M Q := zq_go (i := .aload_n 0) (by decide +kernel) rfl
theorem q119_49 : zQ 119 49 L (.ref a :: st) M Q ↔ (zcs st ≤ 8 ∧ a < zNC ∧ zk a = 6) ∧ zQ 114 0 [.ref a, .null] [] M (fun r M1 => zQ 119 52 L (zpush r st) M1 Q) := zq_callV (n := 179) (j := 114) (b := false) (As := []) (by decide +kernel) (by decide +kernel) ⟨by decide +kernel, by decide +kernel, rfl, by decide +kernel, by decide +kernel, Nat.le_of_ble_eq_true rfl⟩ rfl
theorem q119_52 : zQ 119 52 [.ref a, v1, v2, v3] st M Q ↔ zQ 119 53 [.ref a, v1, v2, v3] (.ref a :: st) M Q := zq_go (i := .aload_n 0) (by decide +kernel) rfl
theorem q119_53 : zQ 119 53 L (.ref a :: st) M Q ↔ (zcs st ≤ 8 ∧ a < zNC ∧ zk a = 6) ∧ zQ 118 0 [.ref a, .null, .null] [] M (fun r M1 => zQ 119 56 L (zpush r st) M1 Q) := zq_callV (n := 188) (j := 118) (b := false) (As := []) (by decide +kernel) (by decide +kernel) ⟨by decide +kernel, by decide +kernel, rfl, by decide +kernel, by decide +kernel, Nat.le_of_ble_eq_true rfl⟩ rfl
theorem q119_56i : zQ 119 56 [v0, v1, .int y, .int x] st M Q ↔ zQ 119 59 [v0, v1, .int y, .int (x + 1)] st M Q := zq_inc (k := 3) (n := 1) (x := x) (v := 1) (by decide +kernel) (by decide +kernel) rfl rfl rfl rfl
theorem q119_56r : zQ 119 56 [v0, v1, .ref r1, .int x] st M Q ↔ zQ 119 59 [v0, v1, .ref r1, .int (x + 1)] st M Q := zq_inc (k := 3) (n := 1) (x := x) (v := 1) (by decide +kernel) (by decide +kernel) rfl rfl rfl rfl
theorem q119_56n : zQ 119 56 [v0, v1, .null, .int x] st M Q ↔ zQ 119 59 [v0, v1, .null, .int (x + 1)] st M Q := zq_inc (k := 3) (n := 1) (x := x) (v := 1) (by decide +kernel) (by decide +kernel) rfl rfl rfl rfl
theorem q119_59 : zQ 119 59 L st M Q ↔ zQ 119 43 L st M Q := zq_jmp (off := (-16)) (by decide +kernel) (by decide)
theorem q119_62 : zQ 119 62 L st M Q ↔ zQ 119 63 L (.int 1 :: st) M Q := zq_con (n := 1) (by decide +kernel) (by decide +kernel) rfl
theorem q119_63 : zQ 119 63 L [.int x] M Q ↔ (x = 0 ∨ x = 1) ∧ Q (zI x) M := zq_reZ (by decide +kernel) (by decide +kernel)
end QI
