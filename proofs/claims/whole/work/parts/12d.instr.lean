section QI
variable {L st : List Value} {M : zM} {Q : zR → zM → Prop} {v0 v1 v2 v3 v4 v5 v6 v7 v8 v9 v10 v11 v12 : Value} {x y : Int32} {xl yl : Int64} {a : Nat} {x1 x2 x3 x4 x5 : Int32} {r1 r2 : Nat} {l1 l2 l3 : Int64}
-- 120 SandKeepersModel.chronicleBy(III)I
theorem q120_0 : zQ 120 0 L st M Q ↔ zQ 120 2 L (.int (-9) :: st) M Q := zq_bip (n := (-9)) (by decide +kernel) (by decide +kernel) rfl
theorem q120_2i : zQ 120 2 [v0, v1, v2, .int y, v4, v5] (.int x :: st) M Q ↔ zQ 120 4 [v0, v1, v2, .int y, .int x, v5] st M Q := zq_stI (i := .istore 4) (k := 4) (by decide +kernel) rfl (Nat.le_of_ble_eq_true rfl) rfl rfl
theorem q120_2r : zQ 120 2 [v0, v1, v2, .ref r1, v4, v5] (.int x :: st) M Q ↔ zQ 120 4 [v0, v1, v2, .ref r1, .int x, v5] st M Q := zq_stI (i := .istore 4) (k := 4) (by decide +kernel) rfl (Nat.le_of_ble_eq_true rfl) rfl rfl
theorem q120_2n : zQ 120 2 [v0, v1, v2, .null, v4, v5] (.int x :: st) M Q ↔ zQ 120 4 [v0, v1, v2, .null, .int x, v5] st M Q := zq_stI (i := .istore 4) (k := 4) (by decide +kernel) rfl (Nat.le_of_ble_eq_true rfl) rfl rfl
theorem q120_4 : zQ 120 4 L st M Q ↔ zQ 120 5 L (.int 0 :: st) M Q := zq_con (n := 0) (by decide +kernel) (by decide +kernel) rfl
theorem q120_5i : zQ 120 5 [v0, v1, v2, v3, .int y, v5] (.int x :: st) M Q ↔ zQ 120 7 [v0, v1, v2, v3, .int y, .int x] st M Q := zq_stI (i := .istore 5) (k := 5) (by decide +kernel) rfl (Nat.le_of_ble_eq_true rfl) rfl rfl
theorem q120_5r : zQ 120 5 [v0, v1, v2, v3, .ref r1, v5] (.int x :: st) M Q ↔ zQ 120 7 [v0, v1, v2, v3, .ref r1, .int x] st M Q := zq_stI (i := .istore 5) (k := 5) (by decide +kernel) rfl (Nat.le_of_ble_eq_true rfl) rfl rfl
theorem q120_5n : zQ 120 5 [v0, v1, v2, v3, .null, v5] (.int x :: st) M Q ↔ zQ 120 7 [v0, v1, v2, v3, .null, .int x] st M Q := zq_stI (i := .istore 5) (k := 5) (by decide +kernel) rfl (Nat.le_of_ble_eq_true rfl) rfl rfl
theorem q120_7 : zQ 120 7 [v0, v1, v2, v3, v4, .int x] st M Q ↔ zQ 120 9 [v0, v1, v2, v3, v4, .int x] (.int x :: st) M Q := zq_go (i := .iload 5) (by decide +kernel) rfl
theorem q120_9 : zQ 120 9 [v0, v1, .int x, v3, v4, v5] st M Q ↔ zQ 120 10 [v0, v1, .int x, v3, v4, v5] (.int x :: st) M Q := zq_go (i := .iload_n 2) (by decide +kernel) rfl
theorem q120_10 : zQ 120 10 L (.int y :: .int x :: st) M Q ↔ (y ≤ x → zQ 120 64 L st M Q) ∧ (¬ y ≤ x → zQ 120 13 L st M Q) := zq_br (i := .if_icmp .ge 54) (off := 54) (by decide +kernel) rfl (by decide) rfl
theorem q120_13 : zQ 120 13 [v0, v1, v2, v3, .int x, v5] st M Q ↔ zQ 120 15 [v0, v1, v2, v3, .int x, v5] (.int x :: st) M Q := zq_go (i := .iload 4) (by decide +kernel) rfl
theorem q120_15 : zQ 120 15 L (.int x :: st) M Q ↔ (0 ≤ x → zQ 120 64 L st M Q) ∧ (¬ 0 ≤ x → zQ 120 18 L st M Q) := zq_br (i := .ifCond .ge 49) (off := 49) (by decide +kernel) rfl (by decide) rfl
theorem q120_18 : zQ 120 18 [.ref a, v1, v2, v3, v4, v5] st M Q ↔ zQ 120 19 [.ref a, v1, v2, v3, v4, v5] (.ref a :: st) M Q := zq_go (i := .aload_n 0) (by decide +kernel) rfl
theorem q120_19 : zQ 120 19 [.ref a, v1, v2, v3, v4, v5] st M Q ↔ zQ 120 20 [.ref a, v1, v2, v3, v4, v5] (.ref a :: st) M Q := zq_go (i := .aload_n 0) (by decide +kernel) rfl
theorem q120_20 : zQ 120 20 L (.ref a :: st) M Q ↔ (a < zNC ∧ zk a = 6) ∧ zQ 120 23 L (zfv a 29 M :: st) M Q := zq_getf (n := 70) (b := false) (by decide +kernel) (by decide +kernel)
theorem q120_23 : zQ 120 23 [v0, .int x, v2, v3, v4, v5] st M Q ↔ zQ 120 24 [v0, .int x, v2, v3, v4, v5] (.int x :: st) M Q := zq_go (i := .iload_n 1) (by decide +kernel) rfl
theorem q120_24 : zQ 120 24 L st M Q ↔ zQ 120 25 L (.int 2 :: st) M Q := zq_con (n := 2) (by decide +kernel) (by decide +kernel) rfl
theorem q120_25 : zQ 120 25 [v0, v1, v2, v3, v4, .int x] st M Q ↔ zQ 120 27 [v0, v1, v2, v3, v4, .int x] (.int x :: st) M Q := zq_go (i := .iload 5) (by decide +kernel) rfl
theorem q120_27 : zQ 120 27 L (.int y :: .int x :: st) M Q ↔ zQ 120 28 L (.int (x * y) :: st) M Q := zq_go (i := .imul) (by decide +kernel) rfl
theorem q120_28 : zQ 120 28 L (.int y :: .int x :: st) M Q ↔ zQ 120 29 L (.int (x + y) :: st) M Q := zq_go (i := .iadd) (by decide +kernel) rfl
theorem q120_29 : zQ 120 29 L (.int x :: .ref a :: st) M Q ↔ (a < zNC ∧ zk a = 7 ∧ zin x (zn a) = true) ∧ zQ 120 30 L (.int (M a x.toNatClampNeg) :: st) M Q := zq_iald (by decide +kernel)
theorem q120_30 : zQ 120 30 [.ref a, v1, v2, v3, v4, v5] st M Q ↔ zQ 120 31 [.ref a, v1, v2, v3, v4, v5] (.ref a :: st) M Q := zq_go (i := .aload_n 0) (by decide +kernel) rfl
theorem q120_31 : zQ 120 31 L (.ref a :: st) M Q ↔ (a < zNC ∧ zk a = 6) ∧ zQ 120 34 L (zfv a 29 M :: st) M Q := zq_getf (n := 70) (b := false) (by decide +kernel) (by decide +kernel)
theorem q120_34 : zQ 120 34 [v0, .int x, v2, v3, v4, v5] st M Q ↔ zQ 120 35 [v0, .int x, v2, v3, v4, v5] (.int x :: st) M Q := zq_go (i := .iload_n 1) (by decide +kernel) rfl
theorem q120_35 : zQ 120 35 L st M Q ↔ zQ 120 36 L (.int 2 :: st) M Q := zq_con (n := 2) (by decide +kernel) (by decide +kernel) rfl
theorem q120_36 : zQ 120 36 [v0, v1, v2, v3, v4, .int x] st M Q ↔ zQ 120 38 [v0, v1, v2, v3, v4, .int x] (.int x :: st) M Q := zq_go (i := .iload 5) (by decide +kernel) rfl
theorem q120_38 : zQ 120 38 L (.int y :: .int x :: st) M Q ↔ zQ 120 39 L (.int (x * y) :: st) M Q := zq_go (i := .imul) (by decide +kernel) rfl
theorem q120_39 : zQ 120 39 L (.int y :: .int x :: st) M Q ↔ zQ 120 40 L (.int (x + y) :: st) M Q := zq_go (i := .iadd) (by decide +kernel) rfl
theorem q120_40 : zQ 120 40 L st M Q ↔ zQ 120 41 L (.int 1 :: st) M Q := zq_con (n := 1) (by decide +kernel) (by decide +kernel) rfl
theorem q120_41 : zQ 120 41 L (.int y :: .int x :: st) M Q ↔ zQ 120 42 L (.int (x + y) :: st) M Q := zq_go (i := .iadd) (by decide +kernel) rfl
theorem q120_42 : zQ 120 42 L (.int x :: .ref a :: st) M Q ↔ (a < zNC ∧ zk a = 7 ∧ zin x (zn a) = true) ∧ zQ 120 43 L (.int (M a x.toNatClampNeg) :: st) M Q := zq_iald (by decide +kernel)
theorem q120_43 : zQ 120 43 L (.int x2 :: .int x1 :: .ref a :: st) M Q ↔ (zcs st ≤ 8 ∧ a < zNC ∧ zk a = 6) ∧ zQ 119 0 [.ref a, .int x1, .int x2, .null] [] M (fun r M1 => zQ 120 46 L (zpush r st) M1 Q) := zq_callV (n := 191) (j := 119) (b := false) (As := [.int x1, .int x2]) (by decide +kernel) (by decide +kernel) ⟨by decide +kernel, by decide +kernel, rfl, by decide +kernel, by decide +kernel, Nat.le_of_ble_eq_true rfl⟩ rfl
theorem q120_46 : zQ 120 46 L (.int x :: st) M Q ↔ (x = 0 → zQ 120 54 L st M Q) ∧ (¬ x = 0 → zQ 120 49 L st M Q) := zq_br (i := .ifCond .eq 8) (off := 8) (by decide +kernel) rfl (by decide) rfl
theorem q120_49 : zQ 120 49 L st M Q ↔ zQ 120 51 L (.int (-9) :: st) M Q := zq_bip (n := (-9)) (by decide +kernel) (by decide +kernel) rfl
theorem q120_51 : zQ 120 51 L st M Q ↔ zQ 120 56 L st M Q := zq_jmp (off := 5) (by decide +kernel) (by decide)
theorem q120_54 : zQ 120 54 [v0, v1, v2, v3, v4, .int x] st M Q ↔ zQ 120 56 [v0, v1, v2, v3, v4, .int x] (.int x :: st) M Q := zq_go (i := .iload 5) (by decide +kernel) rfl
theorem q120_56i : zQ 120 56 [v0, v1, v2, .int y, v4, v5] (.int x :: st) M Q ↔ zQ 120 58 [v0, v1, v2, .int y, .int x, v5] st M Q := zq_stI (i := .istore 4) (k := 4) (by decide +kernel) rfl (Nat.le_of_ble_eq_true rfl) rfl rfl
theorem q120_56r : zQ 120 56 [v0, v1, v2, .ref r1, v4, v5] (.int x :: st) M Q ↔ zQ 120 58 [v0, v1, v2, .ref r1, .int x, v5] st M Q := zq_stI (i := .istore 4) (k := 4) (by decide +kernel) rfl (Nat.le_of_ble_eq_true rfl) rfl rfl
theorem q120_56n : zQ 120 56 [v0, v1, v2, .null, v4, v5] (.int x :: st) M Q ↔ zQ 120 58 [v0, v1, v2, .null, .int x, v5] st M Q := zq_stI (i := .istore 4) (k := 4) (by decide +kernel) rfl (Nat.le_of_ble_eq_true rfl) rfl rfl
theorem q120_58i : zQ 120 58 [v0, v1, v2, v3, .int y, .int x] st M Q ↔ zQ 120 61 [v0, v1, v2, v3, .int y, .int (x + 1)] st M Q := zq_inc (k := 5) (n := 1) (x := x) (v := 1) (by decide +kernel) (by decide +kernel) rfl rfl rfl rfl
theorem q120_58r : zQ 120 58 [v0, v1, v2, v3, .ref r1, .int x] st M Q ↔ zQ 120 61 [v0, v1, v2, v3, .ref r1, .int (x + 1)] st M Q := zq_inc (k := 5) (n := 1) (x := x) (v := 1) (by decide +kernel) (by decide +kernel) rfl rfl rfl rfl
theorem q120_58n : zQ 120 58 [v0, v1, v2, v3, .null, .int x] st M Q ↔ zQ 120 61 [v0, v1, v2, v3, .null, .int (x + 1)] st M Q := zq_inc (k := 5) (n := 1) (x := x) (v := 1) (by decide +kernel) (by decide +kernel) rfl rfl rfl rfl
theorem q120_61 : zQ 120 61 L st M Q ↔ zQ 120 7 L st M Q := zq_jmp (off := (-54)) (by decide +kernel) (by decide)
theorem q120_64 : zQ 120 64 [v0, v1, v2, .int x, v4, v5] st M Q ↔ zQ 120 65 [v0, v1, v2, .int x, v4, v5] (.int x :: st) M Q := zq_go (i := .iload_n 3) (by decide +kernel) rfl
theorem q120_65 : zQ 120 65 L st M Q ↔ zQ 120 66 L (.int 1 :: st) M Q := zq_con (n := 1) (by decide +kernel) (by decide +kernel) rfl
theorem q120_66 : zQ 120 66 L (.int y :: .int x :: st) M Q ↔ (x = y → zQ 120 69 L st M Q) ∧ (¬ x = y → zQ 120 72 L st M Q) := zq_bn (i := .if_icmp .ne 6) (off := 6) (by decide +kernel) rfl (by decide) rfl
theorem q120_69 : zQ 120 69 [v0, v1, v2, v3, .int x, v5] st M Q ↔ zQ 120 71 [v0, v1, v2, v3, .int x, v5] (.int x :: st) M Q := zq_go (i := .iload 4) (by decide +kernel) rfl
theorem q120_71 : zQ 120 71 L [.int x] M Q ↔ Q (zI x) M := zq_reI (by decide +kernel) (by decide +kernel)
theorem q120_72 : zQ 120 72 [v0, v1, v2, v3, .int x, v5] st M Q ↔ zQ 120 74 [v0, v1, v2, v3, .int x, v5] (.int x :: st) M Q := zq_go (i := .iload 4) (by decide +kernel) rfl
theorem q120_74 : zQ 120 74 L (.int x :: st) M Q ↔ (x < 0 → zQ 120 83 L st M Q) ∧ (¬ x < 0 → zQ 120 77 L st M Q) := zq_br (i := .ifCond .lt 9) (off := 9) (by decide +kernel) rfl (by decide) rfl
theorem q120_77 : zQ 120 77 L st M Q ↔ zQ 120 79 L (.int (-100) :: st) M Q := zq_bip (n := (-100)) (by decide +kernel) (by decide +kernel) rfl
theorem q120_79 : zQ 120 79 [v0, v1, v2, v3, .int x, v5] st M Q ↔ zQ 120 81 [v0, v1, v2, v3, .int x, v5] (.int x :: st) M Q := zq_go (i := .iload 4) (by decide +kernel) rfl
theorem q120_81 : zQ 120 81 L (.int y :: .int x :: st) M Q ↔ zQ 120 82 L (.int (x - y) :: st) M Q := zq_go (i := .isub) (by decide +kernel) rfl
theorem q120_82 : zQ 120 82 L [.int x] M Q ↔ Q (zI x) M := zq_reI (by decide +kernel) (by decide +kernel)
theorem q120_83 : zQ 120 83 [v0, v1, v2, .int x, v4, v5] st M Q ↔ zQ 120 84 [v0, v1, v2, .int x, v4, v5] (.int x :: st) M Q := zq_go (i := .iload_n 3) (by decide +kernel) rfl
theorem q120_84 : zQ 120 84 L st M Q ↔ zQ 120 86 L (.int 20 :: st) M Q := zq_bip (n := 20) (by decide +kernel) (by decide +kernel) rfl
theorem q120_86 : zQ 120 86 L (.int y :: .int x :: st) M Q ↔ (x < y → zQ 120 115 L st M Q) ∧ (¬ x < y → zQ 120 89 L st M Q) := zq_br (i := .if_icmp .lt 29) (off := 29) (by decide +kernel) rfl (by decide) rfl
theorem q120_89 : zQ 120 89 [.ref a, v1, v2, v3, v4, v5] st M Q ↔ zQ 120 90 [.ref a, v1, v2, v3, v4, v5] (.ref a :: st) M Q := zq_go (i := .aload_n 0) (by decide +kernel) rfl
theorem q120_90 : zQ 120 90 [v0, v1, v2, .int x, v4, v5] st M Q ↔ zQ 120 91 [v0, v1, v2, .int x, v4, v5] (.int x :: st) M Q := zq_go (i := .iload_n 3) (by decide +kernel) rfl
theorem q120_91 : zQ 120 91 L st M Q ↔ zQ 120 93 L (.int 20 :: st) M Q := zq_bip (n := 20) (by decide +kernel) (by decide +kernel) rfl
theorem q120_93 : zQ 120 93 L (.int y :: .int x :: st) M Q ↔ zQ 120 94 L (.int (x - y) :: st) M Q := zq_go (i := .isub) (by decide +kernel) rfl
theorem q120_94 : zQ 120 94 L (.int x1 :: .ref a :: st) M Q ↔ (zcs st ≤ 8 ∧ a < zNC ∧ zk a = 6) ∧ zQ 92 0 [.ref a, .int x1] [] M (fun r M1 => zQ 120 97 L (zpush r st) M1 Q) := zq_callV (n := 145) (j := 92) (b := false) (As := [.int x1]) (by decide +kernel) (by decide +kernel) ⟨by decide +kernel, by decide +kernel, rfl, by decide +kernel, by decide +kernel, Nat.le_of_ble_eq_true rfl⟩ rfl
theorem q120_97 : zQ 120 97 L (.int x :: st) M Q ↔ (x = 0 → zQ 120 105 L st M Q) ∧ (¬ x = 0 → zQ 120 100 L st M Q) := zq_br (i := .ifCond .eq 8) (off := 8) (by decide +kernel) rfl (by decide) rfl
theorem q120_100 : zQ 120 100 L st M Q ↔ zQ 120 102 L (.int (-9) :: st) M Q := zq_bip (n := (-9)) (by decide +kernel) (by decide +kernel) rfl
theorem q120_102 : zQ 120 102 L st M Q ↔ zQ 120 114 L st M Q := zq_jmp (off := 12) (by decide +kernel) (by decide)
theorem q120_105 : zQ 120 105 [.ref a, v1, v2, v3, v4, v5] st M Q ↔ zQ 120 106 [.ref a, v1, v2, v3, v4, v5] (.ref a :: st) M Q := zq_go (i := .aload_n 0) (by decide +kernel) rfl
theorem q120_106 : zQ 120 106 L (.ref a :: st) M Q ↔ (a < zNC ∧ zk a = 6) ∧ zQ 120 109 L (zfv a 20 M :: st) M Q := zq_getf (n := 46) (b := false) (by decide +kernel) (by decide +kernel)
theorem q120_109 : zQ 120 109 [v0, v1, v2, .int x, v4, v5] st M Q ↔ zQ 120 110 [v0, v1, v2, .int x, v4, v5] (.int x :: st) M Q := zq_go (i := .iload_n 3) (by decide +kernel) rfl
theorem q120_110 : zQ 120 110 L st M Q ↔ zQ 120 112 L (.int 20 :: st) M Q := zq_bip (n := 20) (by decide +kernel) (by decide +kernel) rfl
theorem q120_112 : zQ 120 112 L (.int y :: .int x :: st) M Q ↔ zQ 120 113 L (.int (x - y) :: st) M Q := zq_go (i := .isub) (by decide +kernel) rfl
theorem q120_113 : zQ 120 113 L (.int x :: .ref a :: st) M Q ↔ (a < zNC ∧ zk a = 7 ∧ zin x (zn a) = true) ∧ zQ 120 114 L (.int (M a x.toNatClampNeg) :: st) M Q := zq_iald (by decide +kernel)
theorem q120_114 : zQ 120 114 L [.int x] M Q ↔ Q (zI x) M := zq_reI (by decide +kernel) (by decide +kernel)
theorem q120_115 : zQ 120 115 [v0, v1, v2, .int x, v4, v5] st M Q ↔ zQ 120 116 [v0, v1, v2, .int x, v4, v5] (.int x :: st) M Q := zq_go (i := .iload_n 3) (by decide +kernel) rfl
theorem q120_116 : zQ 120 116 L st M Q ↔ zQ 120 118 L (.int 10 :: st) M Q := zq_bip (n := 10) (by decide +kernel) (by decide +kernel) rfl
theorem q120_118 : zQ 120 118 L (.int y :: .int x :: st) M Q ↔ (x < y → zQ 120 147 L st M Q) ∧ (¬ x < y → zQ 120 121 L st M Q) := zq_br (i := .if_icmp .lt 29) (off := 29) (by decide +kernel) rfl (by decide) rfl
theorem q120_121 : zQ 120 121 [.ref a, v1, v2, v3, v4, v5] st M Q ↔ zQ 120 122 [.ref a, v1, v2, v3, v4, v5] (.ref a :: st) M Q := zq_go (i := .aload_n 0) (by decide +kernel) rfl
theorem q120_122 : zQ 120 122 [v0, v1, v2, .int x, v4, v5] st M Q ↔ zQ 120 123 [v0, v1, v2, .int x, v4, v5] (.int x :: st) M Q := zq_go (i := .iload_n 3) (by decide +kernel) rfl
theorem q120_123 : zQ 120 123 L st M Q ↔ zQ 120 125 L (.int 10 :: st) M Q := zq_bip (n := 10) (by decide +kernel) (by decide +kernel) rfl
theorem q120_125 : zQ 120 125 L (.int y :: .int x :: st) M Q ↔ zQ 120 126 L (.int (x - y) :: st) M Q := zq_go (i := .isub) (by decide +kernel) rfl
theorem q120_126 : zQ 120 126 L (.int x1 :: .ref a :: st) M Q ↔ (zcs st ≤ 8 ∧ a < zNC ∧ zk a = 6) ∧ zQ 92 0 [.ref a, .int x1] [] M (fun r M1 => zQ 120 129 L (zpush r st) M1 Q) := zq_callV (n := 145) (j := 92) (b := false) (As := [.int x1]) (by decide +kernel) (by decide +kernel) ⟨by decide +kernel, by decide +kernel, rfl, by decide +kernel, by decide +kernel, Nat.le_of_ble_eq_true rfl⟩ rfl
theorem q120_129 : zQ 120 129 L (.int x :: st) M Q ↔ (x = 0 → zQ 120 137 L st M Q) ∧ (¬ x = 0 → zQ 120 132 L st M Q) := zq_br (i := .ifCond .eq 8) (off := 8) (by decide +kernel) rfl (by decide) rfl
theorem q120_132 : zQ 120 132 L st M Q ↔ zQ 120 134 L (.int (-9) :: st) M Q := zq_bip (n := (-9)) (by decide +kernel) (by decide +kernel) rfl
theorem q120_134 : zQ 120 134 L st M Q ↔ zQ 120 146 L st M Q := zq_jmp (off := 12) (by decide +kernel) (by decide)
theorem q120_137 : zQ 120 137 [.ref a, v1, v2, v3, v4, v5] st M Q ↔ zQ 120 138 [.ref a, v1, v2, v3, v4, v5] (.ref a :: st) M Q := zq_go (i := .aload_n 0) (by decide +kernel) rfl
theorem q120_138 : zQ 120 138 L (.ref a :: st) M Q ↔ (a < zNC ∧ zk a = 6) ∧ zQ 120 141 L (zfv a 4 M :: st) M Q := zq_getf (n := 13) (b := false) (by decide +kernel) (by decide +kernel)
theorem q120_141 : zQ 120 141 [v0, v1, v2, .int x, v4, v5] st M Q ↔ zQ 120 142 [v0, v1, v2, .int x, v4, v5] (.int x :: st) M Q := zq_go (i := .iload_n 3) (by decide +kernel) rfl
theorem q120_142 : zQ 120 142 L st M Q ↔ zQ 120 144 L (.int 10 :: st) M Q := zq_bip (n := 10) (by decide +kernel) (by decide +kernel) rfl
theorem q120_144 : zQ 120 144 L (.int y :: .int x :: st) M Q ↔ zQ 120 145 L (.int (x - y) :: st) M Q := zq_go (i := .isub) (by decide +kernel) rfl
theorem q120_145 : zQ 120 145 L (.int x :: .ref a :: st) M Q ↔ (a < zNC ∧ zk a = 7 ∧ zin x (zn a) = true) ∧ zQ 120 146 L (.int (M a x.toNatClampNeg) :: st) M Q := zq_iald (by decide +kernel)
theorem q120_146 : zQ 120 146 L [.int x] M Q ↔ Q (zI x) M := zq_reI (by decide +kernel) (by decide +kernel)
theorem q120_147 : zQ 120 147 [v0, v1, v2, .int x, v4, v5] st M Q ↔ zQ 120 148 [v0, v1, v2, .int x, v4, v5] (.int x :: st) M Q := zq_go (i := .iload_n 3) (by decide +kernel) rfl
theorem q120_148 : zQ 120 148 L (.int x :: st) M Q ↔ (x = 0 → zQ 120 151 L st M Q) ∧ (¬ x = 0 → zQ 120 161 L st M Q) := zq_bn (i := .ifCond .ne 13) (off := 13) (by decide +kernel) rfl (by decide) rfl
theorem q120_151 : zQ 120 151 [.ref a, v1, v2, v3, v4, v5] st M Q ↔ zQ 120 152 [.ref a, v1, v2, v3, v4, v5] (.ref a :: st) M Q := zq_go (i := .aload_n 0) (by decide +kernel) rfl
theorem q120_152 : zQ 120 152 L (.ref a :: st) M Q ↔ (zcs st ≤ 8 ∧ a < zNC ∧ zk a = 6) ∧ zQ 106 0 [.ref a, .null, .null] [] M (fun r M1 => zQ 120 155 L (zpush r st) M1 Q) := zq_callV (n := 158) (j := 106) (b := false) (As := []) (by decide +kernel) (by decide +kernel) ⟨by decide +kernel, by decide +kernel, rfl, by decide +kernel, by decide +kernel, Nat.le_of_ble_eq_true rfl⟩ rfl
theorem q120_155 : zQ 120 155 L (.int x1 :: st) M Q ↔ zcs st ≤ 8 ∧ zQ 87 0 [.int x1, .null, .null] [] M (fun r M1 => zQ 120 158 L (zpush r st) M1 Q) := zq_callS (n := 176) (j := 87) (b := false) (As := [.int x1]) (by decide +kernel) (by decide +kernel) ⟨by decide +kernel, by decide +kernel, rfl, by decide +kernel, by decide +kernel, Nat.le_of_ble_eq_true rfl⟩ rfl
theorem q120_158 : zQ 120 158 L st M Q ↔ zQ 120 182 L st M Q := zq_jmp (off := 24) (by decide +kernel) (by decide)
theorem q120_161 : zQ 120 161 [v0, v1, v2, .int x, v4, v5] st M Q ↔ zQ 120 162 [v0, v1, v2, .int x, v4, v5] (.int x :: st) M Q := zq_go (i := .iload_n 3) (by decide +kernel) rfl
theorem q120_162 : zQ 120 162 L st M Q ↔ zQ 120 163 L (.int 2 :: st) M Q := zq_con (n := 2) (by decide +kernel) (by decide +kernel) rfl
theorem q120_163 : zQ 120 163 L (.int y :: .int x :: st) M Q ↔ (x = y → zQ 120 166 L st M Q) ∧ (¬ x = y → zQ 120 178 L st M Q) := zq_bn (i := .if_icmp .ne 15) (off := 15) (by decide +kernel) rfl (by decide) rfl
theorem q120_166 : zQ 120 166 [.ref a, v1, v2, v3, v4, v5] st M Q ↔ zQ 120 167 [.ref a, v1, v2, v3, v4, v5] (.ref a :: st) M Q := zq_go (i := .aload_n 0) (by decide +kernel) rfl
theorem q120_167 : zQ 120 167 L (.ref a :: st) M Q ↔ (a < zNC ∧ zk a = 6) ∧ zQ 120 170 L (zfv a 2 M :: st) M Q := zq_getf (n := 136) (b := false) (by decide +kernel) (by decide +kernel)
theorem q120_170 : zQ 120 170 [.ref a, v1, v2, v3, v4, v5] st M Q ↔ zQ 120 171 [.ref a, v1, v2, v3, v4, v5] (.ref a :: st) M Q := zq_go (i := .aload_n 0) (by decide +kernel) rfl
theorem q120_171 : zQ 120 171 L (.ref a :: st) M Q ↔ (a < zNC ∧ zk a = 6) ∧ zQ 120 174 L (zfv a 19 M :: st) M Q := zq_getf (n := 185) (b := false) (by decide +kernel) (by decide +kernel)
theorem q120_174 : zQ 120 174 L (.int y :: .int x :: st) M Q ↔ zQ 120 175 L (.int (x - y) :: st) M Q := zq_go (i := .isub) (by decide +kernel) rfl
theorem q120_175 : zQ 120 175 L st M Q ↔ zQ 120 182 L st M Q := zq_jmp (off := 7) (by decide +kernel) (by decide)
theorem q120_178 : zQ 120 178 [.ref a, v1, v2, v3, v4, v5] st M Q ↔ zQ 120 179 [.ref a, v1, v2, v3, v4, v5] (.ref a :: st) M Q := zq_go (i := .aload_n 0) (by decide +kernel) rfl
theorem q120_179 : zQ 120 179 L (.ref a :: st) M Q ↔ (zcs st ≤ 8 ∧ a < zNC ∧ zk a = 6) ∧ zQ 106 0 [.ref a, .null, .null] [] M (fun r M1 => zQ 120 182 L (zpush r st) M1 Q) := zq_callV (n := 158) (j := 106) (b := false) (As := []) (by decide +kernel) (by decide +kernel) ⟨by decide +kernel, by decide +kernel, rfl, by decide +kernel, by decide +kernel, Nat.le_of_ble_eq_true rfl⟩ rfl
theorem q120_182 : zQ 120 182 L [.int x] M Q ↔ Q (zI x) M := zq_reI (by decide +kernel) (by decide +kernel)
-- 121 SandKeepersModel.pairsBarred(II)I
theorem q121_0 : zQ 121 0 L st M Q ↔ zQ 121 1 L (.int 0 :: st) M Q := zq_con (n := 0) (by decide +kernel) (by decide +kernel) rfl
theorem q121_1i : zQ 121 1 [v0, v1, .int y, v3, v4, v5] (.int x :: st) M Q ↔ zQ 121 2 [v0, v1, .int y, .int x, v4, v5] st M Q := zq_stI (i := .istore_n 3) (k := 3) (by decide +kernel) rfl (Nat.le_of_ble_eq_true rfl) rfl rfl
theorem q121_1r : zQ 121 1 [v0, v1, .ref r1, v3, v4, v5] (.int x :: st) M Q ↔ zQ 121 2 [v0, v1, .ref r1, .int x, v4, v5] st M Q := zq_stI (i := .istore_n 3) (k := 3) (by decide +kernel) rfl (Nat.le_of_ble_eq_true rfl) rfl rfl
theorem q121_1n : zQ 121 1 [v0, v1, .null, v3, v4, v5] (.int x :: st) M Q ↔ zQ 121 2 [v0, v1, .null, .int x, v4, v5] st M Q := zq_stI (i := .istore_n 3) (k := 3) (by decide +kernel) rfl (Nat.le_of_ble_eq_true rfl) rfl rfl
theorem q121_2 : zQ 121 2 [v0, v1, v2, .int x, v4, v5] st M Q ↔ zQ 121 3 [v0, v1, v2, .int x, v4, v5] (.int x :: st) M Q := zq_go (i := .iload_n 3) (by decide +kernel) rfl
theorem q121_3 : zQ 121 3 [v0, v1, .int x, v3, v4, v5] st M Q ↔ zQ 121 4 [v0, v1, .int x, v3, v4, v5] (.int x :: st) M Q := zq_go (i := .iload_n 2) (by decide +kernel) rfl
theorem q121_4 : zQ 121 4 L (.int y :: .int x :: st) M Q ↔ (y ≤ x → zQ 121 100 L st M Q) ∧ (¬ y ≤ x → zQ 121 7 L st M Q) := zq_br (i := .if_icmp .ge 96) (off := 96) (by decide +kernel) rfl (by decide) rfl
theorem q121_7 : zQ 121 7 [.ref a, v1, v2, v3, v4, v5] st M Q ↔ zQ 121 8 [.ref a, v1, v2, v3, v4, v5] (.ref a :: st) M Q := zq_go (i := .aload_n 0) (by decide +kernel) rfl
theorem q121_8 : zQ 121 8 L (.ref a :: st) M Q ↔ (a < zNC ∧ zk a = 6) ∧ zQ 121 11 L (zfv a 29 M :: st) M Q := zq_getf (n := 70) (b := false) (by decide +kernel) (by decide +kernel)
theorem q121_11 : zQ 121 11 [v0, .int x, v2, v3, v4, v5] st M Q ↔ zQ 121 12 [v0, .int x, v2, v3, v4, v5] (.int x :: st) M Q := zq_go (i := .iload_n 1) (by decide +kernel) rfl
theorem q121_12 : zQ 121 12 L st M Q ↔ zQ 121 13 L (.int 2 :: st) M Q := zq_con (n := 2) (by decide +kernel) (by decide +kernel) rfl
theorem q121_13 : zQ 121 13 [v0, v1, v2, .int x, v4, v5] st M Q ↔ zQ 121 14 [v0, v1, v2, .int x, v4, v5] (.int x :: st) M Q := zq_go (i := .iload_n 3) (by decide +kernel) rfl
theorem q121_14 : zQ 121 14 L (.int y :: .int x :: st) M Q ↔ zQ 121 15 L (.int (x * y) :: st) M Q := zq_go (i := .imul) (by decide +kernel) rfl
theorem q121_15 : zQ 121 15 L (.int y :: .int x :: st) M Q ↔ zQ 121 16 L (.int (x + y) :: st) M Q := zq_go (i := .iadd) (by decide +kernel) rfl
theorem q121_16 : zQ 121 16 L (.int x :: .ref a :: st) M Q ↔ (a < zNC ∧ zk a = 7 ∧ zin x (zn a) = true) ∧ zQ 121 17 L (.int (M a x.toNatClampNeg) :: st) M Q := zq_iald (by decide +kernel)
theorem q121_17i : zQ 121 17 [v0, v1, v2, .int y, v4, v5] (.int x :: st) M Q ↔ zQ 121 19 [v0, v1, v2, .int y, .int x, v5] st M Q := zq_stI (i := .istore 4) (k := 4) (by decide +kernel) rfl (Nat.le_of_ble_eq_true rfl) rfl rfl
theorem q121_17r : zQ 121 17 [v0, v1, v2, .ref r1, v4, v5] (.int x :: st) M Q ↔ zQ 121 19 [v0, v1, v2, .ref r1, .int x, v5] st M Q := zq_stI (i := .istore 4) (k := 4) (by decide +kernel) rfl (Nat.le_of_ble_eq_true rfl) rfl rfl
theorem q121_17n : zQ 121 17 [v0, v1, v2, .null, v4, v5] (.int x :: st) M Q ↔ zQ 121 19 [v0, v1, v2, .null, .int x, v5] st M Q := zq_stI (i := .istore 4) (k := 4) (by decide +kernel) rfl (Nat.le_of_ble_eq_true rfl) rfl rfl
theorem q121_19 : zQ 121 19 [.ref a, v1, v2, v3, v4, v5] st M Q ↔ zQ 121 20 [.ref a, v1, v2, v3, v4, v5] (.ref a :: st) M Q := zq_go (i := .aload_n 0) (by decide +kernel) rfl
theorem q121_20 : zQ 121 20 L (.ref a :: st) M Q ↔ (a < zNC ∧ zk a = 6) ∧ zQ 121 23 L (zfv a 29 M :: st) M Q := zq_getf (n := 70) (b := false) (by decide +kernel) (by decide +kernel)
theorem q121_23 : zQ 121 23 [v0, .int x, v2, v3, v4, v5] st M Q ↔ zQ 121 24 [v0, .int x, v2, v3, v4, v5] (.int x :: st) M Q := zq_go (i := .iload_n 1) (by decide +kernel) rfl
theorem q121_24 : zQ 121 24 L st M Q ↔ zQ 121 25 L (.int 2 :: st) M Q := zq_con (n := 2) (by decide +kernel) (by decide +kernel) rfl
theorem q121_25 : zQ 121 25 [v0, v1, v2, .int x, v4, v5] st M Q ↔ zQ 121 26 [v0, v1, v2, .int x, v4, v5] (.int x :: st) M Q := zq_go (i := .iload_n 3) (by decide +kernel) rfl
theorem q121_26 : zQ 121 26 L (.int y :: .int x :: st) M Q ↔ zQ 121 27 L (.int (x * y) :: st) M Q := zq_go (i := .imul) (by decide +kernel) rfl
theorem q121_27 : zQ 121 27 L (.int y :: .int x :: st) M Q ↔ zQ 121 28 L (.int (x + y) :: st) M Q := zq_go (i := .iadd) (by decide +kernel) rfl
theorem q121_28 : zQ 121 28 L st M Q ↔ zQ 121 29 L (.int 1 :: st) M Q := zq_con (n := 1) (by decide +kernel) (by decide +kernel) rfl
theorem q121_29 : zQ 121 29 L (.int y :: .int x :: st) M Q ↔ zQ 121 30 L (.int (x + y) :: st) M Q := zq_go (i := .iadd) (by decide +kernel) rfl
theorem q121_30 : zQ 121 30 L (.int x :: .ref a :: st) M Q ↔ (a < zNC ∧ zk a = 7 ∧ zin x (zn a) = true) ∧ zQ 121 31 L (.int (M a x.toNatClampNeg) :: st) M Q := zq_iald (by decide +kernel)
theorem q121_31i : zQ 121 31 [v0, v1, v2, v3, .int y, v5] (.int x :: st) M Q ↔ zQ 121 33 [v0, v1, v2, v3, .int y, .int x] st M Q := zq_stI (i := .istore 5) (k := 5) (by decide +kernel) rfl (Nat.le_of_ble_eq_true rfl) rfl rfl
theorem q121_31r : zQ 121 31 [v0, v1, v2, v3, .ref r1, v5] (.int x :: st) M Q ↔ zQ 121 33 [v0, v1, v2, v3, .ref r1, .int x] st M Q := zq_stI (i := .istore 5) (k := 5) (by decide +kernel) rfl (Nat.le_of_ble_eq_true rfl) rfl rfl
theorem q121_31n : zQ 121 31 [v0, v1, v2, v3, .null, v5] (.int x :: st) M Q ↔ zQ 121 33 [v0, v1, v2, v3, .null, .int x] st M Q := zq_stI (i := .istore 5) (k := 5) (by decide +kernel) rfl (Nat.le_of_ble_eq_true rfl) rfl rfl
theorem q121_33 : zQ 121 33 [v0, v1, v2, v3, v4, .int x] st M Q ↔ zQ 121 35 [v0, v1, v2, v3, v4, .int x] (.int x :: st) M Q := zq_go (i := .iload 5) (by decide +kernel) rfl
theorem q121_35 : zQ 121 35 L (.int x :: st) M Q ↔ zQ 121 36 L (.long x.toInt64 :: st) M Q := zq_go (i := .i2l) (by decide +kernel) rfl
theorem q121_36 : zQ 121 36 L st M Q ↔ zQ 121 37 L (.long 0 :: st) M Q := zq_lco (n := 0) (by decide +kernel) (by decide +kernel) rfl
theorem q121_37 : zQ 121 37 L st M Q ↔ zQ 121 40 L (.long 2 :: st) M Q := zq_ld2 (n := 126) (by decide +kernel) (by decide +kernel) rfl
theorem q121_40 : zQ 121 40 L (.long l3 :: .long l2 :: .long l1 :: st) M Q ↔ zcs st ≤ 8 ∧ zQ 84 0 [.long l1, .null, .long l2, .null, .long l3, .null] [] M (fun r M1 => zQ 121 43 L (zpush r st) M1 Q) := zq_callS (n := 89) (j := 84) (b := false) (As := [.long l1, .long l2, .long l3]) (by decide +kernel) (by decide +kernel) ⟨by decide +kernel, by decide +kernel, rfl, by decide +kernel, by decide +kernel, Nat.le_of_ble_eq_true rfl⟩ rfl
theorem q121_43 : zQ 121 43 L (.int x :: st) M Q ↔ (x = 0 → zQ 121 46 L st M Q) ∧ (¬ x = 0 → zQ 121 53 L st M Q) := zq_bn (i := .ifCond .ne 10) (off := 10) (by decide +kernel) rfl (by decide) rfl
theorem q121_46 : zQ 121 46 [v0, v1, v2, v3, v4, .int x] st M Q ↔ zQ 121 48 [v0, v1, v2, v3, v4, .int x] (.int x :: st) M Q := zq_go (i := .iload 5) (by decide +kernel) rfl
theorem q121_48 : zQ 121 48 L st M Q ↔ zQ 121 50 L (.int 9 :: st) M Q := zq_bip (n := 9) (by decide +kernel) (by decide +kernel) rfl
theorem q121_50 : zQ 121 50 L (.int y :: .int x :: st) M Q ↔ (x = y → zQ 121 53 L st M Q) ∧ (¬ x = y → zQ 121 73 L st M Q) := zq_bn (i := .if_icmp .ne 23) (off := 23) (by decide +kernel) rfl (by decide) rfl
theorem q121_53 : zQ 121 53 [v0, v1, v2, v3, v4, .int x] st M Q ↔ zQ 121 55 [v0, v1, v2, v3, v4, .int x] (.int x :: st) M Q := zq_go (i := .iload 5) (by decide +kernel) rfl
theorem q121_55 : zQ 121 55 L st M Q ↔ zQ 121 57 L (.int 9 :: st) M Q := zq_bip (n := 9) (by decide +kernel) (by decide +kernel) rfl
theorem q121_57 : zQ 121 57 L (.int y :: .int x :: st) M Q ↔ (x = y → zQ 121 60 L st M Q) ∧ (¬ x = y → zQ 121 76 L st M Q) := zq_bn (i := .if_icmp .ne 19) (off := 19) (by decide +kernel) rfl (by decide) rfl
theorem q121_60 : zQ 121 60 [v0, v1, v2, v3, .int x, v5] st M Q ↔ zQ 121 62 [v0, v1, v2, v3, .int x, v5] (.int x :: st) M Q := zq_go (i := .iload 4) (by decide +kernel) rfl
theorem q121_62 : zQ 121 62 L (.int x :: st) M Q ↔ zQ 121 63 L (.long x.toInt64 :: st) M Q := zq_go (i := .i2l) (by decide +kernel) rfl
theorem q121_63 : zQ 121 63 L st M Q ↔ zQ 121 64 L (.long 0 :: st) M Q := zq_lco (n := 0) (by decide +kernel) (by decide +kernel) rfl
theorem q121_64 : zQ 121 64 L st M Q ↔ zQ 121 67 L (.long 9 :: st) M Q := zq_ld2 (n := 151) (by decide +kernel) (by decide +kernel) rfl
theorem q121_67 : zQ 121 67 L (.long l3 :: .long l2 :: .long l1 :: st) M Q ↔ zcs st ≤ 8 ∧ zQ 84 0 [.long l1, .null, .long l2, .null, .long l3, .null] [] M (fun r M1 => zQ 121 70 L (zpush r st) M1 Q) := zq_callS (n := 89) (j := 84) (b := false) (As := [.long l1, .long l2, .long l3]) (by decide +kernel) (by decide +kernel) ⟨by decide +kernel, by decide +kernel, rfl, by decide +kernel, by decide +kernel, Nat.le_of_ble_eq_true rfl⟩ rfl
theorem q121_70 : zQ 121 70 L (.int x :: st) M Q ↔ (x = 0 → zQ 121 73 L st M Q) ∧ (¬ x = 0 → zQ 121 76 L st M Q) := zq_bn (i := .ifCond .ne 6) (off := 6) (by decide +kernel) rfl (by decide) rfl
theorem q121_73 : zQ 121 73 L st M Q ↔ zQ 121 75 L (.int (-2) :: st) M Q := zq_bip (n := (-2)) (by decide +kernel) (by decide +kernel) rfl
theorem q121_75 : zQ 121 75 L [.int x] M Q ↔ Q (zI x) M := zq_reI (by decide +kernel) (by decide +kernel)
theorem q121_76 : zQ 121 76 [v0, v1, v2, v3, v4, .int x] st M Q ↔ zQ 121 78 [v0, v1, v2, v3, v4, .int x] (.int x :: st) M Q := zq_go (i := .iload 5) (by decide +kernel) rfl
theorem q121_78 : zQ 121 78 L st M Q ↔ zQ 121 80 L (.int 9 :: st) M Q := zq_bip (n := 9) (by decide +kernel) (by decide +kernel) rfl
theorem q121_80 : zQ 121 80 L (.int y :: .int x :: st) M Q ↔ (x = y → zQ 121 94 L st M Q) ∧ (¬ x = y → zQ 121 83 L st M Q) := zq_br (i := .if_icmp .eq 14) (off := 14) (by decide +kernel) rfl (by decide) rfl
theorem q121_83 : zQ 121 83 [.ref a, v1, v2, v3, v4, v5] st M Q ↔ zQ 121 84 [.ref a, v1, v2, v3, v4, v5] (.ref a :: st) M Q := zq_go (i := .aload_n 0) (by decide +kernel) rfl
theorem q121_84 : zQ 121 84 [v0, v1, v2, v3, .int x, v5] st M Q ↔ zQ 121 86 [v0, v1, v2, v3, .int x, v5] (.int x :: st) M Q := zq_go (i := .iload 4) (by decide +kernel) rfl
theorem q121_86 : zQ 121 86 L (.int x1 :: .ref a :: st) M Q ↔ (zcs st ≤ 8 ∧ a < zNC ∧ zk a = 6) ∧ zQ 92 0 [.ref a, .int x1] [] M (fun r M1 => zQ 121 89 L (zpush r st) M1 Q) := zq_callV (n := 145) (j := 92) (b := false) (As := [.int x1]) (by decide +kernel) (by decide +kernel) ⟨by decide +kernel, by decide +kernel, rfl, by decide +kernel, by decide +kernel, Nat.le_of_ble_eq_true rfl⟩ rfl
theorem q121_89 : zQ 121 89 L (.int x :: st) M Q ↔ (x = 0 → zQ 121 94 L st M Q) ∧ (¬ x = 0 → zQ 121 92 L st M Q) := zq_br (i := .ifCond .eq 5) (off := 5) (by decide +kernel) rfl (by decide) rfl
theorem q121_92 : zQ 121 92 L st M Q ↔ zQ 121 93 L (.int (-1) :: st) M Q := zq_con (n := (-1)) (by decide +kernel) (by decide +kernel) rfl
theorem q121_93 : zQ 121 93 L [.int x] M Q ↔ Q (zI x) M := zq_reI (by decide +kernel) (by decide +kernel)
theorem q121_94i : zQ 121 94 [v0, v1, .int y, .int x, v4, v5] st M Q ↔ zQ 121 97 [v0, v1, .int y, .int (x + 1), v4, v5] st M Q := zq_inc (k := 3) (n := 1) (x := x) (v := 1) (by decide +kernel) (by decide +kernel) rfl rfl rfl rfl
theorem q121_94r : zQ 121 94 [v0, v1, .ref r1, .int x, v4, v5] st M Q ↔ zQ 121 97 [v0, v1, .ref r1, .int (x + 1), v4, v5] st M Q := zq_inc (k := 3) (n := 1) (x := x) (v := 1) (by decide +kernel) (by decide +kernel) rfl rfl rfl rfl
theorem q121_94n : zQ 121 94 [v0, v1, .null, .int x, v4, v5] st M Q ↔ zQ 121 97 [v0, v1, .null, .int (x + 1), v4, v5] st M Q := zq_inc (k := 3) (n := 1) (x := x) (v := 1) (by decide +kernel) (by decide +kernel) rfl rfl rfl rfl
theorem q121_97 : zQ 121 97 L st M Q ↔ zQ 121 2 L st M Q := zq_jmp (off := (-95)) (by decide +kernel) (by decide)
theorem q121_100 : zQ 121 100 L st M Q ↔ zQ 121 101 L (.int 0 :: st) M Q := zq_con (n := 0) (by decide +kernel) (by decide +kernel) rfl
theorem q121_101 : zQ 121 101 L [.int x] M Q ↔ Q (zI x) M := zq_reI (by decide +kernel) (by decide +kernel)
-- 122 SandKeepersModel.chronicle(IIIII)I
theorem q122_0 : zQ 122 0 [v0, .int x, v2, v3, v4, v5, v6, v7, v8, v9] st M Q ↔ zQ 122 1 [v0, .int x, v2, v3, v4, v5, v6, v7, v8, v9] (.int x :: st) M Q := zq_go (i := .iload_n 1) (by decide +kernel) rfl
theorem q122_1 : zQ 122 1 L (.int x1 :: st) M Q ↔ zcs st ≤ 8 ∧ zQ 141 0 [.int x1] [] M (fun r M1 => zQ 122 4 L (zpush r st) M1 Q) := zq_callS (n := 119) (j := 141) (b := false) (As := [.int x1]) (by decide +kernel) (by decide +kernel) ⟨by decide +kernel, by decide +kernel, rfl, by decide +kernel, by decide +kernel, Nat.le_of_ble_eq_true rfl⟩ rfl
theorem q122_4 : zQ 122 4 L (.int x :: st) M Q ↔ (x = 0 → zQ 122 13 L st M Q) ∧ (¬ x = 0 → zQ 122 7 L st M Q) := zq_br (i := .ifCond .eq 9) (off := 9) (by decide +kernel) rfl (by decide) rfl
theorem q122_7 : zQ 122 7 [.ref a, v1, v2, v3, v4, v5, v6, v7, v8, v9] st M Q ↔ zQ 122 8 [.ref a, v1, v2, v3, v4, v5, v6, v7, v8, v9] (.ref a :: st) M Q := zq_go (i := .aload_n 0) (by decide +kernel) rfl
theorem q122_8 : zQ 122 8 L st M Q ↔ zQ 122 9 L (.int (-1) :: st) M Q := zq_con (n := (-1)) (by decide +kernel) (by decide +kernel) rfl
theorem q122_9 : zQ 122 9 L (.int x1 :: .ref a :: st) M Q ↔ (zcs st ≤ 8 ∧ a < zNC ∧ zk a = 6) ∧ zQ 89 0 [.ref a, .int x1] [] M (fun r M1 => zQ 122 12 L (zpush r st) M1 Q) := zq_callV (n := 123) (j := 89) (b := false) (As := [.int x1]) (by decide +kernel) (by decide +kernel) ⟨by decide +kernel, by decide +kernel, rfl, by decide +kernel, by decide +kernel, Nat.le_of_ble_eq_true rfl⟩ rfl
theorem q122_12 : zQ 122 12 L [.int x] M Q ↔ Q (zI x) M := zq_reI (by decide +kernel) (by decide +kernel)
theorem q122_13 : zQ 122 13 [v0, v1, v2, v3, v4, .int x, v6, v7, v8, v9] st M Q ↔ zQ 122 15 [v0, v1, v2, v3, v4, .int x, v6, v7, v8, v9] (.int x :: st) M Q := zq_go (i := .iload 5) (by decide +kernel) rfl
theorem q122_15 : zQ 122 15 L (.int x :: st) M Q ↔ zQ 122 16 L (.long x.toInt64 :: st) M Q := zq_go (i := .i2l) (by decide +kernel) rfl
theorem q122_16 : zQ 122 16 L st M Q ↔ zQ 122 17 L (.long 0 :: st) M Q := zq_lco (n := 0) (by decide +kernel) (by decide +kernel) rfl
theorem q122_17 : zQ 122 17 L st M Q ↔ zQ 122 20 L (.long 3 :: st) M Q := zq_ld2 (n := 153) (by decide +kernel) (by decide +kernel) rfl
theorem q122_20 : zQ 122 20 L (.long l3 :: .long l2 :: .long l1 :: st) M Q ↔ zcs st ≤ 8 ∧ zQ 84 0 [.long l1, .null, .long l2, .null, .long l3, .null] [] M (fun r M1 => zQ 122 23 L (zpush r st) M1 Q) := zq_callS (n := 89) (j := 84) (b := false) (As := [.long l1, .long l2, .long l3]) (by decide +kernel) (by decide +kernel) ⟨by decide +kernel, by decide +kernel, rfl, by decide +kernel, by decide +kernel, Nat.le_of_ble_eq_true rfl⟩ rfl
theorem q122_23 : zQ 122 23 L (.int x :: st) M Q ↔ (x = 0 → zQ 122 26 L st M Q) ∧ (¬ x = 0 → zQ 122 56 L st M Q) := zq_bn (i := .ifCond .ne 33) (off := 33) (by decide +kernel) rfl (by decide) rfl
theorem q122_26 : zQ 122 26 [v0, v1, v2, v3, v4, .int x, v6, v7, v8, v9] st M Q ↔ zQ 122 28 [v0, v1, v2, v3, v4, .int x, v6, v7, v8, v9] (.int x :: st) M Q := zq_go (i := .iload 5) (by decide +kernel) rfl
theorem q122_28 : zQ 122 28 L (.int x :: st) M Q ↔ zQ 122 29 L (.long x.toInt64 :: st) M Q := zq_go (i := .i2l) (by decide +kernel) rfl
theorem q122_29 : zQ 122 29 L st M Q ↔ zQ 122 32 L (.long 10 :: st) M Q := zq_ld2 (n := 194) (by decide +kernel) (by decide +kernel) rfl
theorem q122_32 : zQ 122 32 L st M Q ↔ zQ 122 35 L (.long 15 :: st) M Q := zq_ld2 (n := 196) (by decide +kernel) (by decide +kernel) rfl
theorem q122_35 : zQ 122 35 L (.long l3 :: .long l2 :: .long l1 :: st) M Q ↔ zcs st ≤ 8 ∧ zQ 84 0 [.long l1, .null, .long l2, .null, .long l3, .null] [] M (fun r M1 => zQ 122 38 L (zpush r st) M1 Q) := zq_callS (n := 89) (j := 84) (b := false) (As := [.long l1, .long l2, .long l3]) (by decide +kernel) (by decide +kernel) ⟨by decide +kernel, by decide +kernel, rfl, by decide +kernel, by decide +kernel, Nat.le_of_ble_eq_true rfl⟩ rfl
theorem q122_38 : zQ 122 38 L (.int x :: st) M Q ↔ (x = 0 → zQ 122 41 L st M Q) ∧ (¬ x = 0 → zQ 122 56 L st M Q) := zq_bn (i := .ifCond .ne 18) (off := 18) (by decide +kernel) rfl (by decide) rfl
theorem q122_41 : zQ 122 41 [v0, v1, v2, v3, v4, .int x, v6, v7, v8, v9] st M Q ↔ zQ 122 43 [v0, v1, v2, v3, v4, .int x, v6, v7, v8, v9] (.int x :: st) M Q := zq_go (i := .iload 5) (by decide +kernel) rfl
theorem q122_43 : zQ 122 43 L (.int x :: st) M Q ↔ zQ 122 44 L (.long x.toInt64 :: st) M Q := zq_go (i := .i2l) (by decide +kernel) rfl
theorem q122_44 : zQ 122 44 L st M Q ↔ zQ 122 47 L (.long 20 :: st) M Q := zq_ld2 (n := 198) (by decide +kernel) (by decide +kernel) rfl
theorem q122_47 : zQ 122 47 L st M Q ↔ zQ 122 50 L (.long 25 :: st) M Q := zq_ld2 (n := 200) (by decide +kernel) (by decide +kernel) rfl
theorem q122_50 : zQ 122 50 L (.long l3 :: .long l2 :: .long l1 :: st) M Q ↔ zcs st ≤ 8 ∧ zQ 84 0 [.long l1, .null, .long l2, .null, .long l3, .null] [] M (fun r M1 => zQ 122 53 L (zpush r st) M1 Q) := zq_callS (n := 89) (j := 84) (b := false) (As := [.long l1, .long l2, .long l3]) (by decide +kernel) (by decide +kernel) ⟨by decide +kernel, by decide +kernel, rfl, by decide +kernel, by decide +kernel, Nat.le_of_ble_eq_true rfl⟩ rfl
theorem q122_53 : zQ 122 53 L (.int x :: st) M Q ↔ (x = 0 → zQ 122 60 L st M Q) ∧ (¬ x = 0 → zQ 122 56 L st M Q) := zq_br (i := .ifCond .eq 7) (off := 7) (by decide +kernel) rfl (by decide) rfl
theorem q122_56 : zQ 122 56 L st M Q ↔ zQ 122 57 L (.int 1 :: st) M Q := zq_con (n := 1) (by decide +kernel) (by decide +kernel) rfl
theorem q122_57 : zQ 122 57 L st M Q ↔ zQ 122 61 L st M Q := zq_jmp (off := 4) (by decide +kernel) (by decide)
theorem q122_60 : zQ 122 60 L st M Q ↔ zQ 122 61 L (.int 0 :: st) M Q := zq_con (n := 0) (by decide +kernel) (by decide +kernel) rfl
theorem q122_61i : zQ 122 61 [v0, v1, v2, v3, v4, .int y, v6, v7, v8, v9] (.int x :: st) M Q ↔ zQ 122 63 [v0, v1, v2, v3, v4, .int y, .int x, v7, v8, v9] st M Q := zq_stI (i := .istore 6) (k := 6) (by decide +kernel) rfl (Nat.le_of_ble_eq_true rfl) rfl rfl
theorem q122_61r : zQ 122 61 [v0, v1, v2, v3, v4, .ref r1, v6, v7, v8, v9] (.int x :: st) M Q ↔ zQ 122 63 [v0, v1, v2, v3, v4, .ref r1, .int x, v7, v8, v9] st M Q := zq_stI (i := .istore 6) (k := 6) (by decide +kernel) rfl (Nat.le_of_ble_eq_true rfl) rfl rfl
theorem q122_61n : zQ 122 61 [v0, v1, v2, v3, v4, .null, v6, v7, v8, v9] (.int x :: st) M Q ↔ zQ 122 63 [v0, v1, v2, v3, v4, .null, .int x, v7, v8, v9] st M Q := zq_stI (i := .istore 6) (k := 6) (by decide +kernel) rfl (Nat.le_of_ble_eq_true rfl) rfl rfl
theorem q122_63 : zQ 122 63 [v0, v1, .int x, v3, v4, v5, v6, v7, v8, v9] st M Q ↔ zQ 122 64 [v0, v1, .int x, v3, v4, v5, v6, v7, v8, v9] (.int x :: st) M Q := zq_go (i := .iload_n 2) (by decide +kernel) rfl
theorem q122_64 : zQ 122 64 L (.int x :: st) M Q ↔ zQ 122 65 L (.long x.toInt64 :: st) M Q := zq_go (i := .i2l) (by decide +kernel) rfl
theorem q122_65 : zQ 122 65 L st M Q ↔ zQ 122 66 L (.long 0 :: st) M Q := zq_lco (n := 0) (by decide +kernel) (by decide +kernel) rfl
theorem q122_66 : zQ 122 66 L st M Q ↔ zQ 122 69 L (.long 2 :: st) M Q := zq_ld2 (n := 126) (by decide +kernel) (by decide +kernel) rfl
theorem q122_69 : zQ 122 69 L (.long l3 :: .long l2 :: .long l1 :: st) M Q ↔ zcs st ≤ 8 ∧ zQ 84 0 [.long l1, .null, .long l2, .null, .long l3, .null] [] M (fun r M1 => zQ 122 72 L (zpush r st) M1 Q) := zq_callS (n := 89) (j := 84) (b := false) (As := [.long l1, .long l2, .long l3]) (by decide +kernel) (by decide +kernel) ⟨by decide +kernel, by decide +kernel, rfl, by decide +kernel, by decide +kernel, Nat.le_of_ble_eq_true rfl⟩ rfl
theorem q122_72 : zQ 122 72 L (.int x :: st) M Q ↔ (x = 0 → zQ 122 93 L st M Q) ∧ (¬ x = 0 → zQ 122 75 L st M Q) := zq_br (i := .ifCond .eq 21) (off := 21) (by decide +kernel) rfl (by decide) rfl
theorem q122_75 : zQ 122 75 [v0, v1, v2, v3, .int x, v5, v6, v7, v8, v9] st M Q ↔ zQ 122 77 [v0, v1, v2, v3, .int x, v5, v6, v7, v8, v9] (.int x :: st) M Q := zq_go (i := .iload 4) (by decide +kernel) rfl
theorem q122_77 : zQ 122 77 L (.int x :: st) M Q ↔ zQ 122 78 L (.long x.toInt64 :: st) M Q := zq_go (i := .i2l) (by decide +kernel) rfl
theorem q122_78 : zQ 122 78 L st M Q ↔ zQ 122 79 L (.long 0 :: st) M Q := zq_lco (n := 0) (by decide +kernel) (by decide +kernel) rfl
theorem q122_79 : zQ 122 79 L st M Q ↔ zQ 122 82 L (.long 20 :: st) M Q := zq_ld2 (n := 198) (by decide +kernel) (by decide +kernel) rfl
theorem q122_82 : zQ 122 82 L (.long l3 :: .long l2 :: .long l1 :: st) M Q ↔ zcs st ≤ 8 ∧ zQ 84 0 [.long l1, .null, .long l2, .null, .long l3, .null] [] M (fun r M1 => zQ 122 85 L (zpush r st) M1 Q) := zq_callS (n := 89) (j := 84) (b := false) (As := [.long l1, .long l2, .long l3]) (by decide +kernel) (by decide +kernel) ⟨by decide +kernel, by decide +kernel, rfl, by decide +kernel, by decide +kernel, Nat.le_of_ble_eq_true rfl⟩ rfl
theorem q122_85 : zQ 122 85 L (.int x :: st) M Q ↔ (x = 0 → zQ 122 93 L st M Q) ∧ (¬ x = 0 → zQ 122 88 L st M Q) := zq_br (i := .ifCond .eq 8) (off := 8) (by decide +kernel) rfl (by decide) rfl
theorem q122_88 : zQ 122 88 [v0, v1, v2, v3, v4, v5, .int x, v7, v8, v9] st M Q ↔ zQ 122 90 [v0, v1, v2, v3, v4, v5, .int x, v7, v8, v9] (.int x :: st) M Q := zq_go (i := .iload 6) (by decide +kernel) rfl
theorem q122_90 : zQ 122 90 L (.int x :: st) M Q ↔ (x = 0 → zQ 122 93 L st M Q) ∧ (¬ x = 0 → zQ 122 100 L st M Q) := zq_bn (i := .ifCond .ne 10) (off := 10) (by decide +kernel) rfl (by decide) rfl
theorem q122_93 : zQ 122 93 [.ref a, v1, v2, v3, v4, v5, v6, v7, v8, v9] st M Q ↔ zQ 122 94 [.ref a, v1, v2, v3, v4, v5, v6, v7, v8, v9] (.ref a :: st) M Q := zq_go (i := .aload_n 0) (by decide +kernel) rfl
theorem q122_94 : zQ 122 94 L st M Q ↔ zQ 122 96 L (.int (-2) :: st) M Q := zq_bip (n := (-2)) (by decide +kernel) (by decide +kernel) rfl
theorem q122_96 : zQ 122 96 L (.int x1 :: .ref a :: st) M Q ↔ (zcs st ≤ 8 ∧ a < zNC ∧ zk a = 6) ∧ zQ 89 0 [.ref a, .int x1] [] M (fun r M1 => zQ 122 99 L (zpush r st) M1 Q) := zq_callV (n := 123) (j := 89) (b := false) (As := [.int x1]) (by decide +kernel) (by decide +kernel) ⟨by decide +kernel, by decide +kernel, rfl, by decide +kernel, by decide +kernel, Nat.le_of_ble_eq_true rfl⟩ rfl
theorem q122_99 : zQ 122 99 L [.int x] M Q ↔ Q (zI x) M := zq_reI (by decide +kernel) (by decide +kernel)
theorem q122_100 : zQ 122 100 [.ref a, v1, v2, v3, v4, v5, v6, v7, v8, v9] st M Q ↔ zQ 122 101 [.ref a, v1, v2, v3, v4, v5, v6, v7, v8, v9] (.ref a :: st) M Q := zq_go (i := .aload_n 0) (by decide +kernel) rfl
theorem q122_101 : zQ 122 101 L (.ref a :: st) M Q ↔ (a < zNC ∧ zk a = 6) ∧ zQ 122 104 L (zfv a 1 M :: st) M Q := zq_getf (n := 86) (b := false) (by decide +kernel) (by decide +kernel)
theorem q122_104 : zQ 122 104 L (.int x :: st) M Q ↔ (x = 0 → zQ 122 107 L st M Q) ∧ (¬ x = 0 → zQ 122 114 L st M Q) := zq_bn (i := .ifCond .ne 10) (off := 10) (by decide +kernel) rfl (by decide) rfl
theorem q122_107 : zQ 122 107 [.ref a, v1, v2, v3, v4, v5, v6, v7, v8, v9] st M Q ↔ zQ 122 108 [.ref a, v1, v2, v3, v4, v5, v6, v7, v8, v9] (.ref a :: st) M Q := zq_go (i := .aload_n 0) (by decide +kernel) rfl
theorem q122_108 : zQ 122 108 L st M Q ↔ zQ 122 110 L (.int (-3) :: st) M Q := zq_bip (n := (-3)) (by decide +kernel) (by decide +kernel) rfl
theorem q122_110 : zQ 122 110 L (.int x1 :: .ref a :: st) M Q ↔ (zcs st ≤ 8 ∧ a < zNC ∧ zk a = 6) ∧ zQ 89 0 [.ref a, .int x1] [] M (fun r M1 => zQ 122 113 L (zpush r st) M1 Q) := zq_callV (n := 123) (j := 89) (b := false) (As := [.int x1]) (by decide +kernel) (by decide +kernel) ⟨by decide +kernel, by decide +kernel, rfl, by decide +kernel, by decide +kernel, Nat.le_of_ble_eq_true rfl⟩ rfl
theorem q122_113 : zQ 122 113 L [.int x] M Q ↔ Q (zI x) M := zq_reI (by decide +kernel) (by decide +kernel)
theorem q122_114 : zQ 122 114 [.ref a, v1, v2, v3, v4, v5, v6, v7, v8, v9] st M Q ↔ zQ 122 115 [.ref a, v1, v2, v3, v4, v5, v6, v7, v8, v9] (.ref a :: st) M Q := zq_go (i := .aload_n 0) (by decide +kernel) rfl
theorem q122_115 : zQ 122 115 [v0, .int x, v2, v3, v4, v5, v6, v7, v8, v9] st M Q ↔ zQ 122 116 [v0, .int x, v2, v3, v4, v5, v6, v7, v8, v9] (.int x :: st) M Q := zq_go (i := .iload_n 1) (by decide +kernel) rfl
theorem q122_116 : zQ 122 116 [v0, v1, .int x, v3, v4, v5, v6, v7, v8, v9] st M Q ↔ zQ 122 117 [v0, v1, .int x, v3, v4, v5, v6, v7, v8, v9] (.int x :: st) M Q := zq_go (i := .iload_n 2) (by decide +kernel) rfl
theorem q122_117 : zQ 122 117 [v0, v1, v2, .int x, v4, v5, v6, v7, v8, v9] st M Q ↔ zQ 122 118 [v0, v1, v2, .int x, v4, v5, v6, v7, v8, v9] (.int x :: st) M Q := zq_go (i := .iload_n 3) (by decide +kernel) rfl
theorem q122_118 : zQ 122 118 L st M Q ↔ zQ 122 121 L (.long 2 :: st) M Q := zq_ld2 (n := 126) (by decide +kernel) (by decide +kernel) rfl
theorem q122_121 : zQ 122 121 [v0, v1, v2, v3, .int x, v5, v6, v7, v8, v9] st M Q ↔ zQ 122 123 [v0, v1, v2, v3, .int x, v5, v6, v7, v8, v9] (.int x :: st) M Q := zq_go (i := .iload 4) (by decide +kernel) rfl
theorem q122_123 : zQ 122 123 L (.int x :: st) M Q ↔ zQ 122 124 L (.long x.toInt64 :: st) M Q := zq_go (i := .i2l) (by decide +kernel) rfl
theorem q122_124 : zQ 122 124 L (.long yl :: .long xl :: st) M Q ↔ zQ 122 125 L (.long (xl * yl) :: st) M Q := zq_go (i := .lmul) (by decide +kernel) rfl
theorem q122_125 : zQ 122 125 L (.long l1 :: .int x3 :: .int x2 :: .int x1 :: .ref a :: st) M Q ↔ (zcs st ≤ 8 ∧ a < zNC ∧ zk a = 6) ∧ zQ 97 0 [.ref a, .int x1, .int x2, .int x3, .long l1, .null] [] M (fun r M1 => zQ 122 128 L (zpush r st) M1 Q) := zq_callV (n := 128) (j := 97) (b := false) (As := [.int x1, .int x2, .int x3, .long l1]) (by decide +kernel) (by decide +kernel) ⟨by decide +kernel, by decide +kernel, rfl, by decide +kernel, by decide +kernel, Nat.le_of_ble_eq_true rfl⟩ rfl
theorem q122_128i : zQ 122 128 [v0, v1, v2, v3, v4, v5, .int y, v7, v8, v9] (.int x :: st) M Q ↔ zQ 122 130 [v0, v1, v2, v3, v4, v5, .int y, .int x, v8, v9] st M Q := zq_stI (i := .istore 7) (k := 7) (by decide +kernel) rfl (Nat.le_of_ble_eq_true rfl) rfl rfl
theorem q122_128r : zQ 122 128 [v0, v1, v2, v3, v4, v5, .ref r1, v7, v8, v9] (.int x :: st) M Q ↔ zQ 122 130 [v0, v1, v2, v3, v4, v5, .ref r1, .int x, v8, v9] st M Q := zq_stI (i := .istore 7) (k := 7) (by decide +kernel) rfl (Nat.le_of_ble_eq_true rfl) rfl rfl
theorem q122_128n : zQ 122 128 [v0, v1, v2, v3, v4, v5, .null, v7, v8, v9] (.int x :: st) M Q ↔ zQ 122 130 [v0, v1, v2, v3, v4, v5, .null, .int x, v8, v9] st M Q := zq_stI (i := .istore 7) (k := 7) (by decide +kernel) rfl (Nat.le_of_ble_eq_true rfl) rfl rfl
theorem q122_130 : zQ 122 130 [v0, v1, v2, v3, v4, v5, v6, .int x, v8, v9] st M Q ↔ zQ 122 132 [v0, v1, v2, v3, v4, v5, v6, .int x, v8, v9] (.int x :: st) M Q := zq_go (i := .iload 7) (by decide +kernel) rfl
theorem q122_132 : zQ 122 132 L (.int x :: st) M Q ↔ (0 ≤ x → zQ 122 138 L st M Q) ∧ (¬ 0 ≤ x → zQ 122 135 L st M Q) := zq_br (i := .ifCond .ge 6) (off := 6) (by decide +kernel) rfl (by decide) rfl
theorem q122_135 : zQ 122 135 [v0, v1, v2, v3, v4, v5, v6, .int x, v8, v9] st M Q ↔ zQ 122 137 [v0, v1, v2, v3, v4, v5, v6, .int x, v8, v9] (.int x :: st) M Q := zq_go (i := .iload 7) (by decide +kernel) rfl
theorem q122_137 : zQ 122 137 L [.int x] M Q ↔ Q (zI x) M := zq_reI (by decide +kernel) (by decide +kernel)
theorem q122_138 : zQ 122 138 [.ref a, v1, v2, v3, v4, v5, v6, v7, v8, v9] st M Q ↔ zQ 122 139 [.ref a, v1, v2, v3, v4, v5, v6, v7, v8, v9] (.ref a :: st) M Q := zq_go (i := .aload_n 0) (by decide +kernel) rfl
theorem q122_139 : zQ 122 139 L st M Q ↔ zQ 122 141 L (.int 60 :: st) M Q := zq_bip (n := 60) (by decide +kernel) (by decide +kernel) rfl
theorem q122_141 : zQ 122 141 [v0, .int x, v2, v3, v4, v5, v6, v7, v8, v9] st M Q ↔ zQ 122 142 [v0, .int x, v2, v3, v4, v5, v6, v7, v8, v9] (.int x :: st) M Q := zq_go (i := .iload_n 1) (by decide +kernel) rfl
theorem q122_142 : zQ 122 142 L (.int y :: .int x :: st) M Q ↔ zQ 122 143 L (.int (x * y) :: st) M Q := zq_go (i := .imul) (by decide +kernel) rfl
theorem q122_143 : zQ 122 143 [v0, v1, v2, .int x, v4, v5, v6, v7, v8, v9] st M Q ↔ zQ 122 144 [v0, v1, v2, .int x, v4, v5, v6, v7, v8, v9] (.int x :: st) M Q := zq_go (i := .iload_n 3) (by decide +kernel) rfl
theorem q122_144 : zQ 122 144 L (.int y :: .int x :: st) M Q ↔ zQ 122 145 L (.int (x + y) :: st) M Q := zq_go (i := .iadd) (by decide +kernel) rfl
theorem q122_145 : zQ 122 145 [v0, v1, v2, v3, .int x, v5, v6, v7, v8, v9] st M Q ↔ zQ 122 147 [v0, v1, v2, v3, .int x, v5, v6, v7, v8, v9] (.int x :: st) M Q := zq_go (i := .iload 4) (by decide +kernel) rfl
theorem q122_147 : zQ 122 147 L (.int x2 :: .int x1 :: .ref a :: st) M Q ↔ (zcs st ≤ 8 ∧ a < zNC ∧ zk a = 6) ∧ zQ 121 0 [.ref a, .int x1, .int x2, .null, .null, .null] [] M (fun r M1 => zQ 122 150 L (zpush r st) M1 Q) := zq_callV (n := 202) (j := 121) (b := false) (As := [.int x1, .int x2]) (by decide +kernel) (by decide +kernel) ⟨by decide +kernel, by decide +kernel, rfl, by decide +kernel, by decide +kernel, Nat.le_of_ble_eq_true rfl⟩ rfl
theorem q122_150i : zQ 122 150 [v0, v1, v2, v3, v4, v5, .int y, v7, v8, v9] (.int x :: st) M Q ↔ zQ 122 152 [v0, v1, v2, v3, v4, v5, .int y, .int x, v8, v9] st M Q := zq_stI (i := .istore 7) (k := 7) (by decide +kernel) rfl (Nat.le_of_ble_eq_true rfl) rfl rfl
theorem q122_150r : zQ 122 150 [v0, v1, v2, v3, v4, v5, .ref r1, v7, v8, v9] (.int x :: st) M Q ↔ zQ 122 152 [v0, v1, v2, v3, v4, v5, .ref r1, .int x, v8, v9] st M Q := zq_stI (i := .istore 7) (k := 7) (by decide +kernel) rfl (Nat.le_of_ble_eq_true rfl) rfl rfl
theorem q122_150n : zQ 122 150 [v0, v1, v2, v3, v4, v5, .null, v7, v8, v9] (.int x :: st) M Q ↔ zQ 122 152 [v0, v1, v2, v3, v4, v5, .null, .int x, v8, v9] st M Q := zq_stI (i := .istore 7) (k := 7) (by decide +kernel) rfl (Nat.le_of_ble_eq_true rfl) rfl rfl
theorem q122_152 : zQ 122 152 [v0, v1, v2, v3, v4, v5, v6, .int x, v8, v9] st M Q ↔ zQ 122 154 [v0, v1, v2, v3, v4, v5, v6, .int x, v8, v9] (.int x :: st) M Q := zq_go (i := .iload 7) (by decide +kernel) rfl
theorem q122_154 : zQ 122 154 L (.int x :: st) M Q ↔ (0 ≤ x → zQ 122 164 L st M Q) ∧ (¬ 0 ≤ x → zQ 122 157 L st M Q) := zq_br (i := .ifCond .ge 10) (off := 10) (by decide +kernel) rfl (by decide) rfl
theorem q122_157 : zQ 122 157 [.ref a, v1, v2, v3, v4, v5, v6, v7, v8, v9] st M Q ↔ zQ 122 158 [.ref a, v1, v2, v3, v4, v5, v6, v7, v8, v9] (.ref a :: st) M Q := zq_go (i := .aload_n 0) (by decide +kernel) rfl
theorem q122_158 : zQ 122 158 [v0, v1, v2, v3, v4, v5, v6, .int x, v8, v9] st M Q ↔ zQ 122 160 [v0, v1, v2, v3, v4, v5, v6, .int x, v8, v9] (.int x :: st) M Q := zq_go (i := .iload 7) (by decide +kernel) rfl
theorem q122_160 : zQ 122 160 L (.int x1 :: .ref a :: st) M Q ↔ (zcs st ≤ 8 ∧ a < zNC ∧ zk a = 6) ∧ zQ 89 0 [.ref a, .int x1] [] M (fun r M1 => zQ 122 163 L (zpush r st) M1 Q) := zq_callV (n := 123) (j := 89) (b := false) (As := [.int x1]) (by decide +kernel) (by decide +kernel) ⟨by decide +kernel, by decide +kernel, rfl, by decide +kernel, by decide +kernel, Nat.le_of_ble_eq_true rfl⟩ rfl
theorem q122_163 : zQ 122 163 L [.int x] M Q ↔ Q (zI x) M := zq_reI (by decide +kernel) (by decide +kernel)
theorem q122_164 : zQ 122 164 L st M Q ↔ zQ 122 165 L (.int 0 :: st) M Q := zq_con (n := 0) (by decide +kernel) (by decide +kernel) rfl
theorem q122_165i : zQ 122 165 [v0, v1, v2, v3, v4, v5, v6, .int y, v8, v9] (.int x :: st) M Q ↔ zQ 122 167 [v0, v1, v2, v3, v4, v5, v6, .int y, .int x, v9] st M Q := zq_stI (i := .istore 8) (k := 8) (by decide +kernel) rfl (Nat.le_of_ble_eq_true rfl) rfl rfl
theorem q122_165r : zQ 122 165 [v0, v1, v2, v3, v4, v5, v6, .ref r1, v8, v9] (.int x :: st) M Q ↔ zQ 122 167 [v0, v1, v2, v3, v4, v5, v6, .ref r1, .int x, v9] st M Q := zq_stI (i := .istore 8) (k := 8) (by decide +kernel) rfl (Nat.le_of_ble_eq_true rfl) rfl rfl
theorem q122_165n : zQ 122 165 [v0, v1, v2, v3, v4, v5, v6, .null, v8, v9] (.int x :: st) M Q ↔ zQ 122 167 [v0, v1, v2, v3, v4, v5, v6, .null, .int x, v9] st M Q := zq_stI (i := .istore 8) (k := 8) (by decide +kernel) rfl (Nat.le_of_ble_eq_true rfl) rfl rfl
theorem q122_167 : zQ 122 167 [v0, v1, v2, v3, v4, v5, v6, v7, .int x, v9] st M Q ↔ zQ 122 169 [v0, v1, v2, v3, v4, v5, v6, v7, .int x, v9] (.int x :: st) M Q := zq_go (i := .iload 8) (by decide +kernel) rfl
theorem q122_169 : zQ 122 169 [.ref a, v1, v2, v3, v4, v5, v6, v7, v8, v9] st M Q ↔ zQ 122 170 [.ref a, v1, v2, v3, v4, v5, v6, v7, v8, v9] (.ref a :: st) M Q := zq_go (i := .aload_n 0) (by decide +kernel) rfl
theorem q122_170 : zQ 122 170 L (.ref a :: st) M Q ↔ (a < zNC ∧ zk a = 6) ∧ zQ 122 173 L (zfv a 1 M :: st) M Q := zq_getf (n := 86) (b := false) (by decide +kernel) (by decide +kernel)
theorem q122_173 : zQ 122 173 L (.int y :: .int x :: st) M Q ↔ (y ≤ x → zQ 122 205 L st M Q) ∧ (¬ y ≤ x → zQ 122 176 L st M Q) := zq_br (i := .if_icmp .ge 32) (off := 32) (by decide +kernel) rfl (by decide) rfl
theorem q122_176 : zQ 122 176 [.ref a, v1, v2, v3, v4, v5, v6, v7, v8, v9] st M Q ↔ zQ 122 177 [.ref a, v1, v2, v3, v4, v5, v6, v7, v8, v9] (.ref a :: st) M Q := zq_go (i := .aload_n 0) (by decide +kernel) rfl
theorem q122_177 : zQ 122 177 L (.ref a :: st) M Q ↔ (a < zNC ∧ zk a = 6) ∧ zQ 122 180 L (zfv a 17 M :: st) M Q := zq_getf (n := 43) (b := false) (by decide +kernel) (by decide +kernel)
theorem q122_180 : zQ 122 180 [v0, v1, v2, v3, v4, v5, v6, v7, .int x, v9] st M Q ↔ zQ 122 182 [v0, v1, v2, v3, v4, v5, v6, v7, .int x, v9] (.int x :: st) M Q := zq_go (i := .iload 8) (by decide +kernel) rfl
theorem q122_182 : zQ 122 182 [.ref a, v1, v2, v3, v4, v5, v6, v7, v8, v9] st M Q ↔ zQ 122 183 [.ref a, v1, v2, v3, v4, v5, v6, v7, v8, v9] (.ref a :: st) M Q := zq_go (i := .aload_n 0) (by decide +kernel) rfl
theorem q122_183 : zQ 122 183 L (.ref a :: st) M Q ↔ (a < zNC ∧ zk a = 6) ∧ zQ 122 186 L (zfv a 4 M :: st) M Q := zq_getf (n := 13) (b := false) (by decide +kernel) (by decide +kernel)
theorem q122_186 : zQ 122 186 [v0, v1, v2, v3, v4, v5, v6, v7, .int x, v9] st M Q ↔ zQ 122 188 [v0, v1, v2, v3, v4, v5, v6, v7, .int x, v9] (.int x :: st) M Q := zq_go (i := .iload 8) (by decide +kernel) rfl
theorem q122_188 : zQ 122 188 L (.int x :: .ref a :: st) M Q ↔ (a < zNC ∧ zk a = 7 ∧ zin x (zn a) = true) ∧ zQ 122 189 L (.int (M a x.toNatClampNeg) :: st) M Q := zq_iald (by decide +kernel)
theorem q122_189 : zQ 122 189 L (.int x :: .int y :: .ref a :: st) M Q ↔ (a < zNC ∧ zk a = 7 ∧ zin y (zn a) = true) ∧ zQ 122 190 L st (zup M a y.toNatClampNeg x) Q := zq_iast (by decide +kernel)
theorem q122_190 : zQ 122 190 [.ref a, v1, v2, v3, v4, v5, v6, v7, v8, v9] st M Q ↔ zQ 122 191 [.ref a, v1, v2, v3, v4, v5, v6, v7, v8, v9] (.ref a :: st) M Q := zq_go (i := .aload_n 0) (by decide +kernel) rfl
theorem q122_191 : zQ 122 191 L (.ref a :: st) M Q ↔ (a < zNC ∧ zk a = 6) ∧ zQ 122 194 L (zfv a 20 M :: st) M Q := zq_getf (n := 46) (b := false) (by decide +kernel) (by decide +kernel)
theorem q122_194 : zQ 122 194 [v0, v1, v2, v3, v4, v5, v6, v7, .int x, v9] st M Q ↔ zQ 122 196 [v0, v1, v2, v3, v4, v5, v6, v7, .int x, v9] (.int x :: st) M Q := zq_go (i := .iload 8) (by decide +kernel) rfl
theorem q122_196 : zQ 122 196 L st M Q ↔ zQ 122 198 L (.int (-9) :: st) M Q := zq_bip (n := (-9)) (by decide +kernel) (by decide +kernel) rfl
theorem q122_198 : zQ 122 198 L (.int x :: .int y :: .ref a :: st) M Q ↔ (a < zNC ∧ zk a = 7 ∧ zin y (zn a) = true) ∧ zQ 122 199 L st (zup M a y.toNatClampNeg x) Q := zq_iast (by decide +kernel)
theorem q122_199i : zQ 122 199 [v0, v1, v2, v3, v4, v5, v6, .int y, .int x, v9] st M Q ↔ zQ 122 202 [v0, v1, v2, v3, v4, v5, v6, .int y, .int (x + 1), v9] st M Q := zq_inc (k := 8) (n := 1) (x := x) (v := 1) (by decide +kernel) (by decide +kernel) rfl rfl rfl rfl
theorem q122_199r : zQ 122 199 [v0, v1, v2, v3, v4, v5, v6, .ref r1, .int x, v9] st M Q ↔ zQ 122 202 [v0, v1, v2, v3, v4, v5, v6, .ref r1, .int (x + 1), v9] st M Q := zq_inc (k := 8) (n := 1) (x := x) (v := 1) (by decide +kernel) (by decide +kernel) rfl rfl rfl rfl
theorem q122_199n : zQ 122 199 [v0, v1, v2, v3, v4, v5, v6, .null, .int x, v9] st M Q ↔ zQ 122 202 [v0, v1, v2, v3, v4, v5, v6, .null, .int (x + 1), v9] st M Q := zq_inc (k := 8) (n := 1) (x := x) (v := 1) (by decide +kernel) (by decide +kernel) rfl rfl rfl rfl
theorem q122_202 : zQ 122 202 L st M Q ↔ zQ 122 167 L st M Q := zq_jmp (off := (-35)) (by decide +kernel) (by decide)
theorem q122_205 : zQ 122 205 [.ref a, v1, v2, v3, v4, v5, v6, v7, v8, v9] st M Q ↔ zQ 122 206 [.ref a, v1, v2, v3, v4, v5, v6, v7, v8, v9] (.ref a :: st) M Q := zq_go (i := .aload_n 0) (by decide +kernel) rfl
theorem q122_206 : zQ 122 206 [.ref a, v1, v2, v3, v4, v5, v6, v7, v8, v9] st M Q ↔ zQ 122 207 [.ref a, v1, v2, v3, v4, v5, v6, v7, v8, v9] (.ref a :: st) M Q := zq_go (i := .aload_n 0) (by decide +kernel) rfl
theorem q122_207 : zQ 122 207 L (.ref a :: st) M Q ↔ (a < zNC ∧ zk a = 6) ∧ zQ 122 210 L (zfv a 9 M :: st) M Q := zq_getf (n := 139) (b := false) (by decide +kernel) (by decide +kernel)
theorem q122_210 : zQ 122 210 L (.int x :: .ref a :: st) M Q ↔ (a < zNC ∧ zk a = 6 ∧ zf a 18 = none) ∧ zQ 122 213 L st (zup M a 18 x) Q := zq_putf (n := 205) (b := false) (by decide +kernel) (by decide +kernel) (by decide +kernel)
theorem q122_213 : zQ 122 213 [.ref a, v1, v2, v3, v4, v5, v6, v7, v8, v9] st M Q ↔ zQ 122 214 [.ref a, v1, v2, v3, v4, v5, v6, v7, v8, v9] (.ref a :: st) M Q := zq_go (i := .aload_n 0) (by decide +kernel) rfl
theorem q122_214 : zQ 122 214 [.ref a, v1, v2, v3, v4, v5, v6, v7, v8, v9] st M Q ↔ zQ 122 215 [.ref a, v1, v2, v3, v4, v5, v6, v7, v8, v9] (.ref a :: st) M Q := zq_go (i := .aload_n 0) (by decide +kernel) rfl
theorem q122_215 : zQ 122 215 L (.ref a :: st) M Q ↔ (a < zNC ∧ zk a = 6) ∧ zQ 122 218 L (zfv a 2 M :: st) M Q := zq_getf (n := 136) (b := false) (by decide +kernel) (by decide +kernel)
theorem q122_218 : zQ 122 218 L (.int x :: .ref a :: st) M Q ↔ (a < zNC ∧ zk a = 6 ∧ zf a 19 = none) ∧ zQ 122 221 L st (zup M a 19 x) Q := zq_putf (n := 185) (b := false) (by decide +kernel) (by decide +kernel) (by decide +kernel)
theorem q122_221 : zQ 122 221 [.ref a, v1, v2, v3, v4, v5, v6, v7, v8, v9] st M Q ↔ zQ 122 222 [.ref a, v1, v2, v3, v4, v5, v6, v7, v8, v9] (.ref a :: st) M Q := zq_go (i := .aload_n 0) (by decide +kernel) rfl
theorem q122_222 : zQ 122 222 L st M Q ↔ zQ 122 224 L (.int 60 :: st) M Q := zq_bip (n := 60) (by decide +kernel) (by decide +kernel) rfl
theorem q122_224 : zQ 122 224 [v0, .int x, v2, v3, v4, v5, v6, v7, v8, v9] st M Q ↔ zQ 122 225 [v0, .int x, v2, v3, v4, v5, v6, v7, v8, v9] (.int x :: st) M Q := zq_go (i := .iload_n 1) (by decide +kernel) rfl
theorem q122_225 : zQ 122 225 L (.int y :: .int x :: st) M Q ↔ zQ 122 226 L (.int (x * y) :: st) M Q := zq_go (i := .imul) (by decide +kernel) rfl
theorem q122_226 : zQ 122 226 [v0, v1, v2, .int x, v4, v5, v6, v7, v8, v9] st M Q ↔ zQ 122 227 [v0, v1, v2, .int x, v4, v5, v6, v7, v8, v9] (.int x :: st) M Q := zq_go (i := .iload_n 3) (by decide +kernel) rfl
theorem q122_227 : zQ 122 227 L (.int y :: .int x :: st) M Q ↔ zQ 122 228 L (.int (x + y) :: st) M Q := zq_go (i := .iadd) (by decide +kernel) rfl
theorem q122_228 : zQ 122 228 [v0, v1, v2, v3, .int x, v5, v6, v7, v8, v9] st M Q ↔ zQ 122 230 [v0, v1, v2, v3, .int x, v5, v6, v7, v8, v9] (.int x :: st) M Q := zq_go (i := .iload 4) (by decide +kernel) rfl
theorem q122_230 : zQ 122 230 [v0, v1, v2, v3, v4, .int x, v6, v7, v8, v9] st M Q ↔ zQ 122 232 [v0, v1, v2, v3, v4, .int x, v6, v7, v8, v9] (.int x :: st) M Q := zq_go (i := .iload 5) (by decide +kernel) rfl
theorem q122_232 : zQ 122 232 L (.int x3 :: .int x2 :: .int x1 :: .ref a :: st) M Q ↔ (zcs st ≤ 8 ∧ a < zNC ∧ zk a = 6) ∧ zQ 120 0 [.ref a, .int x1, .int x2, .int x3, .null, .null] [] M (fun r M1 => zQ 122 235 L (zpush r st) M1 Q) := zq_callV (n := 208) (j := 120) (b := false) (As := [.int x1, .int x2, .int x3]) (by decide +kernel) (by decide +kernel) ⟨by decide +kernel, by decide +kernel, rfl, by decide +kernel, by decide +kernel, Nat.le_of_ble_eq_true rfl⟩ rfl
theorem q122_235i : zQ 122 235 [v0, v1, v2, v3, v4, v5, v6, .int y, v8, v9] (.int x :: st) M Q ↔ zQ 122 237 [v0, v1, v2, v3, v4, v5, v6, .int y, .int x, v9] st M Q := zq_stI (i := .istore 8) (k := 8) (by decide +kernel) rfl (Nat.le_of_ble_eq_true rfl) rfl rfl
theorem q122_235r : zQ 122 235 [v0, v1, v2, v3, v4, v5, v6, .ref r1, v8, v9] (.int x :: st) M Q ↔ zQ 122 237 [v0, v1, v2, v3, v4, v5, v6, .ref r1, .int x, v9] st M Q := zq_stI (i := .istore 8) (k := 8) (by decide +kernel) rfl (Nat.le_of_ble_eq_true rfl) rfl rfl
theorem q122_235n : zQ 122 235 [v0, v1, v2, v3, v4, v5, v6, .null, v8, v9] (.int x :: st) M Q ↔ zQ 122 237 [v0, v1, v2, v3, v4, v5, v6, .null, .int x, v9] st M Q := zq_stI (i := .istore 8) (k := 8) (by decide +kernel) rfl (Nat.le_of_ble_eq_true rfl) rfl rfl
theorem q122_237 : zQ 122 237 L st M Q ↔ zQ 122 238 L (.int 0 :: st) M Q := zq_con (n := 0) (by decide +kernel) (by decide +kernel) rfl
theorem q122_238i : zQ 122 238 [v0, v1, v2, v3, v4, v5, v6, v7, .int y, v9] (.int x :: st) M Q ↔ zQ 122 240 [v0, v1, v2, v3, v4, v5, v6, v7, .int y, .int x] st M Q := zq_stI (i := .istore 9) (k := 9) (by decide +kernel) rfl (Nat.le_of_ble_eq_true rfl) rfl rfl
theorem q122_238r : zQ 122 238 [v0, v1, v2, v3, v4, v5, v6, v7, .ref r1, v9] (.int x :: st) M Q ↔ zQ 122 240 [v0, v1, v2, v3, v4, v5, v6, v7, .ref r1, .int x] st M Q := zq_stI (i := .istore 9) (k := 9) (by decide +kernel) rfl (Nat.le_of_ble_eq_true rfl) rfl rfl
theorem q122_238n : zQ 122 238 [v0, v1, v2, v3, v4, v5, v6, v7, .null, v9] (.int x :: st) M Q ↔ zQ 122 240 [v0, v1, v2, v3, v4, v5, v6, v7, .null, .int x] st M Q := zq_stI (i := .istore 9) (k := 9) (by decide +kernel) rfl (Nat.le_of_ble_eq_true rfl) rfl rfl
theorem q122_240 : zQ 122 240 [v0, v1, v2, v3, v4, v5, v6, v7, v8, .int x] st M Q ↔ zQ 122 242 [v0, v1, v2, v3, v4, v5, v6, v7, v8, .int x] (.int x :: st) M Q := zq_go (i := .iload 9) (by decide +kernel) rfl
theorem q122_242 : zQ 122 242 [.ref a, v1, v2, v3, v4, v5, v6, v7, v8, v9] st M Q ↔ zQ 122 243 [.ref a, v1, v2, v3, v4, v5, v6, v7, v8, v9] (.ref a :: st) M Q := zq_go (i := .aload_n 0) (by decide +kernel) rfl
theorem q122_243 : zQ 122 243 L (.ref a :: st) M Q ↔ (a < zNC ∧ zk a = 6) ∧ zQ 122 246 L (zfv a 1 M :: st) M Q := zq_getf (n := 86) (b := false) (by decide +kernel) (by decide +kernel)
theorem q122_246 : zQ 122 246 L (.int y :: .int x :: st) M Q ↔ (y ≤ x → zQ 122 269 L st M Q) ∧ (¬ y ≤ x → zQ 122 249 L st M Q) := zq_br (i := .if_icmp .ge 23) (off := 23) (by decide +kernel) rfl (by decide) rfl
theorem q122_249 : zQ 122 249 [.ref a, v1, v2, v3, v4, v5, v6, v7, v8, v9] st M Q ↔ zQ 122 250 [.ref a, v1, v2, v3, v4, v5, v6, v7, v8, v9] (.ref a :: st) M Q := zq_go (i := .aload_n 0) (by decide +kernel) rfl
theorem q122_250 : zQ 122 250 L (.ref a :: st) M Q ↔ (a < zNC ∧ zk a = 6) ∧ zQ 122 253 L (zfv a 4 M :: st) M Q := zq_getf (n := 13) (b := false) (by decide +kernel) (by decide +kernel)
theorem q122_253 : zQ 122 253 [v0, v1, v2, v3, v4, v5, v6, v7, v8, .int x] st M Q ↔ zQ 122 255 [v0, v1, v2, v3, v4, v5, v6, v7, v8, .int x] (.int x :: st) M Q := zq_go (i := .iload 9) (by decide +kernel) rfl
theorem q122_255 : zQ 122 255 [.ref a, v1, v2, v3, v4, v5, v6, v7, v8, v9] st M Q ↔ zQ 122 256 [.ref a, v1, v2, v3, v4, v5, v6, v7, v8, v9] (.ref a :: st) M Q := zq_go (i := .aload_n 0) (by decide +kernel) rfl
theorem q122_256 : zQ 122 256 L (.ref a :: st) M Q ↔ (a < zNC ∧ zk a = 6) ∧ zQ 122 259 L (zfv a 17 M :: st) M Q := zq_getf (n := 43) (b := false) (by decide +kernel) (by decide +kernel)
theorem q122_259 : zQ 122 259 [v0, v1, v2, v3, v4, v5, v6, v7, v8, .int x] st M Q ↔ zQ 122 261 [v0, v1, v2, v3, v4, v5, v6, v7, v8, .int x] (.int x :: st) M Q := zq_go (i := .iload 9) (by decide +kernel) rfl
theorem q122_261 : zQ 122 261 L (.int x :: .ref a :: st) M Q ↔ (a < zNC ∧ zk a = 7 ∧ zin x (zn a) = true) ∧ zQ 122 262 L (.int (M a x.toNatClampNeg) :: st) M Q := zq_iald (by decide +kernel)
theorem q122_262 : zQ 122 262 L (.int x :: .int y :: .ref a :: st) M Q ↔ (a < zNC ∧ zk a = 7 ∧ zin y (zn a) = true) ∧ zQ 122 263 L st (zup M a y.toNatClampNeg x) Q := zq_iast (by decide +kernel)
theorem q122_263i : zQ 122 263 [v0, v1, v2, v3, v4, v5, v6, v7, .int y, .int x] st M Q ↔ zQ 122 266 [v0, v1, v2, v3, v4, v5, v6, v7, .int y, .int (x + 1)] st M Q := zq_inc (k := 9) (n := 1) (x := x) (v := 1) (by decide +kernel) (by decide +kernel) rfl rfl rfl rfl
theorem q122_263r : zQ 122 263 [v0, v1, v2, v3, v4, v5, v6, v7, .ref r1, .int x] st M Q ↔ zQ 122 266 [v0, v1, v2, v3, v4, v5, v6, v7, .ref r1, .int (x + 1)] st M Q := zq_inc (k := 9) (n := 1) (x := x) (v := 1) (by decide +kernel) (by decide +kernel) rfl rfl rfl rfl
theorem q122_263n : zQ 122 263 [v0, v1, v2, v3, v4, v5, v6, v7, .null, .int x] st M Q ↔ zQ 122 266 [v0, v1, v2, v3, v4, v5, v6, v7, .null, .int (x + 1)] st M Q := zq_inc (k := 9) (n := 1) (x := x) (v := 1) (by decide +kernel) (by decide +kernel) rfl rfl rfl rfl
theorem q122_266 : zQ 122 266 L st M Q ↔ zQ 122 240 L st M Q := zq_jmp (off := (-26)) (by decide +kernel) (by decide)
theorem q122_269 : zQ 122 269 [.ref a, v1, v2, v3, v4, v5, v6, v7, v8, v9] st M Q ↔ zQ 122 270 [.ref a, v1, v2, v3, v4, v5, v6, v7, v8, v9] (.ref a :: st) M Q := zq_go (i := .aload_n 0) (by decide +kernel) rfl
theorem q122_270 : zQ 122 270 [.ref a, v1, v2, v3, v4, v5, v6, v7, v8, v9] st M Q ↔ zQ 122 271 [.ref a, v1, v2, v3, v4, v5, v6, v7, v8, v9] (.ref a :: st) M Q := zq_go (i := .aload_n 0) (by decide +kernel) rfl
theorem q122_271 : zQ 122 271 L (.ref a :: st) M Q ↔ (a < zNC ∧ zk a = 6) ∧ zQ 122 274 L (zfv a 18 M :: st) M Q := zq_getf (n := 205) (b := false) (by decide +kernel) (by decide +kernel)
theorem q122_274 : zQ 122 274 L (.int x :: .ref a :: st) M Q ↔ (a < zNC ∧ zk a = 6 ∧ zf a 9 = none) ∧ zQ 122 277 L st (zup M a 9 x) Q := zq_putf (n := 139) (b := false) (by decide +kernel) (by decide +kernel) (by decide +kernel)
theorem q122_277 : zQ 122 277 [.ref a, v1, v2, v3, v4, v5, v6, v7, v8, v9] st M Q ↔ zQ 122 278 [.ref a, v1, v2, v3, v4, v5, v6, v7, v8, v9] (.ref a :: st) M Q := zq_go (i := .aload_n 0) (by decide +kernel) rfl
theorem q122_278 : zQ 122 278 [.ref a, v1, v2, v3, v4, v5, v6, v7, v8, v9] st M Q ↔ zQ 122 279 [.ref a, v1, v2, v3, v4, v5, v6, v7, v8, v9] (.ref a :: st) M Q := zq_go (i := .aload_n 0) (by decide +kernel) rfl
theorem q122_279 : zQ 122 279 L (.ref a :: st) M Q ↔ (a < zNC ∧ zk a = 6) ∧ zQ 122 282 L (zfv a 19 M :: st) M Q := zq_getf (n := 185) (b := false) (by decide +kernel) (by decide +kernel)
theorem q122_282 : zQ 122 282 L (.int x :: .ref a :: st) M Q ↔ (a < zNC ∧ zk a = 6 ∧ zf a 2 = none) ∧ zQ 122 285 L st (zup M a 2 x) Q := zq_putf (n := 136) (b := false) (by decide +kernel) (by decide +kernel) (by decide +kernel)
theorem q122_285 : zQ 122 285 [.ref a, v1, v2, v3, v4, v5, v6, v7, v8, v9] st M Q ↔ zQ 122 286 [.ref a, v1, v2, v3, v4, v5, v6, v7, v8, v9] (.ref a :: st) M Q := zq_go (i := .aload_n 0) (by decide +kernel) rfl
theorem q122_286 : zQ 122 286 [v0, v1, v2, v3, v4, v5, v6, v7, .int x, v9] st M Q ↔ zQ 122 288 [v0, v1, v2, v3, v4, v5, v6, v7, .int x, v9] (.int x :: st) M Q := zq_go (i := .iload 8) (by decide +kernel) rfl
theorem q122_288 : zQ 122 288 L (.int x1 :: .ref a :: st) M Q ↔ (zcs st ≤ 8 ∧ a < zNC ∧ zk a = 6) ∧ zQ 89 0 [.ref a, .int x1] [] M (fun r M1 => zQ 122 291 L (zpush r st) M1 Q) := zq_callV (n := 123) (j := 89) (b := false) (As := [.int x1]) (by decide +kernel) (by decide +kernel) ⟨by decide +kernel, by decide +kernel, rfl, by decide +kernel, by decide +kernel, Nat.le_of_ble_eq_true rfl⟩ rfl
theorem q122_291 : zQ 122 291 L [.int x] M Q ↔ Q (zI x) M := zq_reI (by decide +kernel) (by decide +kernel)
-- 123 SandKeepersModel.reach(II)I
theorem q123_0 : zQ 123 0 [.ref a, v1, v2, v3, v4] st M Q ↔ zQ 123 1 [.ref a, v1, v2, v3, v4] (.ref a :: st) M Q := zq_go (i := .aload_n 0) (by decide +kernel) rfl
theorem q123_1 : zQ 123 1 [v0, .int x, v2, v3, v4] st M Q ↔ zQ 123 2 [v0, .int x, v2, v3, v4] (.int x :: st) M Q := zq_go (i := .iload_n 1) (by decide +kernel) rfl
theorem q123_2 : zQ 123 2 L (.int x1 :: .ref a :: st) M Q ↔ (zcs st ≤ 8 ∧ a < zNC ∧ zk a = 6) ∧ zQ 92 0 [.ref a, .int x1] [] M (fun r M1 => zQ 123 5 L (zpush r st) M1 Q) := zq_callV (n := 145) (j := 92) (b := false) (As := [.int x1]) (by decide +kernel) (by decide +kernel) ⟨by decide +kernel, by decide +kernel, rfl, by decide +kernel, by decide +kernel, Nat.le_of_ble_eq_true rfl⟩ rfl
theorem q123_5 : zQ 123 5 L (.int x :: st) M Q ↔ (x = 0 → zQ 123 8 L st M Q) ∧ (¬ x = 0 → zQ 123 16 L st M Q) := zq_bn (i := .ifCond .ne 11) (off := 11) (by decide +kernel) rfl (by decide) rfl
theorem q123_8 : zQ 123 8 [.ref a, v1, v2, v3, v4] st M Q ↔ zQ 123 9 [.ref a, v1, v2, v3, v4] (.ref a :: st) M Q := zq_go (i := .aload_n 0) (by decide +kernel) rfl
theorem q123_9 : zQ 123 9 [v0, v1, .int x, v3, v4] st M Q ↔ zQ 123 10 [v0, v1, .int x, v3, v4] (.int x :: st) M Q := zq_go (i := .iload_n 2) (by decide +kernel) rfl
theorem q123_10 : zQ 123 10 L (.int x1 :: .ref a :: st) M Q ↔ (zcs st ≤ 8 ∧ a < zNC ∧ zk a = 6) ∧ zQ 92 0 [.ref a, .int x1] [] M (fun r M1 => zQ 123 13 L (zpush r st) M1 Q) := zq_callV (n := 145) (j := 92) (b := false) (As := [.int x1]) (by decide +kernel) (by decide +kernel) ⟨by decide +kernel, by decide +kernel, rfl, by decide +kernel, by decide +kernel, Nat.le_of_ble_eq_true rfl⟩ rfl
theorem q123_13 : zQ 123 13 L (.int x :: st) M Q ↔ (x = 0 → zQ 123 18 L st M Q) ∧ (¬ x = 0 → zQ 123 16 L st M Q) := zq_br (i := .ifCond .eq 5) (off := 5) (by decide +kernel) rfl (by decide) rfl
theorem q123_16 : zQ 123 16 L st M Q ↔ zQ 123 17 L (.int (-1) :: st) M Q := zq_con (n := (-1)) (by decide +kernel) (by decide +kernel) rfl
theorem q123_17 : zQ 123 17 L [.int x] M Q ↔ Q (zI x) M := zq_reI (by decide +kernel) (by decide +kernel)
theorem q123_18 : zQ 123 18 [v0, v1, .int x, v3, v4] st M Q ↔ zQ 123 19 [v0, v1, .int x, v3, v4] (.int x :: st) M Q := zq_go (i := .iload_n 2) (by decide +kernel) rfl
theorem q123_19i : zQ 123 19 [v0, v1, .int y, v3, v4] (.int x :: st) M Q ↔ zQ 123 20 [v0, v1, .int y, .int x, v4] st M Q := zq_stI (i := .istore_n 3) (k := 3) (by decide +kernel) rfl (Nat.le_of_ble_eq_true rfl) rfl rfl
theorem q123_19r : zQ 123 19 [v0, v1, .ref r1, v3, v4] (.int x :: st) M Q ↔ zQ 123 20 [v0, v1, .ref r1, .int x, v4] st M Q := zq_stI (i := .istore_n 3) (k := 3) (by decide +kernel) rfl (Nat.le_of_ble_eq_true rfl) rfl rfl
theorem q123_19n : zQ 123 19 [v0, v1, .null, v3, v4] (.int x :: st) M Q ↔ zQ 123 20 [v0, v1, .null, .int x, v4] st M Q := zq_stI (i := .istore_n 3) (k := 3) (by decide +kernel) rfl (Nat.le_of_ble_eq_true rfl) rfl rfl
theorem q123_20 : zQ 123 20 L st M Q ↔ zQ 123 21 L (.int 1 :: st) M Q := zq_con (n := 1) (by decide +kernel) (by decide +kernel) rfl
theorem q123_21i : zQ 123 21 [v0, v1, v2, .int y, v4] (.int x :: st) M Q ↔ zQ 123 23 [v0, v1, v2, .int y, .int x] st M Q := zq_stI (i := .istore 4) (k := 4) (by decide +kernel) rfl (Nat.le_of_ble_eq_true rfl) rfl rfl
theorem q123_21r : zQ 123 21 [v0, v1, v2, .ref r1, v4] (.int x :: st) M Q ↔ zQ 123 23 [v0, v1, v2, .ref r1, .int x] st M Q := zq_stI (i := .istore 4) (k := 4) (by decide +kernel) rfl (Nat.le_of_ble_eq_true rfl) rfl rfl
theorem q123_21n : zQ 123 21 [v0, v1, v2, .null, v4] (.int x :: st) M Q ↔ zQ 123 23 [v0, v1, v2, .null, .int x] st M Q := zq_stI (i := .istore 4) (k := 4) (by decide +kernel) rfl (Nat.le_of_ble_eq_true rfl) rfl rfl
theorem q123_23 : zQ 123 23 [v0, v1, v2, v3, .int x] st M Q ↔ zQ 123 25 [v0, v1, v2, v3, .int x] (.int x :: st) M Q := zq_go (i := .iload 4) (by decide +kernel) rfl
theorem q123_25 : zQ 123 25 [.ref a, v1, v2, v3, v4] st M Q ↔ zQ 123 26 [.ref a, v1, v2, v3, v4] (.ref a :: st) M Q := zq_go (i := .aload_n 0) (by decide +kernel) rfl
theorem q123_26 : zQ 123 26 L (.ref a :: st) M Q ↔ (a < zNC ∧ zk a = 6) ∧ zQ 123 29 L (zfv a 1 M :: st) M Q := zq_getf (n := 86) (b := false) (by decide +kernel) (by decide +kernel)
theorem q123_29 : zQ 123 29 L (.int y :: .int x :: st) M Q ↔ (y < x → zQ 123 53 L st M Q) ∧ (¬ y < x → zQ 123 32 L st M Q) := zq_br (i := .if_icmp .gt 24) (off := 24) (by decide +kernel) rfl (by decide) rfl
theorem q123_32 : zQ 123 32 [.ref a, v1, v2, v3, v4] st M Q ↔ zQ 123 33 [.ref a, v1, v2, v3, v4] (.ref a :: st) M Q := zq_go (i := .aload_n 0) (by decide +kernel) rfl
theorem q123_33 : zQ 123 33 L (.ref a :: st) M Q ↔ (a < zNC ∧ zk a = 6) ∧ zQ 123 36 L (zfv a 8 M :: st) M Q := zq_getf (n := 25) (b := false) (by decide +kernel) (by decide +kernel)
theorem q123_36 : zQ 123 36 [v0, v1, v2, .int x, v4] st M Q ↔ zQ 123 37 [v0, v1, v2, .int x, v4] (.int x :: st) M Q := zq_go (i := .iload_n 3) (by decide +kernel) rfl
theorem q123_37 : zQ 123 37 L (.int x :: .ref a :: st) M Q ↔ (a < zNC ∧ zk a = 7 ∧ zin x (zn a) = true) ∧ zQ 123 38 L (.int (M a x.toNatClampNeg) :: st) M Q := zq_iald (by decide +kernel)
theorem q123_38i : zQ 123 38 [v0, v1, .int y, v3, v4] (.int x :: st) M Q ↔ zQ 123 39 [v0, v1, .int y, .int x, v4] st M Q := zq_stI (i := .istore_n 3) (k := 3) (by decide +kernel) rfl (Nat.le_of_ble_eq_true rfl) rfl rfl
theorem q123_38r : zQ 123 38 [v0, v1, .ref r1, v3, v4] (.int x :: st) M Q ↔ zQ 123 39 [v0, v1, .ref r1, .int x, v4] st M Q := zq_stI (i := .istore_n 3) (k := 3) (by decide +kernel) rfl (Nat.le_of_ble_eq_true rfl) rfl rfl
theorem q123_38n : zQ 123 38 [v0, v1, .null, v3, v4] (.int x :: st) M Q ↔ zQ 123 39 [v0, v1, .null, .int x, v4] st M Q := zq_stI (i := .istore_n 3) (k := 3) (by decide +kernel) rfl (Nat.le_of_ble_eq_true rfl) rfl rfl
theorem q123_39 : zQ 123 39 [v0, v1, v2, .int x, v4] st M Q ↔ zQ 123 40 [v0, v1, v2, .int x, v4] (.int x :: st) M Q := zq_go (i := .iload_n 3) (by decide +kernel) rfl
theorem q123_40 : zQ 123 40 [v0, .int x, v2, v3, v4] st M Q ↔ zQ 123 41 [v0, .int x, v2, v3, v4] (.int x :: st) M Q := zq_go (i := .iload_n 1) (by decide +kernel) rfl
theorem q123_41 : zQ 123 41 L (.int y :: .int x :: st) M Q ↔ (x = y → zQ 123 44 L st M Q) ∧ (¬ x = y → zQ 123 47 L st M Q) := zq_bn (i := .if_icmp .ne 6) (off := 6) (by decide +kernel) rfl (by decide) rfl
theorem q123_44 : zQ 123 44 [v0, v1, v2, v3, .int x] st M Q ↔ zQ 123 46 [v0, v1, v2, v3, .int x] (.int x :: st) M Q := zq_go (i := .iload 4) (by decide +kernel) rfl
theorem q123_46 : zQ 123 46 L [.int x] M Q ↔ Q (zI x) M := zq_reI (by decide +kernel) (by decide +kernel)
theorem q123_47i : zQ 123 47 [v0, v1, v2, .int y, .int x] st M Q ↔ zQ 123 50 [v0, v1, v2, .int y, .int (x + 1)] st M Q := zq_inc (k := 4) (n := 1) (x := x) (v := 1) (by decide +kernel) (by decide +kernel) rfl rfl rfl rfl
theorem q123_47r : zQ 123 47 [v0, v1, v2, .ref r1, .int x] st M Q ↔ zQ 123 50 [v0, v1, v2, .ref r1, .int (x + 1)] st M Q := zq_inc (k := 4) (n := 1) (x := x) (v := 1) (by decide +kernel) (by decide +kernel) rfl rfl rfl rfl
theorem q123_47n : zQ 123 47 [v0, v1, v2, .null, .int x] st M Q ↔ zQ 123 50 [v0, v1, v2, .null, .int (x + 1)] st M Q := zq_inc (k := 4) (n := 1) (x := x) (v := 1) (by decide +kernel) (by decide +kernel) rfl rfl rfl rfl
theorem q123_50 : zQ 123 50 L st M Q ↔ zQ 123 23 L st M Q := zq_jmp (off := (-27)) (by decide +kernel) (by decide)
theorem q123_53 : zQ 123 53 L st M Q ↔ zQ 123 55 L (.int (-9) :: st) M Q := zq_bip (n := (-9)) (by decide +kernel) (by decide +kernel) rfl
theorem q123_55 : zQ 123 55 L [.int x] M Q ↔ Q (zI x) M := zq_reI (by decide +kernel) (by decide +kernel)
-- 124 SandKeepersModel.ring(I)I
theorem q124_0 : zQ 124 0 [.ref a, v1] st M Q ↔ zQ 124 1 [.ref a, v1] (.ref a :: st) M Q := zq_go (i := .aload_n 0) (by decide +kernel) rfl
theorem q124_1 : zQ 124 1 [v0, .int x] st M Q ↔ zQ 124 2 [v0, .int x] (.int x :: st) M Q := zq_go (i := .iload_n 1) (by decide +kernel) rfl
theorem q124_2 : zQ 124 2 [v0, .int x] st M Q ↔ zQ 124 3 [v0, .int x] (.int x :: st) M Q := zq_go (i := .iload_n 1) (by decide +kernel) rfl
theorem q124_3 : zQ 124 3 L (.int x2 :: .int x1 :: .ref a :: st) M Q ↔ (zcs st ≤ 8 ∧ a < zNC ∧ zk a = 6) ∧ zQ 123 0 [.ref a, .int x1, .int x2, .null, .null] [] M (fun r M1 => zQ 124 6 L (zpush r st) M1 Q) := zq_callV (n := 212) (j := 123) (b := false) (As := [.int x1, .int x2]) (by decide +kernel) (by decide +kernel) ⟨by decide +kernel, by decide +kernel, rfl, by decide +kernel, by decide +kernel, Nat.le_of_ble_eq_true rfl⟩ rfl
theorem q124_6 : zQ 124 6 L [.int x] M Q ↔ Q (zI x) M := zq_reI (by decide +kernel) (by decide +kernel)
-- 125 SandKeepersModel.lives()I
theorem q125_0 : zQ 125 0 L st M Q ↔ zQ 125 1 L (.int 0 :: st) M Q := zq_con (n := 0) (by decide +kernel) (by decide +kernel) rfl
theorem q125_1i : zQ 125 1 [.int y, v1, v2] (.int x :: st) M Q ↔ zQ 125 2 [.int y, .int x, v2] st M Q := zq_stI (i := .istore_n 1) (k := 1) (by decide +kernel) rfl (Nat.le_of_ble_eq_true rfl) rfl rfl
theorem q125_1r : zQ 125 1 [.ref r1, v1, v2] (.int x :: st) M Q ↔ zQ 125 2 [.ref r1, .int x, v2] st M Q := zq_stI (i := .istore_n 1) (k := 1) (by decide +kernel) rfl (Nat.le_of_ble_eq_true rfl) rfl rfl
theorem q125_1n : zQ 125 1 [.null, v1, v2] (.int x :: st) M Q ↔ zQ 125 2 [.null, .int x, v2] st M Q := zq_stI (i := .istore_n 1) (k := 1) (by decide +kernel) rfl (Nat.le_of_ble_eq_true rfl) rfl rfl
theorem q125_2 : zQ 125 2 L st M Q ↔ zQ 125 3 L (.int 0 :: st) M Q := zq_con (n := 0) (by decide +kernel) (by decide +kernel) rfl
theorem q125_3i : zQ 125 3 [v0, .int y, v2] (.int x :: st) M Q ↔ zQ 125 4 [v0, .int y, .int x] st M Q := zq_stI (i := .istore_n 2) (k := 2) (by decide +kernel) rfl (Nat.le_of_ble_eq_true rfl) rfl rfl
theorem q125_3r : zQ 125 3 [v0, .ref r1, v2] (.int x :: st) M Q ↔ zQ 125 4 [v0, .ref r1, .int x] st M Q := zq_stI (i := .istore_n 2) (k := 2) (by decide +kernel) rfl (Nat.le_of_ble_eq_true rfl) rfl rfl
theorem q125_3n : zQ 125 3 [v0, .null, v2] (.int x :: st) M Q ↔ zQ 125 4 [v0, .null, .int x] st M Q := zq_stI (i := .istore_n 2) (k := 2) (by decide +kernel) rfl (Nat.le_of_ble_eq_true rfl) rfl rfl
theorem q125_4 : zQ 125 4 [v0, v1, .int x] st M Q ↔ zQ 125 5 [v0, v1, .int x] (.int x :: st) M Q := zq_go (i := .iload_n 2) (by decide +kernel) rfl
theorem q125_5 : zQ 125 5 [.ref a, v1, v2] st M Q ↔ zQ 125 6 [.ref a, v1, v2] (.ref a :: st) M Q := zq_go (i := .aload_n 0) (by decide +kernel) rfl
theorem q125_6 : zQ 125 6 L (.ref a :: st) M Q ↔ (a < zNC ∧ zk a = 6) ∧ zQ 125 9 L (zfv a 1 M :: st) M Q := zq_getf (n := 86) (b := false) (by decide +kernel) (by decide +kernel)
theorem q125_9 : zQ 125 9 L (.int y :: .int x :: st) M Q ↔ (y ≤ x → zQ 125 26 L st M Q) ∧ (¬ y ≤ x → zQ 125 12 L st M Q) := zq_br (i := .if_icmp .ge 17) (off := 17) (by decide +kernel) rfl (by decide) rfl
theorem q125_12 : zQ 125 12 [v0, .int x, v2] st M Q ↔ zQ 125 13 [v0, .int x, v2] (.int x :: st) M Q := zq_go (i := .iload_n 1) (by decide +kernel) rfl
theorem q125_13 : zQ 125 13 [.ref a, v1, v2] st M Q ↔ zQ 125 14 [.ref a, v1, v2] (.ref a :: st) M Q := zq_go (i := .aload_n 0) (by decide +kernel) rfl
theorem q125_14 : zQ 125 14 [v0, v1, .int x] st M Q ↔ zQ 125 15 [v0, v1, .int x] (.int x :: st) M Q := zq_go (i := .iload_n 2) (by decide +kernel) rfl
theorem q125_15 : zQ 125 15 L (.int x1 :: .ref a :: st) M Q ↔ (zcs st ≤ 8 ∧ a < zNC ∧ zk a = 6) ∧ zQ 116 0 [.ref a, .int x1, .null] [] M (fun r M1 => zQ 125 18 L (zpush r st) M1 Q) := zq_callV (n := 182) (j := 116) (b := false) (As := [.int x1]) (by decide +kernel) (by decide +kernel) ⟨by decide +kernel, by decide +kernel, rfl, by decide +kernel, by decide +kernel, Nat.le_of_ble_eq_true rfl⟩ rfl
theorem q125_18 : zQ 125 18 L (.int y :: .int x :: st) M Q ↔ zQ 125 19 L (.int (x + y) :: st) M Q := zq_go (i := .iadd) (by decide +kernel) rfl
theorem q125_19i : zQ 125 19 [.int y, v1, v2] (.int x :: st) M Q ↔ zQ 125 20 [.int y, .int x, v2] st M Q := zq_stI (i := .istore_n 1) (k := 1) (by decide +kernel) rfl (Nat.le_of_ble_eq_true rfl) rfl rfl
theorem q125_19r : zQ 125 19 [.ref r1, v1, v2] (.int x :: st) M Q ↔ zQ 125 20 [.ref r1, .int x, v2] st M Q := zq_stI (i := .istore_n 1) (k := 1) (by decide +kernel) rfl (Nat.le_of_ble_eq_true rfl) rfl rfl
theorem q125_19n : zQ 125 19 [.null, v1, v2] (.int x :: st) M Q ↔ zQ 125 20 [.null, .int x, v2] st M Q := zq_stI (i := .istore_n 1) (k := 1) (by decide +kernel) rfl (Nat.le_of_ble_eq_true rfl) rfl rfl
theorem q125_20i : zQ 125 20 [v0, .int y, .int x] st M Q ↔ zQ 125 23 [v0, .int y, .int (x + 1)] st M Q := zq_inc (k := 2) (n := 1) (x := x) (v := 1) (by decide +kernel) (by decide +kernel) rfl rfl rfl rfl
theorem q125_20r : zQ 125 20 [v0, .ref r1, .int x] st M Q ↔ zQ 125 23 [v0, .ref r1, .int (x + 1)] st M Q := zq_inc (k := 2) (n := 1) (x := x) (v := 1) (by decide +kernel) (by decide +kernel) rfl rfl rfl rfl
theorem q125_20n : zQ 125 20 [v0, .null, .int x] st M Q ↔ zQ 125 23 [v0, .null, .int (x + 1)] st M Q := zq_inc (k := 2) (n := 1) (x := x) (v := 1) (by decide +kernel) (by decide +kernel) rfl rfl rfl rfl
theorem q125_23 : zQ 125 23 L st M Q ↔ zQ 125 4 L st M Q := zq_jmp (off := (-19)) (by decide +kernel) (by decide)
theorem q125_26 : zQ 125 26 [v0, .int x, v2] st M Q ↔ zQ 125 27 [v0, .int x, v2] (.int x :: st) M Q := zq_go (i := .iload_n 1) (by decide +kernel) rfl
theorem q125_27 : zQ 125 27 L [.int x] M Q ↔ Q (zI x) M := zq_reI (by decide +kernel) (by decide +kernel)
-- 126 SandKeepersModel.noneOwn()Z
theorem q126_0 : zQ 126 0 L st M Q ↔ zQ 126 1 L (.int 1 :: st) M Q := zq_con (n := 1) (by decide +kernel) (by decide +kernel) rfl
theorem q126_1i : zQ 126 1 [.int y, v1, v2] (.int x :: st) M Q ↔ zQ 126 2 [.int y, .int x, v2] st M Q := zq_stI (i := .istore_n 1) (k := 1) (by decide +kernel) rfl (Nat.le_of_ble_eq_true rfl) rfl rfl
theorem q126_1r : zQ 126 1 [.ref r1, v1, v2] (.int x :: st) M Q ↔ zQ 126 2 [.ref r1, .int x, v2] st M Q := zq_stI (i := .istore_n 1) (k := 1) (by decide +kernel) rfl (Nat.le_of_ble_eq_true rfl) rfl rfl
theorem q126_1n : zQ 126 1 [.null, v1, v2] (.int x :: st) M Q ↔ zQ 126 2 [.null, .int x, v2] st M Q := zq_stI (i := .istore_n 1) (k := 1) (by decide +kernel) rfl (Nat.le_of_ble_eq_true rfl) rfl rfl
theorem q126_2 : zQ 126 2 L st M Q ↔ zQ 126 3 L (.int 0 :: st) M Q := zq_con (n := 0) (by decide +kernel) (by decide +kernel) rfl
theorem q126_3i : zQ 126 3 [v0, .int y, v2] (.int x :: st) M Q ↔ zQ 126 4 [v0, .int y, .int x] st M Q := zq_stI (i := .istore_n 2) (k := 2) (by decide +kernel) rfl (Nat.le_of_ble_eq_true rfl) rfl rfl
theorem q126_3r : zQ 126 3 [v0, .ref r1, v2] (.int x :: st) M Q ↔ zQ 126 4 [v0, .ref r1, .int x] st M Q := zq_stI (i := .istore_n 2) (k := 2) (by decide +kernel) rfl (Nat.le_of_ble_eq_true rfl) rfl rfl
theorem q126_3n : zQ 126 3 [v0, .null, v2] (.int x :: st) M Q ↔ zQ 126 4 [v0, .null, .int x] st M Q := zq_stI (i := .istore_n 2) (k := 2) (by decide +kernel) rfl (Nat.le_of_ble_eq_true rfl) rfl rfl
theorem q126_4 : zQ 126 4 [v0, v1, .int x] st M Q ↔ zQ 126 5 [v0, v1, .int x] (.int x :: st) M Q := zq_go (i := .iload_n 2) (by decide +kernel) rfl
theorem q126_5 : zQ 126 5 [.ref a, v1, v2] st M Q ↔ zQ 126 6 [.ref a, v1, v2] (.ref a :: st) M Q := zq_go (i := .aload_n 0) (by decide +kernel) rfl
theorem q126_6 : zQ 126 6 L (.ref a :: st) M Q ↔ (a < zNC ∧ zk a = 6) ∧ zQ 126 9 L (zfv a 1 M :: st) M Q := zq_getf (n := 86) (b := false) (by decide +kernel) (by decide +kernel)
theorem q126_9 : zQ 126 9 L (.int y :: .int x :: st) M Q ↔ (y ≤ x → zQ 126 38 L st M Q) ∧ (¬ y ≤ x → zQ 126 12 L st M Q) := zq_br (i := .if_icmp .ge 29) (off := 29) (by decide +kernel) rfl (by decide) rfl
theorem q126_12 : zQ 126 12 [v0, .int x, v2] st M Q ↔ zQ 126 13 [v0, .int x, v2] (.int x :: st) M Q := zq_go (i := .iload_n 1) (by decide +kernel) rfl
theorem q126_13 : zQ 126 13 L (.int x :: st) M Q ↔ (x = 0 → zQ 126 30 L st M Q) ∧ (¬ x = 0 → zQ 126 16 L st M Q) := zq_br (i := .ifCond .eq 17) (off := 17) (by decide +kernel) rfl (by decide) rfl
theorem q126_16 : zQ 126 16 [.ref a, v1, v2] st M Q ↔ zQ 126 17 [.ref a, v1, v2] (.ref a :: st) M Q := zq_go (i := .aload_n 0) (by decide +kernel) rfl
theorem q126_17 : zQ 126 17 L (.ref a :: st) M Q ↔ (a < zNC ∧ zk a = 6) ∧ zQ 126 20 L (zfv a 8 M :: st) M Q := zq_getf (n := 25) (b := false) (by decide +kernel) (by decide +kernel)
theorem q126_20 : zQ 126 20 [v0, v1, .int x] st M Q ↔ zQ 126 21 [v0, v1, .int x] (.int x :: st) M Q := zq_go (i := .iload_n 2) (by decide +kernel) rfl
theorem q126_21 : zQ 126 21 L (.int x :: .ref a :: st) M Q ↔ (a < zNC ∧ zk a = 7 ∧ zin x (zn a) = true) ∧ zQ 126 22 L (.int (M a x.toNatClampNeg) :: st) M Q := zq_iald (by decide +kernel)
theorem q126_22 : zQ 126 22 [v0, v1, .int x] st M Q ↔ zQ 126 23 [v0, v1, .int x] (.int x :: st) M Q := zq_go (i := .iload_n 2) (by decide +kernel) rfl
theorem q126_23 : zQ 126 23 L (.int y :: .int x :: st) M Q ↔ (x = y → zQ 126 30 L st M Q) ∧ (¬ x = y → zQ 126 26 L st M Q) := zq_br (i := .if_icmp .eq 7) (off := 7) (by decide +kernel) rfl (by decide) rfl
theorem q126_26 : zQ 126 26 L st M Q ↔ zQ 126 27 L (.int 1 :: st) M Q := zq_con (n := 1) (by decide +kernel) (by decide +kernel) rfl
theorem q126_27 : zQ 126 27 L st M Q ↔ zQ 126 31 L st M Q := zq_jmp (off := 4) (by decide +kernel) (by decide)
theorem q126_30 : zQ 126 30 L st M Q ↔ zQ 126 31 L (.int 0 :: st) M Q := zq_con (n := 0) (by decide +kernel) (by decide +kernel) rfl
theorem q126_31i : zQ 126 31 [.int y, v1, v2] (.int x :: st) M Q ↔ zQ 126 32 [.int y, .int x, v2] st M Q := zq_stI (i := .istore_n 1) (k := 1) (by decide +kernel) rfl (Nat.le_of_ble_eq_true rfl) rfl rfl
theorem q126_31r : zQ 126 31 [.ref r1, v1, v2] (.int x :: st) M Q ↔ zQ 126 32 [.ref r1, .int x, v2] st M Q := zq_stI (i := .istore_n 1) (k := 1) (by decide +kernel) rfl (Nat.le_of_ble_eq_true rfl) rfl rfl
theorem q126_31n : zQ 126 31 [.null, v1, v2] (.int x :: st) M Q ↔ zQ 126 32 [.null, .int x, v2] st M Q := zq_stI (i := .istore_n 1) (k := 1) (by decide +kernel) rfl (Nat.le_of_ble_eq_true rfl) rfl rfl
theorem q126_32i : zQ 126 32 [v0, .int y, .int x] st M Q ↔ zQ 126 35 [v0, .int y, .int (x + 1)] st M Q := zq_inc (k := 2) (n := 1) (x := x) (v := 1) (by decide +kernel) (by decide +kernel) rfl rfl rfl rfl
theorem q126_32r : zQ 126 32 [v0, .ref r1, .int x] st M Q ↔ zQ 126 35 [v0, .ref r1, .int (x + 1)] st M Q := zq_inc (k := 2) (n := 1) (x := x) (v := 1) (by decide +kernel) (by decide +kernel) rfl rfl rfl rfl
theorem q126_32n : zQ 126 32 [v0, .null, .int x] st M Q ↔ zQ 126 35 [v0, .null, .int (x + 1)] st M Q := zq_inc (k := 2) (n := 1) (x := x) (v := 1) (by decide +kernel) (by decide +kernel) rfl rfl rfl rfl
theorem q126_35 : zQ 126 35 L st M Q ↔ zQ 126 4 L st M Q := zq_jmp (off := (-31)) (by decide +kernel) (by decide)
theorem q126_38 : zQ 126 38 [v0, .int x, v2] st M Q ↔ zQ 126 39 [v0, .int x, v2] (.int x :: st) M Q := zq_go (i := .iload_n 1) (by decide +kernel) rfl
theorem q126_39 : zQ 126 39 L [.int x] M Q ↔ (x = 0 ∨ x = 1) ∧ Q (zI x) M := zq_reZ (by decide +kernel) (by decide +kernel)
-- 127 SandKeepersModel.exchange(II)V
theorem q127_0 : zQ 127 0 [.ref a, v1, v2, v3] st M Q ↔ zQ 127 1 [.ref a, v1, v2, v3] (.ref a :: st) M Q := zq_go (i := .aload_n 0) (by decide +kernel) rfl
theorem q127_1 : zQ 127 1 L (.ref a :: st) M Q ↔ (a < zNC ∧ zk a = 6) ∧ zQ 127 4 L (zfv a 8 M :: st) M Q := zq_getf (n := 25) (b := false) (by decide +kernel) (by decide +kernel)
theorem q127_4 : zQ 127 4 [v0, .int x, v2, v3] st M Q ↔ zQ 127 5 [v0, .int x, v2, v3] (.int x :: st) M Q := zq_go (i := .iload_n 1) (by decide +kernel) rfl
theorem q127_5 : zQ 127 5 L (.int x :: .ref a :: st) M Q ↔ (a < zNC ∧ zk a = 7 ∧ zin x (zn a) = true) ∧ zQ 127 6 L (.int (M a x.toNatClampNeg) :: st) M Q := zq_iald (by decide +kernel)
theorem q127_6i : zQ 127 6 [v0, v1, .int y, v3] (.int x :: st) M Q ↔ zQ 127 7 [v0, v1, .int y, .int x] st M Q := zq_stI (i := .istore_n 3) (k := 3) (by decide +kernel) rfl (Nat.le_of_ble_eq_true rfl) rfl rfl
theorem q127_6r : zQ 127 6 [v0, v1, .ref r1, v3] (.int x :: st) M Q ↔ zQ 127 7 [v0, v1, .ref r1, .int x] st M Q := zq_stI (i := .istore_n 3) (k := 3) (by decide +kernel) rfl (Nat.le_of_ble_eq_true rfl) rfl rfl
theorem q127_6n : zQ 127 6 [v0, v1, .null, v3] (.int x :: st) M Q ↔ zQ 127 7 [v0, v1, .null, .int x] st M Q := zq_stI (i := .istore_n 3) (k := 3) (by decide +kernel) rfl (Nat.le_of_ble_eq_true rfl) rfl rfl
theorem q127_7 : zQ 127 7 [.ref a, v1, v2, v3] st M Q ↔ zQ 127 8 [.ref a, v1, v2, v3] (.ref a :: st) M Q := zq_go (i := .aload_n 0) (by decide +kernel) rfl
theorem q127_8 : zQ 127 8 L (.ref a :: st) M Q ↔ (a < zNC ∧ zk a = 6) ∧ zQ 127 11 L (zfv a 8 M :: st) M Q := zq_getf (n := 25) (b := false) (by decide +kernel) (by decide +kernel)
theorem q127_11 : zQ 127 11 [v0, .int x, v2, v3] st M Q ↔ zQ 127 12 [v0, .int x, v2, v3] (.int x :: st) M Q := zq_go (i := .iload_n 1) (by decide +kernel) rfl
theorem q127_12 : zQ 127 12 [.ref a, v1, v2, v3] st M Q ↔ zQ 127 13 [.ref a, v1, v2, v3] (.ref a :: st) M Q := zq_go (i := .aload_n 0) (by decide +kernel) rfl
theorem q127_13 : zQ 127 13 L (.ref a :: st) M Q ↔ (a < zNC ∧ zk a = 6) ∧ zQ 127 16 L (zfv a 8 M :: st) M Q := zq_getf (n := 25) (b := false) (by decide +kernel) (by decide +kernel)
theorem q127_16 : zQ 127 16 [v0, v1, .int x, v3] st M Q ↔ zQ 127 17 [v0, v1, .int x, v3] (.int x :: st) M Q := zq_go (i := .iload_n 2) (by decide +kernel) rfl
theorem q127_17 : zQ 127 17 L (.int x :: .ref a :: st) M Q ↔ (a < zNC ∧ zk a = 7 ∧ zin x (zn a) = true) ∧ zQ 127 18 L (.int (M a x.toNatClampNeg) :: st) M Q := zq_iald (by decide +kernel)
theorem q127_18 : zQ 127 18 L (.int x :: .int y :: .ref a :: st) M Q ↔ (a < zNC ∧ zk a = 7 ∧ zin y (zn a) = true) ∧ zQ 127 19 L st (zup M a y.toNatClampNeg x) Q := zq_iast (by decide +kernel)
theorem q127_19 : zQ 127 19 [.ref a, v1, v2, v3] st M Q ↔ zQ 127 20 [.ref a, v1, v2, v3] (.ref a :: st) M Q := zq_go (i := .aload_n 0) (by decide +kernel) rfl
theorem q127_20 : zQ 127 20 L (.ref a :: st) M Q ↔ (a < zNC ∧ zk a = 6) ∧ zQ 127 23 L (zfv a 8 M :: st) M Q := zq_getf (n := 25) (b := false) (by decide +kernel) (by decide +kernel)
theorem q127_23 : zQ 127 23 [v0, v1, .int x, v3] st M Q ↔ zQ 127 24 [v0, v1, .int x, v3] (.int x :: st) M Q := zq_go (i := .iload_n 2) (by decide +kernel) rfl
theorem q127_24 : zQ 127 24 [v0, v1, v2, .int x] st M Q ↔ zQ 127 25 [v0, v1, v2, .int x] (.int x :: st) M Q := zq_go (i := .iload_n 3) (by decide +kernel) rfl
theorem q127_25 : zQ 127 25 L (.int x :: .int y :: .ref a :: st) M Q ↔ (a < zNC ∧ zk a = 7 ∧ zin y (zn a) = true) ∧ zQ 127 26 L st (zup M a y.toNatClampNeg x) Q := zq_iast (by decide +kernel)
theorem q127_26 : zQ 127 26 L [] M Q ↔ Q none M := zq_reV (by decide +kernel) (by decide +kernel)
-- 128 SandKeepersModel.nextRow()Z
theorem q128_0 : zQ 128 0 [.ref a, v1, v2, v3, v4] st M Q ↔ zQ 128 1 [.ref a, v1, v2, v3, v4] (.ref a :: st) M Q := zq_go (i := .aload_n 0) (by decide +kernel) rfl
theorem q128_1 : zQ 128 1 L (.ref a :: st) M Q ↔ (a < zNC ∧ zk a = 6) ∧ zQ 128 4 L (zfv a 1 M :: st) M Q := zq_getf (n := 86) (b := false) (by decide +kernel) (by decide +kernel)
theorem q128_4 : zQ 128 4 L st M Q ↔ zQ 128 5 L (.int 2 :: st) M Q := zq_con (n := 2) (by decide +kernel) (by decide +kernel) rfl
theorem q128_5 : zQ 128 5 L (.int y :: .int x :: st) M Q ↔ zQ 128 6 L (.int (x - y) :: st) M Q := zq_go (i := .isub) (by decide +kernel) rfl
theorem q128_6i : zQ 128 6 [.int y, v1, v2, v3, v4] (.int x :: st) M Q ↔ zQ 128 7 [.int y, .int x, v2, v3, v4] st M Q := zq_stI (i := .istore_n 1) (k := 1) (by decide +kernel) rfl (Nat.le_of_ble_eq_true rfl) rfl rfl
theorem q128_6r : zQ 128 6 [.ref r1, v1, v2, v3, v4] (.int x :: st) M Q ↔ zQ 128 7 [.ref r1, .int x, v2, v3, v4] st M Q := zq_stI (i := .istore_n 1) (k := 1) (by decide +kernel) rfl (Nat.le_of_ble_eq_true rfl) rfl rfl
theorem q128_6n : zQ 128 6 [.null, v1, v2, v3, v4] (.int x :: st) M Q ↔ zQ 128 7 [.null, .int x, v2, v3, v4] st M Q := zq_stI (i := .istore_n 1) (k := 1) (by decide +kernel) rfl (Nat.le_of_ble_eq_true rfl) rfl rfl
theorem q128_7 : zQ 128 7 [v0, .int x, v2, v3, v4] st M Q ↔ zQ 128 8 [v0, .int x, v2, v3, v4] (.int x :: st) M Q := zq_go (i := .iload_n 1) (by decide +kernel) rfl
theorem q128_8 : zQ 128 8 L (.int x :: st) M Q ↔ (x < 0 → zQ 128 34 L st M Q) ∧ (¬ x < 0 → zQ 128 11 L st M Q) := zq_br (i := .ifCond .lt 26) (off := 26) (by decide +kernel) rfl (by decide) rfl
theorem q128_11 : zQ 128 11 [.ref a, v1, v2, v3, v4] st M Q ↔ zQ 128 12 [.ref a, v1, v2, v3, v4] (.ref a :: st) M Q := zq_go (i := .aload_n 0) (by decide +kernel) rfl
theorem q128_12 : zQ 128 12 L (.ref a :: st) M Q ↔ (a < zNC ∧ zk a = 6) ∧ zQ 128 15 L (zfv a 8 M :: st) M Q := zq_getf (n := 25) (b := false) (by decide +kernel) (by decide +kernel)
theorem q128_15 : zQ 128 15 [v0, .int x, v2, v3, v4] st M Q ↔ zQ 128 16 [v0, .int x, v2, v3, v4] (.int x :: st) M Q := zq_go (i := .iload_n 1) (by decide +kernel) rfl
theorem q128_16 : zQ 128 16 L (.int x :: .ref a :: st) M Q ↔ (a < zNC ∧ zk a = 7 ∧ zin x (zn a) = true) ∧ zQ 128 17 L (.int (M a x.toNatClampNeg) :: st) M Q := zq_iald (by decide +kernel)
theorem q128_17 : zQ 128 17 [.ref a, v1, v2, v3, v4] st M Q ↔ zQ 128 18 [.ref a, v1, v2, v3, v4] (.ref a :: st) M Q := zq_go (i := .aload_n 0) (by decide +kernel) rfl
theorem q128_18 : zQ 128 18 L (.ref a :: st) M Q ↔ (a < zNC ∧ zk a = 6) ∧ zQ 128 21 L (zfv a 8 M :: st) M Q := zq_getf (n := 25) (b := false) (by decide +kernel) (by decide +kernel)
theorem q128_21 : zQ 128 21 [v0, .int x, v2, v3, v4] st M Q ↔ zQ 128 22 [v0, .int x, v2, v3, v4] (.int x :: st) M Q := zq_go (i := .iload_n 1) (by decide +kernel) rfl
theorem q128_22 : zQ 128 22 L st M Q ↔ zQ 128 23 L (.int 1 :: st) M Q := zq_con (n := 1) (by decide +kernel) (by decide +kernel) rfl
theorem q128_23 : zQ 128 23 L (.int y :: .int x :: st) M Q ↔ zQ 128 24 L (.int (x + y) :: st) M Q := zq_go (i := .iadd) (by decide +kernel) rfl
theorem q128_24 : zQ 128 24 L (.int x :: .ref a :: st) M Q ↔ (a < zNC ∧ zk a = 7 ∧ zin x (zn a) = true) ∧ zQ 128 25 L (.int (M a x.toNatClampNeg) :: st) M Q := zq_iald (by decide +kernel)
theorem q128_25 : zQ 128 25 L (.int y :: .int x :: st) M Q ↔ (x ≤ y → zQ 128 34 L st M Q) ∧ (¬ x ≤ y → zQ 128 28 L st M Q) := zq_br (i := .if_icmp .le 9) (off := 9) (by decide +kernel) rfl (by decide) rfl
theorem q128_28i : zQ 128 28 [.int y, .int x, v2, v3, v4] st M Q ↔ zQ 128 31 [.int y, .int (x + (-1)), v2, v3, v4] st M Q := zq_inc (k := 1) (n := (-1)) (x := x) (v := (-1)) (by decide +kernel) (by decide +kernel) rfl rfl rfl rfl
theorem q128_28r : zQ 128 28 [.ref r1, .int x, v2, v3, v4] st M Q ↔ zQ 128 31 [.ref r1, .int (x + (-1)), v2, v3, v4] st M Q := zq_inc (k := 1) (n := (-1)) (x := x) (v := (-1)) (by decide +kernel) (by decide +kernel) rfl rfl rfl rfl
theorem q128_28n : zQ 128 28 [.null, .int x, v2, v3, v4] st M Q ↔ zQ 128 31 [.null, .int (x + (-1)), v2, v3, v4] st M Q := zq_inc (k := 1) (n := (-1)) (x := x) (v := (-1)) (by decide +kernel) (by decide +kernel) rfl rfl rfl rfl
theorem q128_31 : zQ 128 31 L st M Q ↔ zQ 128 7 L st M Q := zq_jmp (off := (-24)) (by decide +kernel) (by decide)
theorem q128_34 : zQ 128 34 [v0, .int x, v2, v3, v4] st M Q ↔ zQ 128 35 [v0, .int x, v2, v3, v4] (.int x :: st) M Q := zq_go (i := .iload_n 1) (by decide +kernel) rfl
theorem q128_35 : zQ 128 35 L (.int x :: st) M Q ↔ (0 ≤ x → zQ 128 40 L st M Q) ∧ (¬ 0 ≤ x → zQ 128 38 L st M Q) := zq_br (i := .ifCond .ge 5) (off := 5) (by decide +kernel) rfl (by decide) rfl
theorem q128_38 : zQ 128 38 L st M Q ↔ zQ 128 39 L (.int 0 :: st) M Q := zq_con (n := 0) (by decide +kernel) (by decide +kernel) rfl
theorem q128_39 : zQ 128 39 L [.int x] M Q ↔ (x = 0 ∨ x = 1) ∧ Q (zI x) M := zq_reZ (by decide +kernel) (by decide +kernel)
theorem q128_40 : zQ 128 40 [.ref a, v1, v2, v3, v4] st M Q ↔ zQ 128 41 [.ref a, v1, v2, v3, v4] (.ref a :: st) M Q := zq_go (i := .aload_n 0) (by decide +kernel) rfl
theorem q128_41 : zQ 128 41 L (.ref a :: st) M Q ↔ (a < zNC ∧ zk a = 6) ∧ zQ 128 44 L (zfv a 1 M :: st) M Q := zq_getf (n := 86) (b := false) (by decide +kernel) (by decide +kernel)
theorem q128_44 : zQ 128 44 L st M Q ↔ zQ 128 45 L (.int 1 :: st) M Q := zq_con (n := 1) (by decide +kernel) (by decide +kernel) rfl
theorem q128_45 : zQ 128 45 L (.int y :: .int x :: st) M Q ↔ zQ 128 46 L (.int (x - y) :: st) M Q := zq_go (i := .isub) (by decide +kernel) rfl
theorem q128_46i : zQ 128 46 [v0, .int y, v2, v3, v4] (.int x :: st) M Q ↔ zQ 128 47 [v0, .int y, .int x, v3, v4] st M Q := zq_stI (i := .istore_n 2) (k := 2) (by decide +kernel) rfl (Nat.le_of_ble_eq_true rfl) rfl rfl
theorem q128_46r : zQ 128 46 [v0, .ref r1, v2, v3, v4] (.int x :: st) M Q ↔ zQ 128 47 [v0, .ref r1, .int x, v3, v4] st M Q := zq_stI (i := .istore_n 2) (k := 2) (by decide +kernel) rfl (Nat.le_of_ble_eq_true rfl) rfl rfl
theorem q128_46n : zQ 128 46 [v0, .null, v2, v3, v4] (.int x :: st) M Q ↔ zQ 128 47 [v0, .null, .int x, v3, v4] st M Q := zq_stI (i := .istore_n 2) (k := 2) (by decide +kernel) rfl (Nat.le_of_ble_eq_true rfl) rfl rfl
theorem q128_47 : zQ 128 47 [.ref a, v1, v2, v3, v4] st M Q ↔ zQ 128 48 [.ref a, v1, v2, v3, v4] (.ref a :: st) M Q := zq_go (i := .aload_n 0) (by decide +kernel) rfl
theorem q128_48 : zQ 128 48 L (.ref a :: st) M Q ↔ (a < zNC ∧ zk a = 6) ∧ zQ 128 51 L (zfv a 8 M :: st) M Q := zq_getf (n := 25) (b := false) (by decide +kernel) (by decide +kernel)
theorem q128_51 : zQ 128 51 [v0, v1, .int x, v3, v4] st M Q ↔ zQ 128 52 [v0, v1, .int x, v3, v4] (.int x :: st) M Q := zq_go (i := .iload_n 2) (by decide +kernel) rfl
theorem q128_52 : zQ 128 52 L (.int x :: .ref a :: st) M Q ↔ (a < zNC ∧ zk a = 7 ∧ zin x (zn a) = true) ∧ zQ 128 53 L (.int (M a x.toNatClampNeg) :: st) M Q := zq_iald (by decide +kernel)
theorem q128_53 : zQ 128 53 [.ref a, v1, v2, v3, v4] st M Q ↔ zQ 128 54 [.ref a, v1, v2, v3, v4] (.ref a :: st) M Q := zq_go (i := .aload_n 0) (by decide +kernel) rfl
theorem q128_54 : zQ 128 54 L (.ref a :: st) M Q ↔ (a < zNC ∧ zk a = 6) ∧ zQ 128 57 L (zfv a 8 M :: st) M Q := zq_getf (n := 25) (b := false) (by decide +kernel) (by decide +kernel)
theorem q128_57 : zQ 128 57 [v0, .int x, v2, v3, v4] st M Q ↔ zQ 128 58 [v0, .int x, v2, v3, v4] (.int x :: st) M Q := zq_go (i := .iload_n 1) (by decide +kernel) rfl
theorem q128_58 : zQ 128 58 L (.int x :: .ref a :: st) M Q ↔ (a < zNC ∧ zk a = 7 ∧ zin x (zn a) = true) ∧ zQ 128 59 L (.int (M a x.toNatClampNeg) :: st) M Q := zq_iald (by decide +kernel)
theorem q128_59 : zQ 128 59 L (.int y :: .int x :: st) M Q ↔ (y ≤ x → zQ 128 68 L st M Q) ∧ (¬ y ≤ x → zQ 128 62 L st M Q) := zq_br (i := .if_icmp .ge 9) (off := 9) (by decide +kernel) rfl (by decide) rfl
theorem q128_62i : zQ 128 62 [v0, .int y, .int x, v3, v4] st M Q ↔ zQ 128 65 [v0, .int y, .int (x + (-1)), v3, v4] st M Q := zq_inc (k := 2) (n := (-1)) (x := x) (v := (-1)) (by decide +kernel) (by decide +kernel) rfl rfl rfl rfl
theorem q128_62r : zQ 128 62 [v0, .ref r1, .int x, v3, v4] st M Q ↔ zQ 128 65 [v0, .ref r1, .int (x + (-1)), v3, v4] st M Q := zq_inc (k := 2) (n := (-1)) (x := x) (v := (-1)) (by decide +kernel) (by decide +kernel) rfl rfl rfl rfl
theorem q128_62n : zQ 128 62 [v0, .null, .int x, v3, v4] st M Q ↔ zQ 128 65 [v0, .null, .int (x + (-1)), v3, v4] st M Q := zq_inc (k := 2) (n := (-1)) (x := x) (v := (-1)) (by decide +kernel) (by decide +kernel) rfl rfl rfl rfl
theorem q128_65 : zQ 128 65 L st M Q ↔ zQ 128 47 L st M Q := zq_jmp (off := (-18)) (by decide +kernel) (by decide)
theorem q128_68 : zQ 128 68 [.ref a, v1, v2, v3, v4] st M Q ↔ zQ 128 69 [.ref a, v1, v2, v3, v4] (.ref a :: st) M Q := zq_go (i := .aload_n 0) (by decide +kernel) rfl
theorem q128_69 : zQ 128 69 [v0, .int x, v2, v3, v4] st M Q ↔ zQ 128 70 [v0, .int x, v2, v3, v4] (.int x :: st) M Q := zq_go (i := .iload_n 1) (by decide +kernel) rfl
theorem q128_70 : zQ 128 70 [v0, v1, .int x, v3, v4] st M Q ↔ zQ 128 71 [v0, v1, .int x, v3, v4] (.int x :: st) M Q := zq_go (i := .iload_n 2) (by decide +kernel) rfl
theorem q128_71 : zQ 128 71 L (.int x2 :: .int x1 :: .ref a :: st) M Q ↔ (zcs st ≤ 8 ∧ a < zNC ∧ zk a = 6) ∧ zQ 127 0 [.ref a, .int x1, .int x2, .null] [] M (fun r M1 => zQ 128 74 L (zpush r st) M1 Q) := zq_callV (n := 215) (j := 127) (b := false) (As := [.int x1, .int x2]) (by decide +kernel) (by decide +kernel) ⟨by decide +kernel, by decide +kernel, rfl, by decide +kernel, by decide +kernel, Nat.le_of_ble_eq_true rfl⟩ rfl
theorem q128_74 : zQ 128 74 [v0, .int x, v2, v3, v4] st M Q ↔ zQ 128 75 [v0, .int x, v2, v3, v4] (.int x :: st) M Q := zq_go (i := .iload_n 1) (by decide +kernel) rfl
theorem q128_75 : zQ 128 75 L st M Q ↔ zQ 128 76 L (.int 1 :: st) M Q := zq_con (n := 1) (by decide +kernel) (by decide +kernel) rfl
theorem q128_76 : zQ 128 76 L (.int y :: .int x :: st) M Q ↔ zQ 128 77 L (.int (x + y) :: st) M Q := zq_go (i := .iadd) (by decide +kernel) rfl
theorem q128_77i : zQ 128 77 [v0, v1, .int y, v3, v4] (.int x :: st) M Q ↔ zQ 128 78 [v0, v1, .int y, .int x, v4] st M Q := zq_stI (i := .istore_n 3) (k := 3) (by decide +kernel) rfl (Nat.le_of_ble_eq_true rfl) rfl rfl
theorem q128_77r : zQ 128 77 [v0, v1, .ref r1, v3, v4] (.int x :: st) M Q ↔ zQ 128 78 [v0, v1, .ref r1, .int x, v4] st M Q := zq_stI (i := .istore_n 3) (k := 3) (by decide +kernel) rfl (Nat.le_of_ble_eq_true rfl) rfl rfl
theorem q128_77n : zQ 128 77 [v0, v1, .null, v3, v4] (.int x :: st) M Q ↔ zQ 128 78 [v0, v1, .null, .int x, v4] st M Q := zq_stI (i := .istore_n 3) (k := 3) (by decide +kernel) rfl (Nat.le_of_ble_eq_true rfl) rfl rfl
theorem q128_78 : zQ 128 78 [.ref a, v1, v2, v3, v4] st M Q ↔ zQ 128 79 [.ref a, v1, v2, v3, v4] (.ref a :: st) M Q := zq_go (i := .aload_n 0) (by decide +kernel) rfl
theorem q128_79 : zQ 128 79 L (.ref a :: st) M Q ↔ (a < zNC ∧ zk a = 6) ∧ zQ 128 82 L (zfv a 1 M :: st) M Q := zq_getf (n := 86) (b := false) (by decide +kernel) (by decide +kernel)
theorem q128_82 : zQ 128 82 L st M Q ↔ zQ 128 83 L (.int 1 :: st) M Q := zq_con (n := 1) (by decide +kernel) (by decide +kernel) rfl
theorem q128_83 : zQ 128 83 L (.int y :: .int x :: st) M Q ↔ zQ 128 84 L (.int (x - y) :: st) M Q := zq_go (i := .isub) (by decide +kernel) rfl
theorem q128_84i : zQ 128 84 [v0, v1, v2, .int y, v4] (.int x :: st) M Q ↔ zQ 128 86 [v0, v1, v2, .int y, .int x] st M Q := zq_stI (i := .istore 4) (k := 4) (by decide +kernel) rfl (Nat.le_of_ble_eq_true rfl) rfl rfl
theorem q128_84r : zQ 128 84 [v0, v1, v2, .ref r1, v4] (.int x :: st) M Q ↔ zQ 128 86 [v0, v1, v2, .ref r1, .int x] st M Q := zq_stI (i := .istore 4) (k := 4) (by decide +kernel) rfl (Nat.le_of_ble_eq_true rfl) rfl rfl
theorem q128_84n : zQ 128 84 [v0, v1, v2, .null, v4] (.int x :: st) M Q ↔ zQ 128 86 [v0, v1, v2, .null, .int x] st M Q := zq_stI (i := .istore 4) (k := 4) (by decide +kernel) rfl (Nat.le_of_ble_eq_true rfl) rfl rfl
theorem q128_86 : zQ 128 86 [v0, v1, v2, v3, .int x] st M Q ↔ zQ 128 88 [v0, v1, v2, v3, .int x] (.int x :: st) M Q := zq_go (i := .iload 4) (by decide +kernel) rfl
theorem q128_88 : zQ 128 88 [v0, v1, v2, .int x, v4] st M Q ↔ zQ 128 89 [v0, v1, v2, .int x, v4] (.int x :: st) M Q := zq_go (i := .iload_n 3) (by decide +kernel) rfl
theorem q128_89 : zQ 128 89 L (.int y :: .int x :: st) M Q ↔ (x ≤ y → zQ 128 108 L st M Q) ∧ (¬ x ≤ y → zQ 128 92 L st M Q) := zq_br (i := .if_icmp .le 19) (off := 19) (by decide +kernel) rfl (by decide) rfl
theorem q128_92 : zQ 128 92 [.ref a, v1, v2, v3, v4] st M Q ↔ zQ 128 93 [.ref a, v1, v2, v3, v4] (.ref a :: st) M Q := zq_go (i := .aload_n 0) (by decide +kernel) rfl
theorem q128_93 : zQ 128 93 [v0, v1, v2, .int x, v4] st M Q ↔ zQ 128 94 [v0, v1, v2, .int x, v4] (.int x :: st) M Q := zq_go (i := .iload_n 3) (by decide +kernel) rfl
theorem q128_94 : zQ 128 94 [v0, v1, v2, v3, .int x] st M Q ↔ zQ 128 96 [v0, v1, v2, v3, .int x] (.int x :: st) M Q := zq_go (i := .iload 4) (by decide +kernel) rfl
theorem q128_96 : zQ 128 96 L (.int x2 :: .int x1 :: .ref a :: st) M Q ↔ (zcs st ≤ 8 ∧ a < zNC ∧ zk a = 6) ∧ zQ 127 0 [.ref a, .int x1, .int x2, .null] [] M (fun r M1 => zQ 128 99 L (zpush r st) M1 Q) := zq_callV (n := 215) (j := 127) (b := false) (As := [.int x1, .int x2]) (by decide +kernel) (by decide +kernel) ⟨by decide +kernel, by decide +kernel, rfl, by decide +kernel, by decide +kernel, Nat.le_of_ble_eq_true rfl⟩ rfl
theorem q128_99i : zQ 128 99 [v0, v1, .int y, .int x, v4] st M Q ↔ zQ 128 102 [v0, v1, .int y, .int (x + 1), v4] st M Q := zq_inc (k := 3) (n := 1) (x := x) (v := 1) (by decide +kernel) (by decide +kernel) rfl rfl rfl rfl
theorem q128_99r : zQ 128 99 [v0, v1, .ref r1, .int x, v4] st M Q ↔ zQ 128 102 [v0, v1, .ref r1, .int (x + 1), v4] st M Q := zq_inc (k := 3) (n := 1) (x := x) (v := 1) (by decide +kernel) (by decide +kernel) rfl rfl rfl rfl
theorem q128_99n : zQ 128 99 [v0, v1, .null, .int x, v4] st M Q ↔ zQ 128 102 [v0, v1, .null, .int (x + 1), v4] st M Q := zq_inc (k := 3) (n := 1) (x := x) (v := 1) (by decide +kernel) (by decide +kernel) rfl rfl rfl rfl
theorem q128_102i : zQ 128 102 [v0, v1, v2, .int y, .int x] st M Q ↔ zQ 128 105 [v0, v1, v2, .int y, .int (x + (-1))] st M Q := zq_inc (k := 4) (n := (-1)) (x := x) (v := (-1)) (by decide +kernel) (by decide +kernel) rfl rfl rfl rfl
theorem q128_102r : zQ 128 102 [v0, v1, v2, .ref r1, .int x] st M Q ↔ zQ 128 105 [v0, v1, v2, .ref r1, .int (x + (-1))] st M Q := zq_inc (k := 4) (n := (-1)) (x := x) (v := (-1)) (by decide +kernel) (by decide +kernel) rfl rfl rfl rfl
theorem q128_102n : zQ 128 102 [v0, v1, v2, .null, .int x] st M Q ↔ zQ 128 105 [v0, v1, v2, .null, .int (x + (-1))] st M Q := zq_inc (k := 4) (n := (-1)) (x := x) (v := (-1)) (by decide +kernel) (by decide +kernel) rfl rfl rfl rfl
theorem q128_105 : zQ 128 105 L st M Q ↔ zQ 128 86 L st M Q := zq_jmp (off := (-19)) (by decide +kernel) (by decide)
theorem q128_108 : zQ 128 108 L st M Q ↔ zQ 128 109 L (.int 1 :: st) M Q := zq_con (n := 1) (by decide +kernel) (by decide +kernel) rfl
theorem q128_109 : zQ 128 109 L [.int x] M Q ↔ (x = 0 ∨ x = 1) ∧ Q (zI x) M := zq_reZ (by decide +kernel) (by decide +kernel)
-- 129 SandKeepersModel.bestLives()I
theorem q129_0 : zQ 129 0 L st M Q ↔ zQ 129 1 L (.int 0 :: st) M Q := zq_con (n := 0) (by decide +kernel) (by decide +kernel) rfl
theorem q129_1i : zQ 129 1 [.int y, v1, v2, v3, v4] (.int x :: st) M Q ↔ zQ 129 2 [.int y, .int x, v2, v3, v4] st M Q := zq_stI (i := .istore_n 1) (k := 1) (by decide +kernel) rfl (Nat.le_of_ble_eq_true rfl) rfl rfl
theorem q129_1r : zQ 129 1 [.ref r1, v1, v2, v3, v4] (.int x :: st) M Q ↔ zQ 129 2 [.ref r1, .int x, v2, v3, v4] st M Q := zq_stI (i := .istore_n 1) (k := 1) (by decide +kernel) rfl (Nat.le_of_ble_eq_true rfl) rfl rfl
theorem q129_1n : zQ 129 1 [.null, v1, v2, v3, v4] (.int x :: st) M Q ↔ zQ 129 2 [.null, .int x, v2, v3, v4] st M Q := zq_stI (i := .istore_n 1) (k := 1) (by decide +kernel) rfl (Nat.le_of_ble_eq_true rfl) rfl rfl
theorem q129_2 : zQ 129 2 [v0, .int x, v2, v3, v4] st M Q ↔ zQ 129 3 [v0, .int x, v2, v3, v4] (.int x :: st) M Q := zq_go (i := .iload_n 1) (by decide +kernel) rfl
theorem q129_3 : zQ 129 3 [.ref a, v1, v2, v3, v4] st M Q ↔ zQ 129 4 [.ref a, v1, v2, v3, v4] (.ref a :: st) M Q := zq_go (i := .aload_n 0) (by decide +kernel) rfl
theorem q129_4 : zQ 129 4 L (.ref a :: st) M Q ↔ (a < zNC ∧ zk a = 6) ∧ zQ 129 7 L (zfv a 1 M :: st) M Q := zq_getf (n := 86) (b := false) (by decide +kernel) (by decide +kernel)
theorem q129_7 : zQ 129 7 L (.int y :: .int x :: st) M Q ↔ (y ≤ x → zQ 129 35 L st M Q) ∧ (¬ y ≤ x → zQ 129 10 L st M Q) := zq_br (i := .if_icmp .ge 28) (off := 28) (by decide +kernel) rfl (by decide) rfl
theorem q129_10 : zQ 129 10 [.ref a, v1, v2, v3, v4] st M Q ↔ zQ 129 11 [.ref a, v1, v2, v3, v4] (.ref a :: st) M Q := zq_go (i := .aload_n 0) (by decide +kernel) rfl
theorem q129_11 : zQ 129 11 L (.ref a :: st) M Q ↔ (a < zNC ∧ zk a = 6) ∧ zQ 129 14 L (zfv a 21 M :: st) M Q := zq_getf (n := 49) (b := false) (by decide +kernel) (by decide +kernel)
theorem q129_14 : zQ 129 14 [v0, .int x, v2, v3, v4] st M Q ↔ zQ 129 15 [v0, .int x, v2, v3, v4] (.int x :: st) M Q := zq_go (i := .iload_n 1) (by decide +kernel) rfl
theorem q129_15 : zQ 129 15 [.ref a, v1, v2, v3, v4] st M Q ↔ zQ 129 16 [.ref a, v1, v2, v3, v4] (.ref a :: st) M Q := zq_go (i := .aload_n 0) (by decide +kernel) rfl
theorem q129_16 : zQ 129 16 L (.ref a :: st) M Q ↔ (a < zNC ∧ zk a = 6) ∧ zQ 129 19 L (zfv a 8 M :: st) M Q := zq_getf (n := 25) (b := false) (by decide +kernel) (by decide +kernel)
theorem q129_19 : zQ 129 19 [v0, .int x, v2, v3, v4] st M Q ↔ zQ 129 20 [v0, .int x, v2, v3, v4] (.int x :: st) M Q := zq_go (i := .iload_n 1) (by decide +kernel) rfl
theorem q129_20 : zQ 129 20 L (.int x :: .ref a :: st) M Q ↔ (a < zNC ∧ zk a = 7 ∧ zin x (zn a) = true) ∧ zQ 129 21 L (.int (M a x.toNatClampNeg) :: st) M Q := zq_iald (by decide +kernel)
theorem q129_21 : zQ 129 21 L (.int x :: .int y :: .ref a :: st) M Q ↔ (a < zNC ∧ zk a = 7 ∧ zin y (zn a) = true) ∧ zQ 129 22 L st (zup M a y.toNatClampNeg x) Q := zq_iast (by decide +kernel)
theorem q129_22 : zQ 129 22 [.ref a, v1, v2, v3, v4] st M Q ↔ zQ 129 23 [.ref a, v1, v2, v3, v4] (.ref a :: st) M Q := zq_go (i := .aload_n 0) (by decide +kernel) rfl
theorem q129_23 : zQ 129 23 L (.ref a :: st) M Q ↔ (a < zNC ∧ zk a = 6) ∧ zQ 129 26 L (zfv a 8 M :: st) M Q := zq_getf (n := 25) (b := false) (by decide +kernel) (by decide +kernel)
theorem q129_26 : zQ 129 26 [v0, .int x, v2, v3, v4] st M Q ↔ zQ 129 27 [v0, .int x, v2, v3, v4] (.int x :: st) M Q := zq_go (i := .iload_n 1) (by decide +kernel) rfl
theorem q129_27 : zQ 129 27 [v0, .int x, v2, v3, v4] st M Q ↔ zQ 129 28 [v0, .int x, v2, v3, v4] (.int x :: st) M Q := zq_go (i := .iload_n 1) (by decide +kernel) rfl
theorem q129_28 : zQ 129 28 L (.int x :: .int y :: .ref a :: st) M Q ↔ (a < zNC ∧ zk a = 7 ∧ zin y (zn a) = true) ∧ zQ 129 29 L st (zup M a y.toNatClampNeg x) Q := zq_iast (by decide +kernel)
theorem q129_29i : zQ 129 29 [.int y, .int x, v2, v3, v4] st M Q ↔ zQ 129 32 [.int y, .int (x + 1), v2, v3, v4] st M Q := zq_inc (k := 1) (n := 1) (x := x) (v := 1) (by decide +kernel) (by decide +kernel) rfl rfl rfl rfl
theorem q129_29r : zQ 129 29 [.ref r1, .int x, v2, v3, v4] st M Q ↔ zQ 129 32 [.ref r1, .int (x + 1), v2, v3, v4] st M Q := zq_inc (k := 1) (n := 1) (x := x) (v := 1) (by decide +kernel) (by decide +kernel) rfl rfl rfl rfl
theorem q129_29n : zQ 129 29 [.null, .int x, v2, v3, v4] st M Q ↔ zQ 129 32 [.null, .int (x + 1), v2, v3, v4] st M Q := zq_inc (k := 1) (n := 1) (x := x) (v := 1) (by decide +kernel) (by decide +kernel) rfl rfl rfl rfl
theorem q129_32 : zQ 129 32 L st M Q ↔ zQ 129 2 L st M Q := zq_jmp (off := (-30)) (by decide +kernel) (by decide)
theorem q129_35 : zQ 129 35 L st M Q ↔ zQ 129 37 L (.int (-9) :: st) M Q := zq_bip (n := (-9)) (by decide +kernel) (by decide +kernel) rfl
theorem q129_37i : zQ 129 37 [.int y, v1, v2, v3, v4] (.int x :: st) M Q ↔ zQ 129 38 [.int y, .int x, v2, v3, v4] st M Q := zq_stI (i := .istore_n 1) (k := 1) (by decide +kernel) rfl (Nat.le_of_ble_eq_true rfl) rfl rfl
theorem q129_37r : zQ 129 37 [.ref r1, v1, v2, v3, v4] (.int x :: st) M Q ↔ zQ 129 38 [.ref r1, .int x, v2, v3, v4] st M Q := zq_stI (i := .istore_n 1) (k := 1) (by decide +kernel) rfl (Nat.le_of_ble_eq_true rfl) rfl rfl
theorem q129_37n : zQ 129 37 [.null, v1, v2, v3, v4] (.int x :: st) M Q ↔ zQ 129 38 [.null, .int x, v2, v3, v4] st M Q := zq_stI (i := .istore_n 1) (k := 1) (by decide +kernel) rfl (Nat.le_of_ble_eq_true rfl) rfl rfl
theorem q129_38 : zQ 129 38 L st M Q ↔ zQ 129 39 L (.int 1 :: st) M Q := zq_con (n := 1) (by decide +kernel) (by decide +kernel) rfl
theorem q129_39i : zQ 129 39 [v0, .int y, v2, v3, v4] (.int x :: st) M Q ↔ zQ 129 40 [v0, .int y, .int x, v3, v4] st M Q := zq_stI (i := .istore_n 2) (k := 2) (by decide +kernel) rfl (Nat.le_of_ble_eq_true rfl) rfl rfl
theorem q129_39r : zQ 129 39 [v0, .ref r1, v2, v3, v4] (.int x :: st) M Q ↔ zQ 129 40 [v0, .ref r1, .int x, v3, v4] st M Q := zq_stI (i := .istore_n 2) (k := 2) (by decide +kernel) rfl (Nat.le_of_ble_eq_true rfl) rfl rfl
theorem q129_39n : zQ 129 39 [v0, .null, v2, v3, v4] (.int x :: st) M Q ↔ zQ 129 40 [v0, .null, .int x, v3, v4] st M Q := zq_stI (i := .istore_n 2) (k := 2) (by decide +kernel) rfl (Nat.le_of_ble_eq_true rfl) rfl rfl
theorem q129_40 : zQ 129 40 [v0, v1, .int x, v3, v4] st M Q ↔ zQ 129 41 [v0, v1, .int x, v3, v4] (.int x :: st) M Q := zq_go (i := .iload_n 2) (by decide +kernel) rfl
theorem q129_41 : zQ 129 41 L (.int x :: st) M Q ↔ (x = 0 → zQ 129 127 L st M Q) ∧ (¬ x = 0 → zQ 129 44 L st M Q) := zq_br (i := .ifCond .eq 86) (off := 86) (by decide +kernel) rfl (by decide) rfl
theorem q129_44 : zQ 129 44 [.ref a, v1, v2, v3, v4] st M Q ↔ zQ 129 45 [.ref a, v1, v2, v3, v4] (.ref a :: st) M Q := zq_go (i := .aload_n 0) (by decide +kernel) rfl
theorem q129_45 : zQ 129 45 L (.ref a :: st) M Q ↔ (zcs st ≤ 8 ∧ a < zNC ∧ zk a = 6) ∧ zQ 126 0 [.ref a, .null, .null] [] M (fun r M1 => zQ 129 48 L (zpush r st) M1 Q) := zq_callV (n := 219) (j := 126) (b := false) (As := []) (by decide +kernel) (by decide +kernel) ⟨by decide +kernel, by decide +kernel, rfl, by decide +kernel, by decide +kernel, Nat.le_of_ble_eq_true rfl⟩ rfl
theorem q129_48 : zQ 129 48 L (.int x :: st) M Q ↔ (x = 0 → zQ 129 58 L st M Q) ∧ (¬ x = 0 → zQ 129 51 L st M Q) := zq_br (i := .ifCond .eq 10) (off := 10) (by decide +kernel) rfl (by decide) rfl
theorem q129_51 : zQ 129 51 [.ref a, v1, v2, v3, v4] st M Q ↔ zQ 129 52 [.ref a, v1, v2, v3, v4] (.ref a :: st) M Q := zq_go (i := .aload_n 0) (by decide +kernel) rfl
theorem q129_52 : zQ 129 52 L (.ref a :: st) M Q ↔ (zcs st ≤ 8 ∧ a < zNC ∧ zk a = 6) ∧ zQ 125 0 [.ref a, .null, .null] [] M (fun r M1 => zQ 129 55 L (zpush r st) M1 Q) := zq_callV (n := 223) (j := 125) (b := false) (As := []) (by decide +kernel) (by decide +kernel) ⟨by decide +kernel, by decide +kernel, rfl, by decide +kernel, by decide +kernel, Nat.le_of_ble_eq_true rfl⟩ rfl
theorem q129_55 : zQ 129 55 L st M Q ↔ zQ 129 60 L st M Q := zq_jmp (off := 5) (by decide +kernel) (by decide)
theorem q129_58 : zQ 129 58 L st M Q ↔ zQ 129 60 L (.int (-9) :: st) M Q := zq_bip (n := (-9)) (by decide +kernel) (by decide +kernel) rfl
theorem q129_60i : zQ 129 60 [v0, v1, .int y, v3, v4] (.int x :: st) M Q ↔ zQ 129 61 [v0, v1, .int y, .int x, v4] st M Q := zq_stI (i := .istore_n 3) (k := 3) (by decide +kernel) rfl (Nat.le_of_ble_eq_true rfl) rfl rfl
theorem q129_60r : zQ 129 60 [v0, v1, .ref r1, v3, v4] (.int x :: st) M Q ↔ zQ 129 61 [v0, v1, .ref r1, .int x, v4] st M Q := zq_stI (i := .istore_n 3) (k := 3) (by decide +kernel) rfl (Nat.le_of_ble_eq_true rfl) rfl rfl
theorem q129_60n : zQ 129 60 [v0, v1, .null, v3, v4] (.int x :: st) M Q ↔ zQ 129 61 [v0, v1, .null, .int x, v4] st M Q := zq_stI (i := .istore_n 3) (k := 3) (by decide +kernel) rfl (Nat.le_of_ble_eq_true rfl) rfl rfl
theorem q129_61 : zQ 129 61 L st M Q ↔ zQ 129 62 L (.int 0 :: st) M Q := zq_con (n := 0) (by decide +kernel) (by decide +kernel) rfl
theorem q129_62i : zQ 129 62 [v0, v1, v2, .int y, v4] (.int x :: st) M Q ↔ zQ 129 64 [v0, v1, v2, .int y, .int x] st M Q := zq_stI (i := .istore 4) (k := 4) (by decide +kernel) rfl (Nat.le_of_ble_eq_true rfl) rfl rfl
theorem q129_62r : zQ 129 62 [v0, v1, v2, .ref r1, v4] (.int x :: st) M Q ↔ zQ 129 64 [v0, v1, v2, .ref r1, .int x] st M Q := zq_stI (i := .istore 4) (k := 4) (by decide +kernel) rfl (Nat.le_of_ble_eq_true rfl) rfl rfl
theorem q129_62n : zQ 129 62 [v0, v1, v2, .null, v4] (.int x :: st) M Q ↔ zQ 129 64 [v0, v1, v2, .null, .int x] st M Q := zq_stI (i := .istore 4) (k := 4) (by decide +kernel) rfl (Nat.le_of_ble_eq_true rfl) rfl rfl
theorem q129_64 : zQ 129 64 [v0, v1, v2, v3, .int x] st M Q ↔ zQ 129 66 [v0, v1, v2, v3, .int x] (.int x :: st) M Q := zq_go (i := .iload 4) (by decide +kernel) rfl
theorem q129_66 : zQ 129 66 [.ref a, v1, v2, v3, v4] st M Q ↔ zQ 129 67 [.ref a, v1, v2, v3, v4] (.ref a :: st) M Q := zq_go (i := .aload_n 0) (by decide +kernel) rfl
theorem q129_67 : zQ 129 67 L (.ref a :: st) M Q ↔ (a < zNC ∧ zk a = 6) ∧ zQ 129 70 L (zfv a 1 M :: st) M Q := zq_getf (n := 86) (b := false) (by decide +kernel) (by decide +kernel)
theorem q129_70 : zQ 129 70 L (.int y :: .int x :: st) M Q ↔ (y ≤ x → zQ 129 108 L st M Q) ∧ (¬ y ≤ x → zQ 129 73 L st M Q) := zq_br (i := .if_icmp .ge 38) (off := 38) (by decide +kernel) rfl (by decide) rfl
theorem q129_73 : zQ 129 73 [.ref a, v1, v2, v3, v4] st M Q ↔ zQ 129 74 [.ref a, v1, v2, v3, v4] (.ref a :: st) M Q := zq_go (i := .aload_n 0) (by decide +kernel) rfl
theorem q129_74 : zQ 129 74 L (.ref a :: st) M Q ↔ (a < zNC ∧ zk a = 6) ∧ zQ 129 77 L (zfv a 22 M :: st) M Q := zq_getf (n := 52) (b := false) (by decide +kernel) (by decide +kernel)
theorem q129_77 : zQ 129 77 [v0, v1, v2, v3, .int x] st M Q ↔ zQ 129 79 [v0, v1, v2, v3, .int x] (.int x :: st) M Q := zq_go (i := .iload 4) (by decide +kernel) rfl
theorem q129_79 : zQ 129 79 [v0, v1, v2, .int x, v4] st M Q ↔ zQ 129 80 [v0, v1, v2, .int x, v4] (.int x :: st) M Q := zq_go (i := .iload_n 3) (by decide +kernel) rfl
theorem q129_80 : zQ 129 80 [v0, .int x, v2, v3, v4] st M Q ↔ zQ 129 81 [v0, .int x, v2, v3, v4] (.int x :: st) M Q := zq_go (i := .iload_n 1) (by decide +kernel) rfl
theorem q129_81 : zQ 129 81 L (.int y :: .int x :: st) M Q ↔ (x ≤ y → zQ 129 94 L st M Q) ∧ (¬ x ≤ y → zQ 129 84 L st M Q) := zq_br (i := .if_icmp .le 13) (off := 13) (by decide +kernel) rfl (by decide) rfl
theorem q129_84 : zQ 129 84 [.ref a, v1, v2, v3, v4] st M Q ↔ zQ 129 85 [.ref a, v1, v2, v3, v4] (.ref a :: st) M Q := zq_go (i := .aload_n 0) (by decide +kernel) rfl
theorem q129_85 : zQ 129 85 L (.ref a :: st) M Q ↔ (a < zNC ∧ zk a = 6) ∧ zQ 129 88 L (zfv a 8 M :: st) M Q := zq_getf (n := 25) (b := false) (by decide +kernel) (by decide +kernel)
theorem q129_88 : zQ 129 88 [v0, v1, v2, v3, .int x] st M Q ↔ zQ 129 90 [v0, v1, v2, v3, .int x] (.int x :: st) M Q := zq_go (i := .iload 4) (by decide +kernel) rfl
theorem q129_90 : zQ 129 90 L (.int x :: .ref a :: st) M Q ↔ (a < zNC ∧ zk a = 7 ∧ zin x (zn a) = true) ∧ zQ 129 91 L (.int (M a x.toNatClampNeg) :: st) M Q := zq_iald (by decide +kernel)
theorem q129_91 : zQ 129 91 L st M Q ↔ zQ 129 101 L st M Q := zq_jmp (off := 10) (by decide +kernel) (by decide)
theorem q129_94 : zQ 129 94 [.ref a, v1, v2, v3, v4] st M Q ↔ zQ 129 95 [.ref a, v1, v2, v3, v4] (.ref a :: st) M Q := zq_go (i := .aload_n 0) (by decide +kernel) rfl
theorem q129_95 : zQ 129 95 L (.ref a :: st) M Q ↔ (a < zNC ∧ zk a = 6) ∧ zQ 129 98 L (zfv a 22 M :: st) M Q := zq_getf (n := 52) (b := false) (by decide +kernel) (by decide +kernel)
theorem q129_98 : zQ 129 98 [v0, v1, v2, v3, .int x] st M Q ↔ zQ 129 100 [v0, v1, v2, v3, .int x] (.int x :: st) M Q := zq_go (i := .iload 4) (by decide +kernel) rfl
theorem q129_100 : zQ 129 100 L (.int x :: .ref a :: st) M Q ↔ (a < zNC ∧ zk a = 7 ∧ zin x (zn a) = true) ∧ zQ 129 101 L (.int (M a x.toNatClampNeg) :: st) M Q := zq_iald (by decide +kernel)
theorem q129_101 : zQ 129 101 L (.int x :: .int y :: .ref a :: st) M Q ↔ (a < zNC ∧ zk a = 7 ∧ zin y (zn a) = true) ∧ zQ 129 102 L st (zup M a y.toNatClampNeg x) Q := zq_iast (by decide +kernel)
theorem q129_102i : zQ 129 102 [v0, v1, v2, .int y, .int x] st M Q ↔ zQ 129 105 [v0, v1, v2, .int y, .int (x + 1)] st M Q := zq_inc (k := 4) (n := 1) (x := x) (v := 1) (by decide +kernel) (by decide +kernel) rfl rfl rfl rfl
theorem q129_102r : zQ 129 102 [v0, v1, v2, .ref r1, .int x] st M Q ↔ zQ 129 105 [v0, v1, v2, .ref r1, .int (x + 1)] st M Q := zq_inc (k := 4) (n := 1) (x := x) (v := 1) (by decide +kernel) (by decide +kernel) rfl rfl rfl rfl
theorem q129_102n : zQ 129 102 [v0, v1, v2, .null, .int x] st M Q ↔ zQ 129 105 [v0, v1, v2, .null, .int (x + 1)] st M Q := zq_inc (k := 4) (n := 1) (x := x) (v := 1) (by decide +kernel) (by decide +kernel) rfl rfl rfl rfl
theorem q129_105 : zQ 129 105 L st M Q ↔ zQ 129 64 L st M Q := zq_jmp (off := (-41)) (by decide +kernel) (by decide)
theorem q129_108 : zQ 129 108 [v0, v1, v2, .int x, v4] st M Q ↔ zQ 129 109 [v0, v1, v2, .int x, v4] (.int x :: st) M Q := zq_go (i := .iload_n 3) (by decide +kernel) rfl
theorem q129_109 : zQ 129 109 [v0, .int x, v2, v3, v4] st M Q ↔ zQ 129 110 [v0, .int x, v2, v3, v4] (.int x :: st) M Q := zq_go (i := .iload_n 1) (by decide +kernel) rfl
theorem q129_110 : zQ 129 110 L (.int y :: .int x :: st) M Q ↔ (x ≤ y → zQ 129 117 L st M Q) ∧ (¬ x ≤ y → zQ 129 113 L st M Q) := zq_br (i := .if_icmp .le 7) (off := 7) (by decide +kernel) rfl (by decide) rfl
theorem q129_113 : zQ 129 113 [v0, v1, v2, .int x, v4] st M Q ↔ zQ 129 114 [v0, v1, v2, .int x, v4] (.int x :: st) M Q := zq_go (i := .iload_n 3) (by decide +kernel) rfl
theorem q129_114 : zQ 129 114 L st M Q ↔ zQ 129 118 L st M Q := zq_jmp (off := 4) (by decide +kernel) (by decide)
theorem q129_117 : zQ 129 117 [v0, .int x, v2, v3, v4] st M Q ↔ zQ 129 118 [v0, .int x, v2, v3, v4] (.int x :: st) M Q := zq_go (i := .iload_n 1) (by decide +kernel) rfl
theorem q129_118i : zQ 129 118 [.int y, v1, v2, v3, v4] (.int x :: st) M Q ↔ zQ 129 119 [.int y, .int x, v2, v3, v4] st M Q := zq_stI (i := .istore_n 1) (k := 1) (by decide +kernel) rfl (Nat.le_of_ble_eq_true rfl) rfl rfl
theorem q129_118r : zQ 129 118 [.ref r1, v1, v2, v3, v4] (.int x :: st) M Q ↔ zQ 129 119 [.ref r1, .int x, v2, v3, v4] st M Q := zq_stI (i := .istore_n 1) (k := 1) (by decide +kernel) rfl (Nat.le_of_ble_eq_true rfl) rfl rfl
theorem q129_118n : zQ 129 118 [.null, v1, v2, v3, v4] (.int x :: st) M Q ↔ zQ 129 119 [.null, .int x, v2, v3, v4] st M Q := zq_stI (i := .istore_n 1) (k := 1) (by decide +kernel) rfl (Nat.le_of_ble_eq_true rfl) rfl rfl
theorem q129_119 : zQ 129 119 [.ref a, v1, v2, v3, v4] st M Q ↔ zQ 129 120 [.ref a, v1, v2, v3, v4] (.ref a :: st) M Q := zq_go (i := .aload_n 0) (by decide +kernel) rfl
theorem q129_120 : zQ 129 120 L (.ref a :: st) M Q ↔ (zcs st ≤ 8 ∧ a < zNC ∧ zk a = 6) ∧ zQ 128 0 [.ref a, .null, .null, .null, .null] [] M (fun r M1 => zQ 129 123 L (zpush r st) M1 Q) := zq_callV (n := 226) (j := 128) (b := false) (As := []) (by decide +kernel) (by decide +kernel) ⟨by decide +kernel, by decide +kernel, rfl, by decide +kernel, by decide +kernel, Nat.le_of_ble_eq_true rfl⟩ rfl
theorem q129_123i : zQ 129 123 [v0, .int y, v2, v3, v4] (.int x :: st) M Q ↔ zQ 129 124 [v0, .int y, .int x, v3, v4] st M Q := zq_stI (i := .istore_n 2) (k := 2) (by decide +kernel) rfl (Nat.le_of_ble_eq_true rfl) rfl rfl
theorem q129_123r : zQ 129 123 [v0, .ref r1, v2, v3, v4] (.int x :: st) M Q ↔ zQ 129 124 [v0, .ref r1, .int x, v3, v4] st M Q := zq_stI (i := .istore_n 2) (k := 2) (by decide +kernel) rfl (Nat.le_of_ble_eq_true rfl) rfl rfl
theorem q129_123n : zQ 129 123 [v0, .null, v2, v3, v4] (.int x :: st) M Q ↔ zQ 129 124 [v0, .null, .int x, v3, v4] st M Q := zq_stI (i := .istore_n 2) (k := 2) (by decide +kernel) rfl (Nat.le_of_ble_eq_true rfl) rfl rfl
theorem q129_124 : zQ 129 124 L st M Q ↔ zQ 129 40 L st M Q := zq_jmp (off := (-84)) (by decide +kernel) (by decide)
theorem q129_127 : zQ 129 127 L st M Q ↔ zQ 129 128 L (.int 0 :: st) M Q := zq_con (n := 0) (by decide +kernel) (by decide +kernel) rfl
theorem q129_128i : zQ 129 128 [v0, v1, .int y, v3, v4] (.int x :: st) M Q ↔ zQ 129 129 [v0, v1, .int y, .int x, v4] st M Q := zq_stI (i := .istore_n 3) (k := 3) (by decide +kernel) rfl (Nat.le_of_ble_eq_true rfl) rfl rfl
theorem q129_128r : zQ 129 128 [v0, v1, .ref r1, v3, v4] (.int x :: st) M Q ↔ zQ 129 129 [v0, v1, .ref r1, .int x, v4] st M Q := zq_stI (i := .istore_n 3) (k := 3) (by decide +kernel) rfl (Nat.le_of_ble_eq_true rfl) rfl rfl
theorem q129_128n : zQ 129 128 [v0, v1, .null, v3, v4] (.int x :: st) M Q ↔ zQ 129 129 [v0, v1, .null, .int x, v4] st M Q := zq_stI (i := .istore_n 3) (k := 3) (by decide +kernel) rfl (Nat.le_of_ble_eq_true rfl) rfl rfl
theorem q129_129 : zQ 129 129 [v0, v1, v2, .int x, v4] st M Q ↔ zQ 129 130 [v0, v1, v2, .int x, v4] (.int x :: st) M Q := zq_go (i := .iload_n 3) (by decide +kernel) rfl
theorem q129_130 : zQ 129 130 [.ref a, v1, v2, v3, v4] st M Q ↔ zQ 129 131 [.ref a, v1, v2, v3, v4] (.ref a :: st) M Q := zq_go (i := .aload_n 0) (by decide +kernel) rfl
theorem q129_131 : zQ 129 131 L (.ref a :: st) M Q ↔ (a < zNC ∧ zk a = 6) ∧ zQ 129 134 L (zfv a 1 M :: st) M Q := zq_getf (n := 86) (b := false) (by decide +kernel) (by decide +kernel)
theorem q129_134 : zQ 129 134 L (.int y :: .int x :: st) M Q ↔ (y ≤ x → zQ 129 155 L st M Q) ∧ (¬ y ≤ x → zQ 129 137 L st M Q) := zq_br (i := .if_icmp .ge 21) (off := 21) (by decide +kernel) rfl (by decide) rfl
theorem q129_137 : zQ 129 137 [.ref a, v1, v2, v3, v4] st M Q ↔ zQ 129 138 [.ref a, v1, v2, v3, v4] (.ref a :: st) M Q := zq_go (i := .aload_n 0) (by decide +kernel) rfl
theorem q129_138 : zQ 129 138 L (.ref a :: st) M Q ↔ (a < zNC ∧ zk a = 6) ∧ zQ 129 141 L (zfv a 8 M :: st) M Q := zq_getf (n := 25) (b := false) (by decide +kernel) (by decide +kernel)
theorem q129_141 : zQ 129 141 [v0, v1, v2, .int x, v4] st M Q ↔ zQ 129 142 [v0, v1, v2, .int x, v4] (.int x :: st) M Q := zq_go (i := .iload_n 3) (by decide +kernel) rfl
theorem q129_142 : zQ 129 142 [.ref a, v1, v2, v3, v4] st M Q ↔ zQ 129 143 [.ref a, v1, v2, v3, v4] (.ref a :: st) M Q := zq_go (i := .aload_n 0) (by decide +kernel) rfl
theorem q129_143 : zQ 129 143 L (.ref a :: st) M Q ↔ (a < zNC ∧ zk a = 6) ∧ zQ 129 146 L (zfv a 21 M :: st) M Q := zq_getf (n := 49) (b := false) (by decide +kernel) (by decide +kernel)
theorem q129_146 : zQ 129 146 [v0, v1, v2, .int x, v4] st M Q ↔ zQ 129 147 [v0, v1, v2, .int x, v4] (.int x :: st) M Q := zq_go (i := .iload_n 3) (by decide +kernel) rfl
theorem q129_147 : zQ 129 147 L (.int x :: .ref a :: st) M Q ↔ (a < zNC ∧ zk a = 7 ∧ zin x (zn a) = true) ∧ zQ 129 148 L (.int (M a x.toNatClampNeg) :: st) M Q := zq_iald (by decide +kernel)
theorem q129_148 : zQ 129 148 L (.int x :: .int y :: .ref a :: st) M Q ↔ (a < zNC ∧ zk a = 7 ∧ zin y (zn a) = true) ∧ zQ 129 149 L st (zup M a y.toNatClampNeg x) Q := zq_iast (by decide +kernel)
theorem q129_149i : zQ 129 149 [v0, v1, .int y, .int x, v4] st M Q ↔ zQ 129 152 [v0, v1, .int y, .int (x + 1), v4] st M Q := zq_inc (k := 3) (n := 1) (x := x) (v := 1) (by decide +kernel) (by decide +kernel) rfl rfl rfl rfl
theorem q129_149r : zQ 129 149 [v0, v1, .ref r1, .int x, v4] st M Q ↔ zQ 129 152 [v0, v1, .ref r1, .int (x + 1), v4] st M Q := zq_inc (k := 3) (n := 1) (x := x) (v := 1) (by decide +kernel) (by decide +kernel) rfl rfl rfl rfl
theorem q129_149n : zQ 129 149 [v0, v1, .null, .int x, v4] st M Q ↔ zQ 129 152 [v0, v1, .null, .int (x + 1), v4] st M Q := zq_inc (k := 3) (n := 1) (x := x) (v := 1) (by decide +kernel) (by decide +kernel) rfl rfl rfl rfl
theorem q129_152 : zQ 129 152 L st M Q ↔ zQ 129 129 L st M Q := zq_jmp (off := (-23)) (by decide +kernel) (by decide)
theorem q129_155 : zQ 129 155 [v0, .int x, v2, v3, v4] st M Q ↔ zQ 129 156 [v0, .int x, v2, v3, v4] (.int x :: st) M Q := zq_go (i := .iload_n 1) (by decide +kernel) rfl
theorem q129_156 : zQ 129 156 L [.int x] M Q ↔ Q (zI x) M := zq_reI (by decide +kernel) (by decide +kernel)
-- 130 SandKeepersModel.keeping(I)I
theorem q130_0 : zQ 130 0 [v0, .int x, v2] st M Q ↔ zQ 130 1 [v0, .int x, v2] (.int x :: st) M Q := zq_go (i := .iload_n 1) (by decide +kernel) rfl
theorem q130_1 : zQ 130 1 L (.int x :: st) M Q ↔ zQ 130 2 L (.long x.toInt64 :: st) M Q := zq_go (i := .i2l) (by decide +kernel) rfl
theorem q130_2 : zQ 130 2 L st M Q ↔ zQ 130 5 L (.long (-1) :: st) M Q := zq_ld2 (n := 229) (by decide +kernel) (by decide +kernel) rfl
theorem q130_5 : zQ 130 5 L st M Q ↔ zQ 130 8 L (.long 5 :: st) M Q := zq_ld2 (n := 231) (by decide +kernel) (by decide +kernel) rfl
theorem q130_8 : zQ 130 8 L (.long l3 :: .long l2 :: .long l1 :: st) M Q ↔ zcs st ≤ 8 ∧ zQ 84 0 [.long l1, .null, .long l2, .null, .long l3, .null] [] M (fun r M1 => zQ 130 11 L (zpush r st) M1 Q) := zq_callS (n := 89) (j := 84) (b := false) (As := [.long l1, .long l2, .long l3]) (by decide +kernel) (by decide +kernel) ⟨by decide +kernel, by decide +kernel, rfl, by decide +kernel, by decide +kernel, Nat.le_of_ble_eq_true rfl⟩ rfl
theorem q130_11 : zQ 130 11 L (.int x :: st) M Q ↔ (x = 0 → zQ 130 14 L st M Q) ∧ (¬ x = 0 → zQ 130 17 L st M Q) := zq_bn (i := .ifCond .ne 6) (off := 6) (by decide +kernel) rfl (by decide) rfl
theorem q130_14 : zQ 130 14 L st M Q ↔ zQ 130 16 L (.int (-2) :: st) M Q := zq_bip (n := (-2)) (by decide +kernel) (by decide +kernel) rfl
theorem q130_16 : zQ 130 16 L [.int x] M Q ↔ Q (zI x) M := zq_reI (by decide +kernel) (by decide +kernel)
theorem q130_17 : zQ 130 17 [.ref a, v1, v2] st M Q ↔ zQ 130 18 [.ref a, v1, v2] (.ref a :: st) M Q := zq_go (i := .aload_n 0) (by decide +kernel) rfl
theorem q130_18 : zQ 130 18 L (.ref a :: st) M Q ↔ (a < zNC ∧ zk a = 6) ∧ zQ 130 21 L (zfv a 1 M :: st) M Q := zq_getf (n := 86) (b := false) (by decide +kernel) (by decide +kernel)
theorem q130_21 : zQ 130 21 L (.int x :: st) M Q ↔ (x = 0 → zQ 130 24 L st M Q) ∧ (¬ x = 0 → zQ 130 27 L st M Q) := zq_bn (i := .ifCond .ne 6) (off := 6) (by decide +kernel) rfl (by decide) rfl
theorem q130_24 : zQ 130 24 L st M Q ↔ zQ 130 26 L (.int (-3) :: st) M Q := zq_bip (n := (-3)) (by decide +kernel) (by decide +kernel) rfl
theorem q130_26 : zQ 130 26 L [.int x] M Q ↔ Q (zI x) M := zq_reI (by decide +kernel) (by decide +kernel)
theorem q130_27 : zQ 130 27 [.ref a, v1, v2] st M Q ↔ zQ 130 28 [.ref a, v1, v2] (.ref a :: st) M Q := zq_go (i := .aload_n 0) (by decide +kernel) rfl
theorem q130_28 : zQ 130 28 L (.ref a :: st) M Q ↔ (zcs st ≤ 8 ∧ a < zNC ∧ zk a = 6) ∧ zQ 129 0 [.ref a, .null, .null, .null, .null] [] M (fun r M1 => zQ 130 31 L (zpush r st) M1 Q) := zq_callV (n := 233) (j := 129) (b := false) (As := []) (by decide +kernel) (by decide +kernel) ⟨by decide +kernel, by decide +kernel, rfl, by decide +kernel, by decide +kernel, Nat.le_of_ble_eq_true rfl⟩ rfl
theorem q130_31i : zQ 130 31 [v0, .int y, v2] (.int x :: st) M Q ↔ zQ 130 32 [v0, .int y, .int x] st M Q := zq_stI (i := .istore_n 2) (k := 2) (by decide +kernel) rfl (Nat.le_of_ble_eq_true rfl) rfl rfl
theorem q130_31r : zQ 130 31 [v0, .ref r1, v2] (.int x :: st) M Q ↔ zQ 130 32 [v0, .ref r1, .int x] st M Q := zq_stI (i := .istore_n 2) (k := 2) (by decide +kernel) rfl (Nat.le_of_ble_eq_true rfl) rfl rfl
theorem q130_31n : zQ 130 31 [v0, .null, v2] (.int x :: st) M Q ↔ zQ 130 32 [v0, .null, .int x] st M Q := zq_stI (i := .istore_n 2) (k := 2) (by decide +kernel) rfl (Nat.le_of_ble_eq_true rfl) rfl rfl
theorem q130_32 : zQ 130 32 [v0, .int x, v2] st M Q ↔ zQ 130 33 [v0, .int x, v2] (.int x :: st) M Q := zq_go (i := .iload_n 1) (by decide +kernel) rfl
theorem q130_33 : zQ 130 33 L (.int x :: st) M Q ↔ (0 ≤ x → zQ 130 40 L st M Q) ∧ (¬ 0 ≤ x → zQ 130 36 L st M Q) := zq_br (i := .ifCond .ge 7) (off := 7) (by decide +kernel) rfl (by decide) rfl
theorem q130_36 : zQ 130 36 [v0, v1, .int x] st M Q ↔ zQ 130 37 [v0, v1, .int x] (.int x :: st) M Q := zq_go (i := .iload_n 2) (by decide +kernel) rfl
theorem q130_37 : zQ 130 37 L st M Q ↔ zQ 130 59 L st M Q := zq_jmp (off := 22) (by decide +kernel) (by decide)
theorem q130_40 : zQ 130 40 [.ref a, v1, v2] st M Q ↔ zQ 130 41 [.ref a, v1, v2] (.ref a :: st) M Q := zq_go (i := .aload_n 0) (by decide +kernel) rfl
theorem q130_41 : zQ 130 41 [v0, .int x, v2] st M Q ↔ zQ 130 42 [v0, .int x, v2] (.int x :: st) M Q := zq_go (i := .iload_n 1) (by decide +kernel) rfl
theorem q130_42 : zQ 130 42 L (.int x1 :: .ref a :: st) M Q ↔ (zcs st ≤ 8 ∧ a < zNC ∧ zk a = 6) ∧ zQ 92 0 [.ref a, .int x1] [] M (fun r M1 => zQ 130 45 L (zpush r st) M1 Q) := zq_callV (n := 145) (j := 92) (b := false) (As := [.int x1]) (by decide +kernel) (by decide +kernel) ⟨by decide +kernel, by decide +kernel, rfl, by decide +kernel, by decide +kernel, Nat.le_of_ble_eq_true rfl⟩ rfl
theorem q130_45 : zQ 130 45 L (.int x :: st) M Q ↔ (x = 0 → zQ 130 53 L st M Q) ∧ (¬ x = 0 → zQ 130 48 L st M Q) := zq_br (i := .ifCond .eq 8) (off := 8) (by decide +kernel) rfl (by decide) rfl
theorem q130_48 : zQ 130 48 L st M Q ↔ zQ 130 50 L (.int (-9) :: st) M Q := zq_bip (n := (-9)) (by decide +kernel) (by decide +kernel) rfl
theorem q130_50 : zQ 130 50 L st M Q ↔ zQ 130 59 L st M Q := zq_jmp (off := 9) (by decide +kernel) (by decide)
theorem q130_53 : zQ 130 53 [.ref a, v1, v2] st M Q ↔ zQ 130 54 [.ref a, v1, v2] (.ref a :: st) M Q := zq_go (i := .aload_n 0) (by decide +kernel) rfl
theorem q130_54 : zQ 130 54 L (.ref a :: st) M Q ↔ (a < zNC ∧ zk a = 6) ∧ zQ 130 57 L (zfv a 22 M :: st) M Q := zq_getf (n := 52) (b := false) (by decide +kernel) (by decide +kernel)
theorem q130_57 : zQ 130 57 [v0, .int x, v2] st M Q ↔ zQ 130 58 [v0, .int x, v2] (.int x :: st) M Q := zq_go (i := .iload_n 1) (by decide +kernel) rfl
theorem q130_58 : zQ 130 58 L (.int x :: .ref a :: st) M Q ↔ (a < zNC ∧ zk a = 7 ∧ zin x (zn a) = true) ∧ zQ 130 59 L (.int (M a x.toNatClampNeg) :: st) M Q := zq_iald (by decide +kernel)
theorem q130_59 : zQ 130 59 L [.int x] M Q ↔ Q (zI x) M := zq_reI (by decide +kernel) (by decide +kernel)
-- 131 SandKeepersModel.trade(I)I
theorem q131_0 : zQ 131 0 [v0, .int x, v2, v3, v4, v5, v6, v7, v8] st M Q ↔ zQ 131 1 [v0, .int x, v2, v3, v4, v5, v6, v7, v8] (.int x :: st) M Q := zq_go (i := .iload_n 1) (by decide +kernel) rfl
theorem q131_1 : zQ 131 1 L (.int x :: st) M Q ↔ zQ 131 2 L (.long x.toInt64 :: st) M Q := zq_go (i := .i2l) (by decide +kernel) rfl
theorem q131_2 : zQ 131 2 L st M Q ↔ zQ 131 3 L (.long 0 :: st) M Q := zq_lco (n := 0) (by decide +kernel) (by decide +kernel) rfl
theorem q131_3 : zQ 131 3 L st M Q ↔ zQ 131 6 L (.long 2 :: st) M Q := zq_ld2 (n := 126) (by decide +kernel) (by decide +kernel) rfl
theorem q131_6 : zQ 131 6 L (.long l3 :: .long l2 :: .long l1 :: st) M Q ↔ zcs st ≤ 8 ∧ zQ 84 0 [.long l1, .null, .long l2, .null, .long l3, .null] [] M (fun r M1 => zQ 131 9 L (zpush r st) M1 Q) := zq_callS (n := 89) (j := 84) (b := false) (As := [.long l1, .long l2, .long l3]) (by decide +kernel) (by decide +kernel) ⟨by decide +kernel, by decide +kernel, rfl, by decide +kernel, by decide +kernel, Nat.le_of_ble_eq_true rfl⟩ rfl
theorem q131_9 : zQ 131 9 L (.int x :: st) M Q ↔ (x = 0 → zQ 131 12 L st M Q) ∧ (¬ x = 0 → zQ 131 15 L st M Q) := zq_bn (i := .ifCond .ne 6) (off := 6) (by decide +kernel) rfl (by decide) rfl
theorem q131_12 : zQ 131 12 L st M Q ↔ zQ 131 14 L (.int (-2) :: st) M Q := zq_bip (n := (-2)) (by decide +kernel) (by decide +kernel) rfl
theorem q131_14 : zQ 131 14 L [.int x] M Q ↔ Q (zI x) M := zq_reI (by decide +kernel) (by decide +kernel)
theorem q131_15 : zQ 131 15 [.ref a, v1, v2, v3, v4, v5, v6, v7, v8] st M Q ↔ zQ 131 16 [.ref a, v1, v2, v3, v4, v5, v6, v7, v8] (.ref a :: st) M Q := zq_go (i := .aload_n 0) (by decide +kernel) rfl
theorem q131_16 : zQ 131 16 L (.ref a :: st) M Q ↔ (a < zNC ∧ zk a = 6) ∧ zQ 131 19 L (zfv a 1 M :: st) M Q := zq_getf (n := 86) (b := false) (by decide +kernel) (by decide +kernel)
theorem q131_19 : zQ 131 19 L (.int x :: st) M Q ↔ (x = 0 → zQ 131 22 L st M Q) ∧ (¬ x = 0 → zQ 131 25 L st M Q) := zq_bn (i := .ifCond .ne 6) (off := 6) (by decide +kernel) rfl (by decide) rfl
theorem q131_22 : zQ 131 22 L st M Q ↔ zQ 131 24 L (.int (-3) :: st) M Q := zq_bip (n := (-3)) (by decide +kernel) (by decide +kernel) rfl
theorem q131_24 : zQ 131 24 L [.int x] M Q ↔ Q (zI x) M := zq_reI (by decide +kernel) (by decide +kernel)
theorem q131_25 : zQ 131 25 [.ref a, v1, v2, v3, v4, v5, v6, v7, v8] st M Q ↔ zQ 131 26 [.ref a, v1, v2, v3, v4, v5, v6, v7, v8] (.ref a :: st) M Q := zq_go (i := .aload_n 0) (by decide +kernel) rfl
theorem q131_26 : zQ 131 26 L (.ref a :: st) M Q ↔ (zcs st ≤ 8 ∧ a < zNC ∧ zk a = 6) ∧ zQ 125 0 [.ref a, .null, .null] [] M (fun r M1 => zQ 131 29 L (zpush r st) M1 Q) := zq_callV (n := 223) (j := 125) (b := false) (As := []) (by decide +kernel) (by decide +kernel) ⟨by decide +kernel, by decide +kernel, rfl, by decide +kernel, by decide +kernel, Nat.le_of_ble_eq_true rfl⟩ rfl
theorem q131_29i : zQ 131 29 [v0, .int y, v2, v3, v4, v5, v6, v7, v8] (.int x :: st) M Q ↔ zQ 131 30 [v0, .int y, .int x, v3, v4, v5, v6, v7, v8] st M Q := zq_stI (i := .istore_n 2) (k := 2) (by decide +kernel) rfl (Nat.le_of_ble_eq_true rfl) rfl rfl
theorem q131_29r : zQ 131 29 [v0, .ref r1, v2, v3, v4, v5, v6, v7, v8] (.int x :: st) M Q ↔ zQ 131 30 [v0, .ref r1, .int x, v3, v4, v5, v6, v7, v8] st M Q := zq_stI (i := .istore_n 2) (k := 2) (by decide +kernel) rfl (Nat.le_of_ble_eq_true rfl) rfl rfl
theorem q131_29n : zQ 131 29 [v0, .null, v2, v3, v4, v5, v6, v7, v8] (.int x :: st) M Q ↔ zQ 131 30 [v0, .null, .int x, v3, v4, v5, v6, v7, v8] st M Q := zq_stI (i := .istore_n 2) (k := 2) (by decide +kernel) rfl (Nat.le_of_ble_eq_true rfl) rfl rfl
theorem q131_30 : zQ 131 30 L st M Q ↔ zQ 131 31 L (.int 0 :: st) M Q := zq_con (n := 0) (by decide +kernel) (by decide +kernel) rfl
theorem q131_31i : zQ 131 31 [v0, v1, .int y, v3, v4, v5, v6, v7, v8] (.int x :: st) M Q ↔ zQ 131 32 [v0, v1, .int y, .int x, v4, v5, v6, v7, v8] st M Q := zq_stI (i := .istore_n 3) (k := 3) (by decide +kernel) rfl (Nat.le_of_ble_eq_true rfl) rfl rfl
theorem q131_31r : zQ 131 31 [v0, v1, .ref r1, v3, v4, v5, v6, v7, v8] (.int x :: st) M Q ↔ zQ 131 32 [v0, v1, .ref r1, .int x, v4, v5, v6, v7, v8] st M Q := zq_stI (i := .istore_n 3) (k := 3) (by decide +kernel) rfl (Nat.le_of_ble_eq_true rfl) rfl rfl
theorem q131_31n : zQ 131 31 [v0, v1, .null, v3, v4, v5, v6, v7, v8] (.int x :: st) M Q ↔ zQ 131 32 [v0, v1, .null, .int x, v4, v5, v6, v7, v8] st M Q := zq_stI (i := .istore_n 3) (k := 3) (by decide +kernel) rfl (Nat.le_of_ble_eq_true rfl) rfl rfl
theorem q131_32 : zQ 131 32 L st M Q ↔ zQ 131 34 L (.int (-9) :: st) M Q := zq_bip (n := (-9)) (by decide +kernel) (by decide +kernel) rfl
theorem q131_34i : zQ 131 34 [v0, v1, v2, .int y, v4, v5, v6, v7, v8] (.int x :: st) M Q ↔ zQ 131 36 [v0, v1, v2, .int y, .int x, v5, v6, v7, v8] st M Q := zq_stI (i := .istore 4) (k := 4) (by decide +kernel) rfl (Nat.le_of_ble_eq_true rfl) rfl rfl
theorem q131_34r : zQ 131 34 [v0, v1, v2, .ref r1, v4, v5, v6, v7, v8] (.int x :: st) M Q ↔ zQ 131 36 [v0, v1, v2, .ref r1, .int x, v5, v6, v7, v8] st M Q := zq_stI (i := .istore 4) (k := 4) (by decide +kernel) rfl (Nat.le_of_ble_eq_true rfl) rfl rfl
theorem q131_34n : zQ 131 34 [v0, v1, v2, .null, v4, v5, v6, v7, v8] (.int x :: st) M Q ↔ zQ 131 36 [v0, v1, v2, .null, .int x, v5, v6, v7, v8] st M Q := zq_stI (i := .istore 4) (k := 4) (by decide +kernel) rfl (Nat.le_of_ble_eq_true rfl) rfl rfl
theorem q131_36 : zQ 131 36 L st M Q ↔ zQ 131 38 L (.int (-9) :: st) M Q := zq_bip (n := (-9)) (by decide +kernel) (by decide +kernel) rfl
theorem q131_38i : zQ 131 38 [v0, v1, v2, v3, .int y, v5, v6, v7, v8] (.int x :: st) M Q ↔ zQ 131 40 [v0, v1, v2, v3, .int y, .int x, v6, v7, v8] st M Q := zq_stI (i := .istore 5) (k := 5) (by decide +kernel) rfl (Nat.le_of_ble_eq_true rfl) rfl rfl
theorem q131_38r : zQ 131 38 [v0, v1, v2, v3, .ref r1, v5, v6, v7, v8] (.int x :: st) M Q ↔ zQ 131 40 [v0, v1, v2, v3, .ref r1, .int x, v6, v7, v8] st M Q := zq_stI (i := .istore 5) (k := 5) (by decide +kernel) rfl (Nat.le_of_ble_eq_true rfl) rfl rfl
theorem q131_38n : zQ 131 38 [v0, v1, v2, v3, .null, v5, v6, v7, v8] (.int x :: st) M Q ↔ zQ 131 40 [v0, v1, v2, v3, .null, .int x, v6, v7, v8] st M Q := zq_stI (i := .istore 5) (k := 5) (by decide +kernel) rfl (Nat.le_of_ble_eq_true rfl) rfl rfl
theorem q131_40 : zQ 131 40 L st M Q ↔ zQ 131 41 L (.int 0 :: st) M Q := zq_con (n := 0) (by decide +kernel) (by decide +kernel) rfl
theorem q131_41i : zQ 131 41 [v0, v1, v2, v3, v4, .int y, v6, v7, v8] (.int x :: st) M Q ↔ zQ 131 43 [v0, v1, v2, v3, v4, .int y, .int x, v7, v8] st M Q := zq_stI (i := .istore 6) (k := 6) (by decide +kernel) rfl (Nat.le_of_ble_eq_true rfl) rfl rfl
theorem q131_41r : zQ 131 41 [v0, v1, v2, v3, v4, .ref r1, v6, v7, v8] (.int x :: st) M Q ↔ zQ 131 43 [v0, v1, v2, v3, v4, .ref r1, .int x, v7, v8] st M Q := zq_stI (i := .istore 6) (k := 6) (by decide +kernel) rfl (Nat.le_of_ble_eq_true rfl) rfl rfl
theorem q131_41n : zQ 131 41 [v0, v1, v2, v3, v4, .null, v6, v7, v8] (.int x :: st) M Q ↔ zQ 131 43 [v0, v1, v2, v3, v4, .null, .int x, v7, v8] st M Q := zq_stI (i := .istore 6) (k := 6) (by decide +kernel) rfl (Nat.le_of_ble_eq_true rfl) rfl rfl
theorem q131_43 : zQ 131 43 [v0, v1, v2, v3, v4, v5, .int x, v7, v8] st M Q ↔ zQ 131 45 [v0, v1, v2, v3, v4, v5, .int x, v7, v8] (.int x :: st) M Q := zq_go (i := .iload 6) (by decide +kernel) rfl
theorem q131_45 : zQ 131 45 [.ref a, v1, v2, v3, v4, v5, v6, v7, v8] st M Q ↔ zQ 131 46 [.ref a, v1, v2, v3, v4, v5, v6, v7, v8] (.ref a :: st) M Q := zq_go (i := .aload_n 0) (by decide +kernel) rfl
theorem q131_46 : zQ 131 46 L (.ref a :: st) M Q ↔ (a < zNC ∧ zk a = 6) ∧ zQ 131 49 L (zfv a 1 M :: st) M Q := zq_getf (n := 86) (b := false) (by decide +kernel) (by decide +kernel)
theorem q131_49 : zQ 131 49 L (.int y :: .int x :: st) M Q ↔ (y ≤ x → zQ 131 146 L st M Q) ∧ (¬ y ≤ x → zQ 131 52 L st M Q) := zq_br (i := .if_icmp .ge 97) (off := 97) (by decide +kernel) rfl (by decide) rfl
theorem q131_52 : zQ 131 52 [v0, v1, v2, v3, v4, v5, .int x, v7, v8] st M Q ↔ zQ 131 54 [v0, v1, v2, v3, v4, v5, .int x, v7, v8] (.int x :: st) M Q := zq_go (i := .iload 6) (by decide +kernel) rfl
theorem q131_54 : zQ 131 54 L st M Q ↔ zQ 131 55 L (.int 1 :: st) M Q := zq_con (n := 1) (by decide +kernel) (by decide +kernel) rfl
theorem q131_55 : zQ 131 55 L (.int y :: .int x :: st) M Q ↔ zQ 131 56 L (.int (x + y) :: st) M Q := zq_go (i := .iadd) (by decide +kernel) rfl
theorem q131_56i : zQ 131 56 [v0, v1, v2, v3, v4, v5, .int y, v7, v8] (.int x :: st) M Q ↔ zQ 131 58 [v0, v1, v2, v3, v4, v5, .int y, .int x, v8] st M Q := zq_stI (i := .istore 7) (k := 7) (by decide +kernel) rfl (Nat.le_of_ble_eq_true rfl) rfl rfl
theorem q131_56r : zQ 131 56 [v0, v1, v2, v3, v4, v5, .ref r1, v7, v8] (.int x :: st) M Q ↔ zQ 131 58 [v0, v1, v2, v3, v4, v5, .ref r1, .int x, v8] st M Q := zq_stI (i := .istore 7) (k := 7) (by decide +kernel) rfl (Nat.le_of_ble_eq_true rfl) rfl rfl
theorem q131_56n : zQ 131 56 [v0, v1, v2, v3, v4, v5, .null, v7, v8] (.int x :: st) M Q ↔ zQ 131 58 [v0, v1, v2, v3, v4, v5, .null, .int x, v8] st M Q := zq_stI (i := .istore 7) (k := 7) (by decide +kernel) rfl (Nat.le_of_ble_eq_true rfl) rfl rfl
theorem q131_58 : zQ 131 58 [v0, v1, v2, v3, v4, v5, v6, .int x, v8] st M Q ↔ zQ 131 60 [v0, v1, v2, v3, v4, v5, v6, .int x, v8] (.int x :: st) M Q := zq_go (i := .iload 7) (by decide +kernel) rfl
theorem q131_60 : zQ 131 60 [.ref a, v1, v2, v3, v4, v5, v6, v7, v8] st M Q ↔ zQ 131 61 [.ref a, v1, v2, v3, v4, v5, v6, v7, v8] (.ref a :: st) M Q := zq_go (i := .aload_n 0) (by decide +kernel) rfl
theorem q131_61 : zQ 131 61 L (.ref a :: st) M Q ↔ (a < zNC ∧ zk a = 6) ∧ zQ 131 64 L (zfv a 1 M :: st) M Q := zq_getf (n := 86) (b := false) (by decide +kernel) (by decide +kernel)
theorem q131_64 : zQ 131 64 L (.int y :: .int x :: st) M Q ↔ (y ≤ x → zQ 131 140 L st M Q) ∧ (¬ y ≤ x → zQ 131 67 L st M Q) := zq_br (i := .if_icmp .ge 76) (off := 76) (by decide +kernel) rfl (by decide) rfl
theorem q131_67 : zQ 131 67 [.ref a, v1, v2, v3, v4, v5, v6, v7, v8] st M Q ↔ zQ 131 68 [.ref a, v1, v2, v3, v4, v5, v6, v7, v8] (.ref a :: st) M Q := zq_go (i := .aload_n 0) (by decide +kernel) rfl
theorem q131_68 : zQ 131 68 [v0, v1, v2, v3, v4, v5, .int x, v7, v8] st M Q ↔ zQ 131 70 [v0, v1, v2, v3, v4, v5, .int x, v7, v8] (.int x :: st) M Q := zq_go (i := .iload 6) (by decide +kernel) rfl
theorem q131_70 : zQ 131 70 [v0, v1, v2, v3, v4, v5, v6, .int x, v8] st M Q ↔ zQ 131 72 [v0, v1, v2, v3, v4, v5, v6, .int x, v8] (.int x :: st) M Q := zq_go (i := .iload 7) (by decide +kernel) rfl
theorem q131_72 : zQ 131 72 L (.int x2 :: .int x1 :: .ref a :: st) M Q ↔ (zcs st ≤ 8 ∧ a < zNC ∧ zk a = 6) ∧ zQ 127 0 [.ref a, .int x1, .int x2, .null] [] M (fun r M1 => zQ 131 75 L (zpush r st) M1 Q) := zq_callV (n := 215) (j := 127) (b := false) (As := [.int x1, .int x2]) (by decide +kernel) (by decide +kernel) ⟨by decide +kernel, by decide +kernel, rfl, by decide +kernel, by decide +kernel, Nat.le_of_ble_eq_true rfl⟩ rfl
theorem q131_75 : zQ 131 75 [.ref a, v1, v2, v3, v4, v5, v6, v7, v8] st M Q ↔ zQ 131 76 [.ref a, v1, v2, v3, v4, v5, v6, v7, v8] (.ref a :: st) M Q := zq_go (i := .aload_n 0) (by decide +kernel) rfl
theorem q131_76 : zQ 131 76 L (.ref a :: st) M Q ↔ (zcs st ≤ 8 ∧ a < zNC ∧ zk a = 6) ∧ zQ 125 0 [.ref a, .null, .null] [] M (fun r M1 => zQ 131 79 L (zpush r st) M1 Q) := zq_callV (n := 223) (j := 125) (b := false) (As := []) (by decide +kernel) (by decide +kernel) ⟨by decide +kernel, by decide +kernel, rfl, by decide +kernel, by decide +kernel, Nat.le_of_ble_eq_true rfl⟩ rfl
theorem q131_79 : zQ 131 79 [v0, v1, .int x, v3, v4, v5, v6, v7, v8] st M Q ↔ zQ 131 80 [v0, v1, .int x, v3, v4, v5, v6, v7, v8] (.int x :: st) M Q := zq_go (i := .iload_n 2) (by decide +kernel) rfl
theorem q131_80 : zQ 131 80 L (.int y :: .int x :: st) M Q ↔ zQ 131 81 L (.int (x - y) :: st) M Q := zq_go (i := .isub) (by decide +kernel) rfl
theorem q131_81i : zQ 131 81 [v0, v1, v2, v3, v4, v5, v6, .int y, v8] (.int x :: st) M Q ↔ zQ 131 83 [v0, v1, v2, v3, v4, v5, v6, .int y, .int x] st M Q := zq_stI (i := .istore 8) (k := 8) (by decide +kernel) rfl (Nat.le_of_ble_eq_true rfl) rfl rfl
theorem q131_81r : zQ 131 81 [v0, v1, v2, v3, v4, v5, v6, .ref r1, v8] (.int x :: st) M Q ↔ zQ 131 83 [v0, v1, v2, v3, v4, v5, v6, .ref r1, .int x] st M Q := zq_stI (i := .istore 8) (k := 8) (by decide +kernel) rfl (Nat.le_of_ble_eq_true rfl) rfl rfl
theorem q131_81n : zQ 131 81 [v0, v1, v2, v3, v4, v5, v6, .null, v8] (.int x :: st) M Q ↔ zQ 131 83 [v0, v1, v2, v3, v4, v5, v6, .null, .int x] st M Q := zq_stI (i := .istore 8) (k := 8) (by decide +kernel) rfl (Nat.le_of_ble_eq_true rfl) rfl rfl
theorem q131_83 : zQ 131 83 [.ref a, v1, v2, v3, v4, v5, v6, v7, v8] st M Q ↔ zQ 131 84 [.ref a, v1, v2, v3, v4, v5, v6, v7, v8] (.ref a :: st) M Q := zq_go (i := .aload_n 0) (by decide +kernel) rfl
theorem q131_84 : zQ 131 84 [v0, v1, v2, v3, v4, v5, .int x, v7, v8] st M Q ↔ zQ 131 86 [v0, v1, v2, v3, v4, v5, .int x, v7, v8] (.int x :: st) M Q := zq_go (i := .iload 6) (by decide +kernel) rfl
theorem q131_86 : zQ 131 86 [v0, v1, v2, v3, v4, v5, v6, .int x, v8] st M Q ↔ zQ 131 88 [v0, v1, v2, v3, v4, v5, v6, .int x, v8] (.int x :: st) M Q := zq_go (i := .iload 7) (by decide +kernel) rfl
theorem q131_88 : zQ 131 88 L (.int x2 :: .int x1 :: .ref a :: st) M Q ↔ (zcs st ≤ 8 ∧ a < zNC ∧ zk a = 6) ∧ zQ 127 0 [.ref a, .int x1, .int x2, .null] [] M (fun r M1 => zQ 131 91 L (zpush r st) M1 Q) := zq_callV (n := 215) (j := 127) (b := false) (As := [.int x1, .int x2]) (by decide +kernel) (by decide +kernel) ⟨by decide +kernel, by decide +kernel, rfl, by decide +kernel, by decide +kernel, Nat.le_of_ble_eq_true rfl⟩ rfl
theorem q131_91 : zQ 131 91 [v0, v1, v2, v3, v4, v5, v6, v7, .int x] st M Q ↔ zQ 131 93 [v0, v1, v2, v3, v4, v5, v6, v7, .int x] (.int x :: st) M Q := zq_go (i := .iload 8) (by decide +kernel) rfl
theorem q131_93 : zQ 131 93 [v0, v1, v2, .int x, v4, v5, v6, v7, v8] st M Q ↔ zQ 131 94 [v0, v1, v2, .int x, v4, v5, v6, v7, v8] (.int x :: st) M Q := zq_go (i := .iload_n 3) (by decide +kernel) rfl
theorem q131_94 : zQ 131 94 L (.int y :: .int x :: st) M Q ↔ (x ≤ y → zQ 131 102 L st M Q) ∧ (¬ x ≤ y → zQ 131 97 L st M Q) := zq_br (i := .if_icmp .le 8) (off := 8) (by decide +kernel) rfl (by decide) rfl
theorem q131_97 : zQ 131 97 [v0, v1, v2, v3, v4, v5, .int x, v7, v8] st M Q ↔ zQ 131 99 [v0, v1, v2, v3, v4, v5, .int x, v7, v8] (.int x :: st) M Q := zq_go (i := .iload 6) (by decide +kernel) rfl
theorem q131_99 : zQ 131 99 L st M Q ↔ zQ 131 104 L st M Q := zq_jmp (off := 5) (by decide +kernel) (by decide)
theorem q131_102 : zQ 131 102 [v0, v1, v2, v3, .int x, v5, v6, v7, v8] st M Q ↔ zQ 131 104 [v0, v1, v2, v3, .int x, v5, v6, v7, v8] (.int x :: st) M Q := zq_go (i := .iload 4) (by decide +kernel) rfl
theorem q131_104i : zQ 131 104 [v0, v1, v2, .int y, v4, v5, v6, v7, v8] (.int x :: st) M Q ↔ zQ 131 106 [v0, v1, v2, .int y, .int x, v5, v6, v7, v8] st M Q := zq_stI (i := .istore 4) (k := 4) (by decide +kernel) rfl (Nat.le_of_ble_eq_true rfl) rfl rfl
theorem q131_104r : zQ 131 104 [v0, v1, v2, .ref r1, v4, v5, v6, v7, v8] (.int x :: st) M Q ↔ zQ 131 106 [v0, v1, v2, .ref r1, .int x, v5, v6, v7, v8] st M Q := zq_stI (i := .istore 4) (k := 4) (by decide +kernel) rfl (Nat.le_of_ble_eq_true rfl) rfl rfl
theorem q131_104n : zQ 131 104 [v0, v1, v2, .null, v4, v5, v6, v7, v8] (.int x :: st) M Q ↔ zQ 131 106 [v0, v1, v2, .null, .int x, v5, v6, v7, v8] st M Q := zq_stI (i := .istore 4) (k := 4) (by decide +kernel) rfl (Nat.le_of_ble_eq_true rfl) rfl rfl
theorem q131_106 : zQ 131 106 [v0, v1, v2, v3, v4, v5, v6, v7, .int x] st M Q ↔ zQ 131 108 [v0, v1, v2, v3, v4, v5, v6, v7, .int x] (.int x :: st) M Q := zq_go (i := .iload 8) (by decide +kernel) rfl
theorem q131_108 : zQ 131 108 [v0, v1, v2, .int x, v4, v5, v6, v7, v8] st M Q ↔ zQ 131 109 [v0, v1, v2, .int x, v4, v5, v6, v7, v8] (.int x :: st) M Q := zq_go (i := .iload_n 3) (by decide +kernel) rfl
theorem q131_109 : zQ 131 109 L (.int y :: .int x :: st) M Q ↔ (x ≤ y → zQ 131 117 L st M Q) ∧ (¬ x ≤ y → zQ 131 112 L st M Q) := zq_br (i := .if_icmp .le 8) (off := 8) (by decide +kernel) rfl (by decide) rfl
theorem q131_112 : zQ 131 112 [v0, v1, v2, v3, v4, v5, v6, .int x, v8] st M Q ↔ zQ 131 114 [v0, v1, v2, v3, v4, v5, v6, .int x, v8] (.int x :: st) M Q := zq_go (i := .iload 7) (by decide +kernel) rfl
theorem q131_114 : zQ 131 114 L st M Q ↔ zQ 131 119 L st M Q := zq_jmp (off := 5) (by decide +kernel) (by decide)
theorem q131_117 : zQ 131 117 [v0, v1, v2, v3, v4, .int x, v6, v7, v8] st M Q ↔ zQ 131 119 [v0, v1, v2, v3, v4, .int x, v6, v7, v8] (.int x :: st) M Q := zq_go (i := .iload 5) (by decide +kernel) rfl
theorem q131_119i : zQ 131 119 [v0, v1, v2, v3, .int y, v5, v6, v7, v8] (.int x :: st) M Q ↔ zQ 131 121 [v0, v1, v2, v3, .int y, .int x, v6, v7, v8] st M Q := zq_stI (i := .istore 5) (k := 5) (by decide +kernel) rfl (Nat.le_of_ble_eq_true rfl) rfl rfl
theorem q131_119r : zQ 131 119 [v0, v1, v2, v3, .ref r1, v5, v6, v7, v8] (.int x :: st) M Q ↔ zQ 131 121 [v0, v1, v2, v3, .ref r1, .int x, v6, v7, v8] st M Q := zq_stI (i := .istore 5) (k := 5) (by decide +kernel) rfl (Nat.le_of_ble_eq_true rfl) rfl rfl
theorem q131_119n : zQ 131 119 [v0, v1, v2, v3, .null, v5, v6, v7, v8] (.int x :: st) M Q ↔ zQ 131 121 [v0, v1, v2, v3, .null, .int x, v6, v7, v8] st M Q := zq_stI (i := .istore 5) (k := 5) (by decide +kernel) rfl (Nat.le_of_ble_eq_true rfl) rfl rfl
theorem q131_121 : zQ 131 121 [v0, v1, v2, v3, v4, v5, v6, v7, .int x] st M Q ↔ zQ 131 123 [v0, v1, v2, v3, v4, v5, v6, v7, .int x] (.int x :: st) M Q := zq_go (i := .iload 8) (by decide +kernel) rfl
theorem q131_123 : zQ 131 123 [v0, v1, v2, .int x, v4, v5, v6, v7, v8] st M Q ↔ zQ 131 124 [v0, v1, v2, .int x, v4, v5, v6, v7, v8] (.int x :: st) M Q := zq_go (i := .iload_n 3) (by decide +kernel) rfl
theorem q131_124 : zQ 131 124 L (.int y :: .int x :: st) M Q ↔ (x ≤ y → zQ 131 132 L st M Q) ∧ (¬ x ≤ y → zQ 131 127 L st M Q) := zq_br (i := .if_icmp .le 8) (off := 8) (by decide +kernel) rfl (by decide) rfl
theorem q131_127 : zQ 131 127 [v0, v1, v2, v3, v4, v5, v6, v7, .int x] st M Q ↔ zQ 131 129 [v0, v1, v2, v3, v4, v5, v6, v7, .int x] (.int x :: st) M Q := zq_go (i := .iload 8) (by decide +kernel) rfl
theorem q131_129 : zQ 131 129 L st M Q ↔ zQ 131 133 L st M Q := zq_jmp (off := 4) (by decide +kernel) (by decide)
theorem q131_132 : zQ 131 132 [v0, v1, v2, .int x, v4, v5, v6, v7, v8] st M Q ↔ zQ 131 133 [v0, v1, v2, .int x, v4, v5, v6, v7, v8] (.int x :: st) M Q := zq_go (i := .iload_n 3) (by decide +kernel) rfl
theorem q131_133i : zQ 131 133 [v0, v1, .int y, v3, v4, v5, v6, v7, v8] (.int x :: st) M Q ↔ zQ 131 134 [v0, v1, .int y, .int x, v4, v5, v6, v7, v8] st M Q := zq_stI (i := .istore_n 3) (k := 3) (by decide +kernel) rfl (Nat.le_of_ble_eq_true rfl) rfl rfl
theorem q131_133r : zQ 131 133 [v0, v1, .ref r1, v3, v4, v5, v6, v7, v8] (.int x :: st) M Q ↔ zQ 131 134 [v0, v1, .ref r1, .int x, v4, v5, v6, v7, v8] st M Q := zq_stI (i := .istore_n 3) (k := 3) (by decide +kernel) rfl (Nat.le_of_ble_eq_true rfl) rfl rfl
theorem q131_133n : zQ 131 133 [v0, v1, .null, v3, v4, v5, v6, v7, v8] (.int x :: st) M Q ↔ zQ 131 134 [v0, v1, .null, .int x, v4, v5, v6, v7, v8] st M Q := zq_stI (i := .istore_n 3) (k := 3) (by decide +kernel) rfl (Nat.le_of_ble_eq_true rfl) rfl rfl
theorem q131_134i : zQ 131 134 [v0, v1, v2, v3, v4, v5, .int y, .int x, v8] st M Q ↔ zQ 131 137 [v0, v1, v2, v3, v4, v5, .int y, .int (x + 1), v8] st M Q := zq_inc (k := 7) (n := 1) (x := x) (v := 1) (by decide +kernel) (by decide +kernel) rfl rfl rfl rfl
theorem q131_134r : zQ 131 134 [v0, v1, v2, v3, v4, v5, .ref r1, .int x, v8] st M Q ↔ zQ 131 137 [v0, v1, v2, v3, v4, v5, .ref r1, .int (x + 1), v8] st M Q := zq_inc (k := 7) (n := 1) (x := x) (v := 1) (by decide +kernel) (by decide +kernel) rfl rfl rfl rfl
theorem q131_134n : zQ 131 134 [v0, v1, v2, v3, v4, v5, .null, .int x, v8] st M Q ↔ zQ 131 137 [v0, v1, v2, v3, v4, v5, .null, .int (x + 1), v8] st M Q := zq_inc (k := 7) (n := 1) (x := x) (v := 1) (by decide +kernel) (by decide +kernel) rfl rfl rfl rfl
theorem q131_137 : zQ 131 137 L st M Q ↔ zQ 131 58 L st M Q := zq_jmp (off := (-79)) (by decide +kernel) (by decide)
theorem q131_140i : zQ 131 140 [v0, v1, v2, v3, v4, .int y, .int x, v7, v8] st M Q ↔ zQ 131 143 [v0, v1, v2, v3, v4, .int y, .int (x + 1), v7, v8] st M Q := zq_inc (k := 6) (n := 1) (x := x) (v := 1) (by decide +kernel) (by decide +kernel) rfl rfl rfl rfl
theorem q131_140r : zQ 131 140 [v0, v1, v2, v3, v4, .ref r1, .int x, v7, v8] st M Q ↔ zQ 131 143 [v0, v1, v2, v3, v4, .ref r1, .int (x + 1), v7, v8] st M Q := zq_inc (k := 6) (n := 1) (x := x) (v := 1) (by decide +kernel) (by decide +kernel) rfl rfl rfl rfl
theorem q131_140n : zQ 131 140 [v0, v1, v2, v3, v4, .null, .int x, v7, v8] st M Q ↔ zQ 131 143 [v0, v1, v2, v3, v4, .null, .int (x + 1), v7, v8] st M Q := zq_inc (k := 6) (n := 1) (x := x) (v := 1) (by decide +kernel) (by decide +kernel) rfl rfl rfl rfl
theorem q131_143 : zQ 131 143 L st M Q ↔ zQ 131 43 L st M Q := zq_jmp (off := (-100)) (by decide +kernel) (by decide)
theorem q131_146 : zQ 131 146 [v0, v1, v2, v3, .int x, v5, v6, v7, v8] st M Q ↔ zQ 131 148 [v0, v1, v2, v3, .int x, v5, v6, v7, v8] (.int x :: st) M Q := zq_go (i := .iload 4) (by decide +kernel) rfl
theorem q131_148 : zQ 131 148 L (.int x :: st) M Q ↔ (0 ≤ x → zQ 131 156 L st M Q) ∧ (¬ 0 ≤ x → zQ 131 151 L st M Q) := zq_br (i := .ifCond .ge 8) (off := 8) (by decide +kernel) rfl (by decide) rfl
theorem q131_151 : zQ 131 151 L st M Q ↔ zQ 131 153 L (.int (-9) :: st) M Q := zq_bip (n := (-9)) (by decide +kernel) (by decide +kernel) rfl
theorem q131_153 : zQ 131 153 L st M Q ↔ zQ 131 176 L st M Q := zq_jmp (off := 23) (by decide +kernel) (by decide)
theorem q131_156 : zQ 131 156 [v0, .int x, v2, v3, v4, v5, v6, v7, v8] st M Q ↔ zQ 131 157 [v0, .int x, v2, v3, v4, v5, v6, v7, v8] (.int x :: st) M Q := zq_go (i := .iload_n 1) (by decide +kernel) rfl
theorem q131_157 : zQ 131 157 L (.int x :: st) M Q ↔ (x = 0 → zQ 131 160 L st M Q) ∧ (¬ x = 0 → zQ 131 164 L st M Q) := zq_bn (i := .ifCond .ne 7) (off := 7) (by decide +kernel) rfl (by decide) rfl
theorem q131_160 : zQ 131 160 [v0, v1, v2, .int x, v4, v5, v6, v7, v8] st M Q ↔ zQ 131 161 [v0, v1, v2, .int x, v4, v5, v6, v7, v8] (.int x :: st) M Q := zq_go (i := .iload_n 3) (by decide +kernel) rfl
theorem q131_161 : zQ 131 161 L st M Q ↔ zQ 131 176 L st M Q := zq_jmp (off := 15) (by decide +kernel) (by decide)
theorem q131_164 : zQ 131 164 [v0, .int x, v2, v3, v4, v5, v6, v7, v8] st M Q ↔ zQ 131 165 [v0, .int x, v2, v3, v4, v5, v6, v7, v8] (.int x :: st) M Q := zq_go (i := .iload_n 1) (by decide +kernel) rfl
theorem q131_165 : zQ 131 165 L st M Q ↔ zQ 131 166 L (.int 1 :: st) M Q := zq_con (n := 1) (by decide +kernel) (by decide +kernel) rfl
theorem q131_166 : zQ 131 166 L (.int y :: .int x :: st) M Q ↔ (x = y → zQ 131 169 L st M Q) ∧ (¬ x = y → zQ 131 174 L st M Q) := zq_bn (i := .if_icmp .ne 8) (off := 8) (by decide +kernel) rfl (by decide) rfl
theorem q131_169 : zQ 131 169 [v0, v1, v2, v3, .int x, v5, v6, v7, v8] st M Q ↔ zQ 131 171 [v0, v1, v2, v3, .int x, v5, v6, v7, v8] (.int x :: st) M Q := zq_go (i := .iload 4) (by decide +kernel) rfl
theorem q131_171 : zQ 131 171 L st M Q ↔ zQ 131 176 L st M Q := zq_jmp (off := 5) (by decide +kernel) (by decide)
theorem q131_174 : zQ 131 174 [v0, v1, v2, v3, v4, .int x, v6, v7, v8] st M Q ↔ zQ 131 176 [v0, v1, v2, v3, v4, .int x, v6, v7, v8] (.int x :: st) M Q := zq_go (i := .iload 5) (by decide +kernel) rfl
theorem q131_176 : zQ 131 176 L [.int x] M Q ↔ Q (zI x) M := zq_reI (by decide +kernel) (by decide +kernel)
-- 132 SandKeepersModel.first(I)I
theorem q132_0 : zQ 132 0 [v0, .int x, v2, v3, v4, v5] st M Q ↔ zQ 132 1 [v0, .int x, v2, v3, v4, v5] (.int x :: st) M Q := zq_go (i := .iload_n 1) (by decide +kernel) rfl
theorem q132_1 : zQ 132 1 L (.int x :: st) M Q ↔ zQ 132 2 L (.long x.toInt64 :: st) M Q := zq_go (i := .i2l) (by decide +kernel) rfl
theorem q132_2 : zQ 132 2 L st M Q ↔ zQ 132 3 L (.long 0 :: st) M Q := zq_lco (n := 0) (by decide +kernel) (by decide +kernel) rfl
theorem q132_3 : zQ 132 3 L st M Q ↔ zQ 132 4 L (.long 1 :: st) M Q := zq_lco (n := 1) (by decide +kernel) (by decide +kernel) rfl
theorem q132_4 : zQ 132 4 L (.long l3 :: .long l2 :: .long l1 :: st) M Q ↔ zcs st ≤ 8 ∧ zQ 84 0 [.long l1, .null, .long l2, .null, .long l3, .null] [] M (fun r M1 => zQ 132 7 L (zpush r st) M1 Q) := zq_callS (n := 89) (j := 84) (b := false) (As := [.long l1, .long l2, .long l3]) (by decide +kernel) (by decide +kernel) ⟨by decide +kernel, by decide +kernel, rfl, by decide +kernel, by decide +kernel, Nat.le_of_ble_eq_true rfl⟩ rfl
theorem q132_7 : zQ 132 7 L (.int x :: st) M Q ↔ (x = 0 → zQ 132 10 L st M Q) ∧ (¬ x = 0 → zQ 132 13 L st M Q) := zq_bn (i := .ifCond .ne 6) (off := 6) (by decide +kernel) rfl (by decide) rfl
theorem q132_10 : zQ 132 10 L st M Q ↔ zQ 132 12 L (.int (-2) :: st) M Q := zq_bip (n := (-2)) (by decide +kernel) (by decide +kernel) rfl
theorem q132_12 : zQ 132 12 L [.int x] M Q ↔ Q (zI x) M := zq_reI (by decide +kernel) (by decide +kernel)
theorem q132_13 : zQ 132 13 [.ref a, v1, v2, v3, v4, v5] st M Q ↔ zQ 132 14 [.ref a, v1, v2, v3, v4, v5] (.ref a :: st) M Q := zq_go (i := .aload_n 0) (by decide +kernel) rfl
theorem q132_14 : zQ 132 14 L (.ref a :: st) M Q ↔ (a < zNC ∧ zk a = 6) ∧ zQ 132 17 L (zfv a 1 M :: st) M Q := zq_getf (n := 86) (b := false) (by decide +kernel) (by decide +kernel)
theorem q132_17 : zQ 132 17 L (.int x :: st) M Q ↔ (x = 0 → zQ 132 20 L st M Q) ∧ (¬ x = 0 → zQ 132 23 L st M Q) := zq_bn (i := .ifCond .ne 6) (off := 6) (by decide +kernel) rfl (by decide) rfl
theorem q132_20 : zQ 132 20 L st M Q ↔ zQ 132 22 L (.int (-3) :: st) M Q := zq_bip (n := (-3)) (by decide +kernel) (by decide +kernel) rfl
theorem q132_22 : zQ 132 22 L [.int x] M Q ↔ Q (zI x) M := zq_reI (by decide +kernel) (by decide +kernel)
theorem q132_23 : zQ 132 23 L st M Q ↔ zQ 132 25 L (.int (-9) :: st) M Q := zq_bip (n := (-9)) (by decide +kernel) (by decide +kernel) rfl
theorem q132_25i : zQ 132 25 [v0, .int y, v2, v3, v4, v5] (.int x :: st) M Q ↔ zQ 132 26 [v0, .int y, .int x, v3, v4, v5] st M Q := zq_stI (i := .istore_n 2) (k := 2) (by decide +kernel) rfl (Nat.le_of_ble_eq_true rfl) rfl rfl
theorem q132_25r : zQ 132 25 [v0, .ref r1, v2, v3, v4, v5] (.int x :: st) M Q ↔ zQ 132 26 [v0, .ref r1, .int x, v3, v4, v5] st M Q := zq_stI (i := .istore_n 2) (k := 2) (by decide +kernel) rfl (Nat.le_of_ble_eq_true rfl) rfl rfl
theorem q132_25n : zQ 132 25 [v0, .null, v2, v3, v4, v5] (.int x :: st) M Q ↔ zQ 132 26 [v0, .null, .int x, v3, v4, v5] st M Q := zq_stI (i := .istore_n 2) (k := 2) (by decide +kernel) rfl (Nat.le_of_ble_eq_true rfl) rfl rfl
theorem q132_26 : zQ 132 26 L st M Q ↔ zQ 132 28 L (.int 99 :: st) M Q := zq_bip (n := 99) (by decide +kernel) (by decide +kernel) rfl
theorem q132_28i : zQ 132 28 [v0, v1, .int y, v3, v4, v5] (.int x :: st) M Q ↔ zQ 132 29 [v0, v1, .int y, .int x, v4, v5] st M Q := zq_stI (i := .istore_n 3) (k := 3) (by decide +kernel) rfl (Nat.le_of_ble_eq_true rfl) rfl rfl
theorem q132_28r : zQ 132 28 [v0, v1, .ref r1, v3, v4, v5] (.int x :: st) M Q ↔ zQ 132 29 [v0, v1, .ref r1, .int x, v4, v5] st M Q := zq_stI (i := .istore_n 3) (k := 3) (by decide +kernel) rfl (Nat.le_of_ble_eq_true rfl) rfl rfl
theorem q132_28n : zQ 132 28 [v0, v1, .null, v3, v4, v5] (.int x :: st) M Q ↔ zQ 132 29 [v0, v1, .null, .int x, v4, v5] st M Q := zq_stI (i := .istore_n 3) (k := 3) (by decide +kernel) rfl (Nat.le_of_ble_eq_true rfl) rfl rfl
theorem q132_29 : zQ 132 29 L st M Q ↔ zQ 132 30 L (.int 0 :: st) M Q := zq_con (n := 0) (by decide +kernel) (by decide +kernel) rfl
theorem q132_30i : zQ 132 30 [v0, v1, v2, .int y, v4, v5] (.int x :: st) M Q ↔ zQ 132 32 [v0, v1, v2, .int y, .int x, v5] st M Q := zq_stI (i := .istore 4) (k := 4) (by decide +kernel) rfl (Nat.le_of_ble_eq_true rfl) rfl rfl
theorem q132_30r : zQ 132 30 [v0, v1, v2, .ref r1, v4, v5] (.int x :: st) M Q ↔ zQ 132 32 [v0, v1, v2, .ref r1, .int x, v5] st M Q := zq_stI (i := .istore 4) (k := 4) (by decide +kernel) rfl (Nat.le_of_ble_eq_true rfl) rfl rfl
theorem q132_30n : zQ 132 30 [v0, v1, v2, .null, v4, v5] (.int x :: st) M Q ↔ zQ 132 32 [v0, v1, v2, .null, .int x, v5] st M Q := zq_stI (i := .istore 4) (k := 4) (by decide +kernel) rfl (Nat.le_of_ble_eq_true rfl) rfl rfl
theorem q132_32 : zQ 132 32 [v0, v1, v2, v3, .int x, v5] st M Q ↔ zQ 132 34 [v0, v1, v2, v3, .int x, v5] (.int x :: st) M Q := zq_go (i := .iload 4) (by decide +kernel) rfl
theorem q132_34 : zQ 132 34 [.ref a, v1, v2, v3, v4, v5] st M Q ↔ zQ 132 35 [.ref a, v1, v2, v3, v4, v5] (.ref a :: st) M Q := zq_go (i := .aload_n 0) (by decide +kernel) rfl
theorem q132_35 : zQ 132 35 L (.ref a :: st) M Q ↔ (a < zNC ∧ zk a = 6) ∧ zQ 132 38 L (zfv a 1 M :: st) M Q := zq_getf (n := 86) (b := false) (by decide +kernel) (by decide +kernel)
theorem q132_38 : zQ 132 38 L (.int y :: .int x :: st) M Q ↔ (y ≤ x → zQ 132 95 L st M Q) ∧ (¬ y ≤ x → zQ 132 41 L st M Q) := zq_br (i := .if_icmp .ge 57) (off := 57) (by decide +kernel) rfl (by decide) rfl
theorem q132_41 : zQ 132 41 [.ref a, v1, v2, v3, v4, v5] st M Q ↔ zQ 132 42 [.ref a, v1, v2, v3, v4, v5] (.ref a :: st) M Q := zq_go (i := .aload_n 0) (by decide +kernel) rfl
theorem q132_42 : zQ 132 42 [v0, v1, v2, v3, .int x, v5] st M Q ↔ zQ 132 44 [v0, v1, v2, v3, .int x, v5] (.int x :: st) M Q := zq_go (i := .iload 4) (by decide +kernel) rfl
theorem q132_44 : zQ 132 44 L (.int x1 :: .ref a :: st) M Q ↔ (zcs st ≤ 8 ∧ a < zNC ∧ zk a = 6) ∧ zQ 100 0 [.ref a, .int x1] [] M (fun r M1 => zQ 132 47 L (zpush r st) M1 Q) := zq_callV (n := 155) (j := 100) (b := false) (As := [.int x1]) (by decide +kernel) (by decide +kernel) ⟨by decide +kernel, by decide +kernel, rfl, by decide +kernel, by decide +kernel, Nat.le_of_ble_eq_true rfl⟩ rfl
theorem q132_47 : zQ 132 47 L (.int x :: st) M Q ↔ (x = 0 → zQ 132 59 L st M Q) ∧ (¬ x = 0 → zQ 132 50 L st M Q) := zq_br (i := .ifCond .eq 12) (off := 12) (by decide +kernel) rfl (by decide) rfl
theorem q132_50 : zQ 132 50 [.ref a, v1, v2, v3, v4, v5] st M Q ↔ zQ 132 51 [.ref a, v1, v2, v3, v4, v5] (.ref a :: st) M Q := zq_go (i := .aload_n 0) (by decide +kernel) rfl
theorem q132_51 : zQ 132 51 [v0, v1, v2, v3, .int x, v5] st M Q ↔ zQ 132 53 [v0, v1, v2, v3, .int x, v5] (.int x :: st) M Q := zq_go (i := .iload 4) (by decide +kernel) rfl
theorem q132_53 : zQ 132 53 L (.int x1 :: .ref a :: st) M Q ↔ (zcs st ≤ 8 ∧ a < zNC ∧ zk a = 6) ∧ zQ 116 0 [.ref a, .int x1, .null] [] M (fun r M1 => zQ 132 56 L (zpush r st) M1 Q) := zq_callV (n := 182) (j := 116) (b := false) (As := [.int x1]) (by decide +kernel) (by decide +kernel) ⟨by decide +kernel, by decide +kernel, rfl, by decide +kernel, by decide +kernel, Nat.le_of_ble_eq_true rfl⟩ rfl
theorem q132_56 : zQ 132 56 L st M Q ↔ zQ 132 61 L st M Q := zq_jmp (off := 5) (by decide +kernel) (by decide)
theorem q132_59 : zQ 132 59 L st M Q ↔ zQ 132 61 L (.int 99 :: st) M Q := zq_bip (n := 99) (by decide +kernel) (by decide +kernel) rfl
theorem q132_61i : zQ 132 61 [v0, v1, v2, v3, .int y, v5] (.int x :: st) M Q ↔ zQ 132 63 [v0, v1, v2, v3, .int y, .int x] st M Q := zq_stI (i := .istore 5) (k := 5) (by decide +kernel) rfl (Nat.le_of_ble_eq_true rfl) rfl rfl
theorem q132_61r : zQ 132 61 [v0, v1, v2, v3, .ref r1, v5] (.int x :: st) M Q ↔ zQ 132 63 [v0, v1, v2, v3, .ref r1, .int x] st M Q := zq_stI (i := .istore 5) (k := 5) (by decide +kernel) rfl (Nat.le_of_ble_eq_true rfl) rfl rfl
theorem q132_61n : zQ 132 61 [v0, v1, v2, v3, .null, v5] (.int x :: st) M Q ↔ zQ 132 63 [v0, v1, v2, v3, .null, .int x] st M Q := zq_stI (i := .istore 5) (k := 5) (by decide +kernel) rfl (Nat.le_of_ble_eq_true rfl) rfl rfl
theorem q132_63 : zQ 132 63 [v0, v1, v2, v3, v4, .int x] st M Q ↔ zQ 132 65 [v0, v1, v2, v3, v4, .int x] (.int x :: st) M Q := zq_go (i := .iload 5) (by decide +kernel) rfl
theorem q132_65 : zQ 132 65 [v0, v1, v2, .int x, v4, v5] st M Q ↔ zQ 132 66 [v0, v1, v2, .int x, v4, v5] (.int x :: st) M Q := zq_go (i := .iload_n 3) (by decide +kernel) rfl
theorem q132_66 : zQ 132 66 L (.int y :: .int x :: st) M Q ↔ (y ≤ x → zQ 132 74 L st M Q) ∧ (¬ y ≤ x → zQ 132 69 L st M Q) := zq_br (i := .if_icmp .ge 8) (off := 8) (by decide +kernel) rfl (by decide) rfl
theorem q132_69 : zQ 132 69 [v0, v1, v2, v3, .int x, v5] st M Q ↔ zQ 132 71 [v0, v1, v2, v3, .int x, v5] (.int x :: st) M Q := zq_go (i := .iload 4) (by decide +kernel) rfl
theorem q132_71 : zQ 132 71 L st M Q ↔ zQ 132 75 L st M Q := zq_jmp (off := 4) (by decide +kernel) (by decide)
theorem q132_74 : zQ 132 74 [v0, v1, .int x, v3, v4, v5] st M Q ↔ zQ 132 75 [v0, v1, .int x, v3, v4, v5] (.int x :: st) M Q := zq_go (i := .iload_n 2) (by decide +kernel) rfl
theorem q132_75i : zQ 132 75 [v0, .int y, v2, v3, v4, v5] (.int x :: st) M Q ↔ zQ 132 76 [v0, .int y, .int x, v3, v4, v5] st M Q := zq_stI (i := .istore_n 2) (k := 2) (by decide +kernel) rfl (Nat.le_of_ble_eq_true rfl) rfl rfl
theorem q132_75r : zQ 132 75 [v0, .ref r1, v2, v3, v4, v5] (.int x :: st) M Q ↔ zQ 132 76 [v0, .ref r1, .int x, v3, v4, v5] st M Q := zq_stI (i := .istore_n 2) (k := 2) (by decide +kernel) rfl (Nat.le_of_ble_eq_true rfl) rfl rfl
theorem q132_75n : zQ 132 75 [v0, .null, v2, v3, v4, v5] (.int x :: st) M Q ↔ zQ 132 76 [v0, .null, .int x, v3, v4, v5] st M Q := zq_stI (i := .istore_n 2) (k := 2) (by decide +kernel) rfl (Nat.le_of_ble_eq_true rfl) rfl rfl
theorem q132_76 : zQ 132 76 [v0, v1, v2, v3, v4, .int x] st M Q ↔ zQ 132 78 [v0, v1, v2, v3, v4, .int x] (.int x :: st) M Q := zq_go (i := .iload 5) (by decide +kernel) rfl
theorem q132_78 : zQ 132 78 [v0, v1, v2, .int x, v4, v5] st M Q ↔ zQ 132 79 [v0, v1, v2, .int x, v4, v5] (.int x :: st) M Q := zq_go (i := .iload_n 3) (by decide +kernel) rfl
theorem q132_79 : zQ 132 79 L (.int y :: .int x :: st) M Q ↔ (y ≤ x → zQ 132 87 L st M Q) ∧ (¬ y ≤ x → zQ 132 82 L st M Q) := zq_br (i := .if_icmp .ge 8) (off := 8) (by decide +kernel) rfl (by decide) rfl
theorem q132_82 : zQ 132 82 [v0, v1, v2, v3, v4, .int x] st M Q ↔ zQ 132 84 [v0, v1, v2, v3, v4, .int x] (.int x :: st) M Q := zq_go (i := .iload 5) (by decide +kernel) rfl
theorem q132_84 : zQ 132 84 L st M Q ↔ zQ 132 88 L st M Q := zq_jmp (off := 4) (by decide +kernel) (by decide)
theorem q132_87 : zQ 132 87 [v0, v1, v2, .int x, v4, v5] st M Q ↔ zQ 132 88 [v0, v1, v2, .int x, v4, v5] (.int x :: st) M Q := zq_go (i := .iload_n 3) (by decide +kernel) rfl
theorem q132_88i : zQ 132 88 [v0, v1, .int y, v3, v4, v5] (.int x :: st) M Q ↔ zQ 132 89 [v0, v1, .int y, .int x, v4, v5] st M Q := zq_stI (i := .istore_n 3) (k := 3) (by decide +kernel) rfl (Nat.le_of_ble_eq_true rfl) rfl rfl
theorem q132_88r : zQ 132 88 [v0, v1, .ref r1, v3, v4, v5] (.int x :: st) M Q ↔ zQ 132 89 [v0, v1, .ref r1, .int x, v4, v5] st M Q := zq_stI (i := .istore_n 3) (k := 3) (by decide +kernel) rfl (Nat.le_of_ble_eq_true rfl) rfl rfl
theorem q132_88n : zQ 132 88 [v0, v1, .null, v3, v4, v5] (.int x :: st) M Q ↔ zQ 132 89 [v0, v1, .null, .int x, v4, v5] st M Q := zq_stI (i := .istore_n 3) (k := 3) (by decide +kernel) rfl (Nat.le_of_ble_eq_true rfl) rfl rfl
theorem q132_89i : zQ 132 89 [v0, v1, v2, .int y, .int x, v5] st M Q ↔ zQ 132 92 [v0, v1, v2, .int y, .int (x + 1), v5] st M Q := zq_inc (k := 4) (n := 1) (x := x) (v := 1) (by decide +kernel) (by decide +kernel) rfl rfl rfl rfl
theorem q132_89r : zQ 132 89 [v0, v1, v2, .ref r1, .int x, v5] st M Q ↔ zQ 132 92 [v0, v1, v2, .ref r1, .int (x + 1), v5] st M Q := zq_inc (k := 4) (n := 1) (x := x) (v := 1) (by decide +kernel) (by decide +kernel) rfl rfl rfl rfl
theorem q132_89n : zQ 132 89 [v0, v1, v2, .null, .int x, v5] st M Q ↔ zQ 132 92 [v0, v1, v2, .null, .int (x + 1), v5] st M Q := zq_inc (k := 4) (n := 1) (x := x) (v := 1) (by decide +kernel) (by decide +kernel) rfl rfl rfl rfl
theorem q132_92 : zQ 132 92 L st M Q ↔ zQ 132 32 L st M Q := zq_jmp (off := (-60)) (by decide +kernel) (by decide)
theorem q132_95 : zQ 132 95 [v0, v1, .int x, v3, v4, v5] st M Q ↔ zQ 132 96 [v0, v1, .int x, v3, v4, v5] (.int x :: st) M Q := zq_go (i := .iload_n 2) (by decide +kernel) rfl
theorem q132_96 : zQ 132 96 L (.int x :: st) M Q ↔ (x < 0 → zQ 132 103 L st M Q) ∧ (¬ x < 0 → zQ 132 99 L st M Q) := zq_br (i := .ifCond .lt 7) (off := 7) (by decide +kernel) rfl (by decide) rfl
theorem q132_99 : zQ 132 99 [v0, .int x, v2, v3, v4, v5] st M Q ↔ zQ 132 100 [v0, .int x, v2, v3, v4, v5] (.int x :: st) M Q := zq_go (i := .iload_n 1) (by decide +kernel) rfl
theorem q132_100 : zQ 132 100 L (.int x :: st) M Q ↔ (x = 0 → zQ 132 103 L st M Q) ∧ (¬ x = 0 → zQ 132 107 L st M Q) := zq_bn (i := .ifCond .ne 7) (off := 7) (by decide +kernel) rfl (by decide) rfl
theorem q132_103 : zQ 132 103 [v0, v1, .int x, v3, v4, v5] st M Q ↔ zQ 132 104 [v0, v1, .int x, v3, v4, v5] (.int x :: st) M Q := zq_go (i := .iload_n 2) (by decide +kernel) rfl
theorem q132_104 : zQ 132 104 L st M Q ↔ zQ 132 108 L st M Q := zq_jmp (off := 4) (by decide +kernel) (by decide)
theorem q132_107 : zQ 132 107 [v0, v1, v2, .int x, v4, v5] st M Q ↔ zQ 132 108 [v0, v1, v2, .int x, v4, v5] (.int x :: st) M Q := zq_go (i := .iload_n 3) (by decide +kernel) rfl
theorem q132_108 : zQ 132 108 L [.int x] M Q ↔ Q (zI x) M := zq_reI (by decide +kernel) (by decide +kernel)
-- 133 SandKeepersModel.found(IIII)I
theorem q133_0 : zQ 133 0 [v0, .int x, v2, v3, v4, v5, v6, v7, v8, v9] st M Q ↔ zQ 133 1 [v0, .int x, v2, v3, v4, v5, v6, v7, v8, v9] (.int x :: st) M Q := zq_go (i := .iload_n 1) (by decide +kernel) rfl
theorem q133_1 : zQ 133 1 L (.int x1 :: st) M Q ↔ zcs st ≤ 8 ∧ zQ 141 0 [.int x1] [] M (fun r M1 => zQ 133 4 L (zpush r st) M1 Q) := zq_callS (n := 119) (j := 141) (b := false) (As := [.int x1]) (by decide +kernel) (by decide +kernel) ⟨by decide +kernel, by decide +kernel, rfl, by decide +kernel, by decide +kernel, Nat.le_of_ble_eq_true rfl⟩ rfl
theorem q133_4 : zQ 133 4 L (.int x :: st) M Q ↔ (x = 0 → zQ 133 13 L st M Q) ∧ (¬ x = 0 → zQ 133 7 L st M Q) := zq_br (i := .ifCond .eq 9) (off := 9) (by decide +kernel) rfl (by decide) rfl
theorem q133_7 : zQ 133 7 [.ref a, v1, v2, v3, v4, v5, v6, v7, v8, v9] st M Q ↔ zQ 133 8 [.ref a, v1, v2, v3, v4, v5, v6, v7, v8, v9] (.ref a :: st) M Q := zq_go (i := .aload_n 0) (by decide +kernel) rfl
theorem q133_8 : zQ 133 8 L st M Q ↔ zQ 133 9 L (.int (-1) :: st) M Q := zq_con (n := (-1)) (by decide +kernel) (by decide +kernel) rfl
theorem q133_9 : zQ 133 9 L (.int x1 :: .ref a :: st) M Q ↔ (zcs st ≤ 8 ∧ a < zNC ∧ zk a = 6) ∧ zQ 89 0 [.ref a, .int x1] [] M (fun r M1 => zQ 133 12 L (zpush r st) M1 Q) := zq_callV (n := 123) (j := 89) (b := false) (As := [.int x1]) (by decide +kernel) (by decide +kernel) ⟨by decide +kernel, by decide +kernel, rfl, by decide +kernel, by decide +kernel, Nat.le_of_ble_eq_true rfl⟩ rfl
theorem q133_12 : zQ 133 12 L [.int x] M Q ↔ Q (zI x) M := zq_reI (by decide +kernel) (by decide +kernel)
theorem q133_13 : zQ 133 13 [v0, v1, .int x, v3, v4, v5, v6, v7, v8, v9] st M Q ↔ zQ 133 14 [v0, v1, .int x, v3, v4, v5, v6, v7, v8, v9] (.int x :: st) M Q := zq_go (i := .iload_n 2) (by decide +kernel) rfl
theorem q133_14 : zQ 133 14 L (.int x :: st) M Q ↔ zQ 133 15 L (.long x.toInt64 :: st) M Q := zq_go (i := .i2l) (by decide +kernel) rfl
theorem q133_15 : zQ 133 15 L st M Q ↔ zQ 133 16 L (.long 0 :: st) M Q := zq_lco (n := 0) (by decide +kernel) (by decide +kernel) rfl
theorem q133_16 : zQ 133 16 L st M Q ↔ zQ 133 19 L (.long 2 :: st) M Q := zq_ld2 (n := 126) (by decide +kernel) (by decide +kernel) rfl
theorem q133_19 : zQ 133 19 L (.long l3 :: .long l2 :: .long l1 :: st) M Q ↔ zcs st ≤ 8 ∧ zQ 84 0 [.long l1, .null, .long l2, .null, .long l3, .null] [] M (fun r M1 => zQ 133 22 L (zpush r st) M1 Q) := zq_callS (n := 89) (j := 84) (b := false) (As := [.long l1, .long l2, .long l3]) (by decide +kernel) (by decide +kernel) ⟨by decide +kernel, by decide +kernel, rfl, by decide +kernel, by decide +kernel, Nat.le_of_ble_eq_true rfl⟩ rfl
theorem q133_22 : zQ 133 22 L (.int x :: st) M Q ↔ (x = 0 → zQ 133 38 L st M Q) ∧ (¬ x = 0 → zQ 133 25 L st M Q) := zq_br (i := .ifCond .eq 16) (off := 16) (by decide +kernel) rfl (by decide) rfl
theorem q133_25 : zQ 133 25 [v0, v1, v2, v3, .int x, v5, v6, v7, v8, v9] st M Q ↔ zQ 133 27 [v0, v1, v2, v3, .int x, v5, v6, v7, v8, v9] (.int x :: st) M Q := zq_go (i := .iload 4) (by decide +kernel) rfl
theorem q133_27 : zQ 133 27 L (.int x :: st) M Q ↔ zQ 133 28 L (.long x.toInt64 :: st) M Q := zq_go (i := .i2l) (by decide +kernel) rfl
theorem q133_28 : zQ 133 28 L st M Q ↔ zQ 133 29 L (.long 0 :: st) M Q := zq_lco (n := 0) (by decide +kernel) (by decide +kernel) rfl
theorem q133_29 : zQ 133 29 L st M Q ↔ zQ 133 32 L (.long 40 :: st) M Q := zq_ld2 (n := 236) (by decide +kernel) (by decide +kernel) rfl
theorem q133_32 : zQ 133 32 L (.long l3 :: .long l2 :: .long l1 :: st) M Q ↔ zcs st ≤ 8 ∧ zQ 84 0 [.long l1, .null, .long l2, .null, .long l3, .null] [] M (fun r M1 => zQ 133 35 L (zpush r st) M1 Q) := zq_callS (n := 89) (j := 84) (b := false) (As := [.long l1, .long l2, .long l3]) (by decide +kernel) (by decide +kernel) ⟨by decide +kernel, by decide +kernel, rfl, by decide +kernel, by decide +kernel, Nat.le_of_ble_eq_true rfl⟩ rfl
theorem q133_35 : zQ 133 35 L (.int x :: st) M Q ↔ (x = 0 → zQ 133 38 L st M Q) ∧ (¬ x = 0 → zQ 133 45 L st M Q) := zq_bn (i := .ifCond .ne 10) (off := 10) (by decide +kernel) rfl (by decide) rfl
theorem q133_38 : zQ 133 38 [.ref a, v1, v2, v3, v4, v5, v6, v7, v8, v9] st M Q ↔ zQ 133 39 [.ref a, v1, v2, v3, v4, v5, v6, v7, v8, v9] (.ref a :: st) M Q := zq_go (i := .aload_n 0) (by decide +kernel) rfl
theorem q133_39 : zQ 133 39 L st M Q ↔ zQ 133 41 L (.int (-2) :: st) M Q := zq_bip (n := (-2)) (by decide +kernel) (by decide +kernel) rfl
theorem q133_41 : zQ 133 41 L (.int x1 :: .ref a :: st) M Q ↔ (zcs st ≤ 8 ∧ a < zNC ∧ zk a = 6) ∧ zQ 89 0 [.ref a, .int x1] [] M (fun r M1 => zQ 133 44 L (zpush r st) M1 Q) := zq_callV (n := 123) (j := 89) (b := false) (As := [.int x1]) (by decide +kernel) (by decide +kernel) ⟨by decide +kernel, by decide +kernel, rfl, by decide +kernel, by decide +kernel, Nat.le_of_ble_eq_true rfl⟩ rfl
theorem q133_44 : zQ 133 44 L [.int x] M Q ↔ Q (zI x) M := zq_reI (by decide +kernel) (by decide +kernel)
theorem q133_45 : zQ 133 45 [.ref a, v1, v2, v3, v4, v5, v6, v7, v8, v9] st M Q ↔ zQ 133 46 [.ref a, v1, v2, v3, v4, v5, v6, v7, v8, v9] (.ref a :: st) M Q := zq_go (i := .aload_n 0) (by decide +kernel) rfl
theorem q133_46 : zQ 133 46 L (.ref a :: st) M Q ↔ (a < zNC ∧ zk a = 6) ∧ zQ 133 49 L (zfv a 1 M :: st) M Q := zq_getf (n := 86) (b := false) (by decide +kernel) (by decide +kernel)
theorem q133_49 : zQ 133 49 L (.int x :: st) M Q ↔ (x = 0 → zQ 133 52 L st M Q) ∧ (¬ x = 0 → zQ 133 59 L st M Q) := zq_bn (i := .ifCond .ne 10) (off := 10) (by decide +kernel) rfl (by decide) rfl
theorem q133_52 : zQ 133 52 [.ref a, v1, v2, v3, v4, v5, v6, v7, v8, v9] st M Q ↔ zQ 133 53 [.ref a, v1, v2, v3, v4, v5, v6, v7, v8, v9] (.ref a :: st) M Q := zq_go (i := .aload_n 0) (by decide +kernel) rfl
theorem q133_53 : zQ 133 53 L st M Q ↔ zQ 133 55 L (.int (-3) :: st) M Q := zq_bip (n := (-3)) (by decide +kernel) (by decide +kernel) rfl
theorem q133_55 : zQ 133 55 L (.int x1 :: .ref a :: st) M Q ↔ (zcs st ≤ 8 ∧ a < zNC ∧ zk a = 6) ∧ zQ 89 0 [.ref a, .int x1] [] M (fun r M1 => zQ 133 58 L (zpush r st) M1 Q) := zq_callV (n := 123) (j := 89) (b := false) (As := [.int x1]) (by decide +kernel) (by decide +kernel) ⟨by decide +kernel, by decide +kernel, rfl, by decide +kernel, by decide +kernel, Nat.le_of_ble_eq_true rfl⟩ rfl
theorem q133_58 : zQ 133 58 L [.int x] M Q ↔ Q (zI x) M := zq_reI (by decide +kernel) (by decide +kernel)
theorem q133_59 : zQ 133 59 [.ref a, v1, v2, v3, v4, v5, v6, v7, v8, v9] st M Q ↔ zQ 133 60 [.ref a, v1, v2, v3, v4, v5, v6, v7, v8, v9] (.ref a :: st) M Q := zq_go (i := .aload_n 0) (by decide +kernel) rfl
theorem q133_60 : zQ 133 60 [v0, .int x, v2, v3, v4, v5, v6, v7, v8, v9] st M Q ↔ zQ 133 61 [v0, .int x, v2, v3, v4, v5, v6, v7, v8, v9] (.int x :: st) M Q := zq_go (i := .iload_n 1) (by decide +kernel) rfl
theorem q133_61 : zQ 133 61 [v0, v1, .int x, v3, v4, v5, v6, v7, v8, v9] st M Q ↔ zQ 133 62 [v0, v1, .int x, v3, v4, v5, v6, v7, v8, v9] (.int x :: st) M Q := zq_go (i := .iload_n 2) (by decide +kernel) rfl
theorem q133_62 : zQ 133 62 [v0, v1, v2, .int x, v4, v5, v6, v7, v8, v9] st M Q ↔ zQ 133 63 [v0, v1, v2, .int x, v4, v5, v6, v7, v8, v9] (.int x :: st) M Q := zq_go (i := .iload_n 3) (by decide +kernel) rfl
theorem q133_63 : zQ 133 63 [v0, v1, v2, v3, .int x, v5, v6, v7, v8, v9] st M Q ↔ zQ 133 65 [v0, v1, v2, v3, .int x, v5, v6, v7, v8, v9] (.int x :: st) M Q := zq_go (i := .iload 4) (by decide +kernel) rfl
theorem q133_65 : zQ 133 65 L (.int x :: st) M Q ↔ zQ 133 66 L (.long x.toInt64 :: st) M Q := zq_go (i := .i2l) (by decide +kernel) rfl
theorem q133_66 : zQ 133 66 L (.long l1 :: .int x3 :: .int x2 :: .int x1 :: .ref a :: st) M Q ↔ (zcs st ≤ 8 ∧ a < zNC ∧ zk a = 6) ∧ zQ 97 0 [.ref a, .int x1, .int x2, .int x3, .long l1, .null] [] M (fun r M1 => zQ 133 69 L (zpush r st) M1 Q) := zq_callV (n := 128) (j := 97) (b := false) (As := [.int x1, .int x2, .int x3, .long l1]) (by decide +kernel) (by decide +kernel) ⟨by decide +kernel, by decide +kernel, rfl, by decide +kernel, by decide +kernel, Nat.le_of_ble_eq_true rfl⟩ rfl
theorem q133_69i : zQ 133 69 [v0, v1, v2, v3, .int y, v5, v6, v7, v8, v9] (.int x :: st) M Q ↔ zQ 133 71 [v0, v1, v2, v3, .int y, .int x, v6, v7, v8, v9] st M Q := zq_stI (i := .istore 5) (k := 5) (by decide +kernel) rfl (Nat.le_of_ble_eq_true rfl) rfl rfl
theorem q133_69r : zQ 133 69 [v0, v1, v2, v3, .ref r1, v5, v6, v7, v8, v9] (.int x :: st) M Q ↔ zQ 133 71 [v0, v1, v2, v3, .ref r1, .int x, v6, v7, v8, v9] st M Q := zq_stI (i := .istore 5) (k := 5) (by decide +kernel) rfl (Nat.le_of_ble_eq_true rfl) rfl rfl
theorem q133_69n : zQ 133 69 [v0, v1, v2, v3, .null, v5, v6, v7, v8, v9] (.int x :: st) M Q ↔ zQ 133 71 [v0, v1, v2, v3, .null, .int x, v6, v7, v8, v9] st M Q := zq_stI (i := .istore 5) (k := 5) (by decide +kernel) rfl (Nat.le_of_ble_eq_true rfl) rfl rfl
theorem q133_71 : zQ 133 71 [v0, v1, v2, v3, v4, .int x, v6, v7, v8, v9] st M Q ↔ zQ 133 73 [v0, v1, v2, v3, v4, .int x, v6, v7, v8, v9] (.int x :: st) M Q := zq_go (i := .iload 5) (by decide +kernel) rfl
theorem q133_73 : zQ 133 73 L (.int x :: st) M Q ↔ (0 ≤ x → zQ 133 79 L st M Q) ∧ (¬ 0 ≤ x → zQ 133 76 L st M Q) := zq_br (i := .ifCond .ge 6) (off := 6) (by decide +kernel) rfl (by decide) rfl
theorem q133_76 : zQ 133 76 [v0, v1, v2, v3, v4, .int x, v6, v7, v8, v9] st M Q ↔ zQ 133 78 [v0, v1, v2, v3, v4, .int x, v6, v7, v8, v9] (.int x :: st) M Q := zq_go (i := .iload 5) (by decide +kernel) rfl
theorem q133_78 : zQ 133 78 L [.int x] M Q ↔ Q (zI x) M := zq_reI (by decide +kernel) (by decide +kernel)
theorem q133_79 : zQ 133 79 L st M Q ↔ zQ 133 80 L (.int 0 :: st) M Q := zq_con (n := 0) (by decide +kernel) (by decide +kernel) rfl
theorem q133_80i : zQ 133 80 [v0, v1, v2, v3, v4, .int y, v6, v7, v8, v9] (.int x :: st) M Q ↔ zQ 133 82 [v0, v1, v2, v3, v4, .int y, .int x, v7, v8, v9] st M Q := zq_stI (i := .istore 6) (k := 6) (by decide +kernel) rfl (Nat.le_of_ble_eq_true rfl) rfl rfl
theorem q133_80r : zQ 133 80 [v0, v1, v2, v3, v4, .ref r1, v6, v7, v8, v9] (.int x :: st) M Q ↔ zQ 133 82 [v0, v1, v2, v3, v4, .ref r1, .int x, v7, v8, v9] st M Q := zq_stI (i := .istore 6) (k := 6) (by decide +kernel) rfl (Nat.le_of_ble_eq_true rfl) rfl rfl
theorem q133_80n : zQ 133 80 [v0, v1, v2, v3, v4, .null, v6, v7, v8, v9] (.int x :: st) M Q ↔ zQ 133 82 [v0, v1, v2, v3, v4, .null, .int x, v7, v8, v9] st M Q := zq_stI (i := .istore 6) (k := 6) (by decide +kernel) rfl (Nat.le_of_ble_eq_true rfl) rfl rfl
theorem q133_82 : zQ 133 82 L st M Q ↔ zQ 133 83 L (.int 0 :: st) M Q := zq_con (n := 0) (by decide +kernel) (by decide +kernel) rfl
theorem q133_83i : zQ 133 83 [v0, v1, v2, v3, v4, v5, .int y, v7, v8, v9] (.int x :: st) M Q ↔ zQ 133 85 [v0, v1, v2, v3, v4, v5, .int y, .int x, v8, v9] st M Q := zq_stI (i := .istore 7) (k := 7) (by decide +kernel) rfl (Nat.le_of_ble_eq_true rfl) rfl rfl
theorem q133_83r : zQ 133 83 [v0, v1, v2, v3, v4, v5, .ref r1, v7, v8, v9] (.int x :: st) M Q ↔ zQ 133 85 [v0, v1, v2, v3, v4, v5, .ref r1, .int x, v8, v9] st M Q := zq_stI (i := .istore 7) (k := 7) (by decide +kernel) rfl (Nat.le_of_ble_eq_true rfl) rfl rfl
theorem q133_83n : zQ 133 83 [v0, v1, v2, v3, v4, v5, .null, v7, v8, v9] (.int x :: st) M Q ↔ zQ 133 85 [v0, v1, v2, v3, v4, v5, .null, .int x, v8, v9] st M Q := zq_stI (i := .istore 7) (k := 7) (by decide +kernel) rfl (Nat.le_of_ble_eq_true rfl) rfl rfl
theorem q133_85 : zQ 133 85 [v0, v1, v2, v3, v4, v5, v6, .int x, v8, v9] st M Q ↔ zQ 133 87 [v0, v1, v2, v3, v4, v5, v6, .int x, v8, v9] (.int x :: st) M Q := zq_go (i := .iload 7) (by decide +kernel) rfl
theorem q133_87 : zQ 133 87 [.ref a, v1, v2, v3, v4, v5, v6, v7, v8, v9] st M Q ↔ zQ 133 88 [.ref a, v1, v2, v3, v4, v5, v6, v7, v8, v9] (.ref a :: st) M Q := zq_go (i := .aload_n 0) (by decide +kernel) rfl
theorem q133_88 : zQ 133 88 L (.ref a :: st) M Q ↔ (a < zNC ∧ zk a = 6) ∧ zQ 133 91 L (zfv a 1 M :: st) M Q := zq_getf (n := 86) (b := false) (by decide +kernel) (by decide +kernel)
theorem q133_91 : zQ 133 91 L (.int y :: .int x :: st) M Q ↔ (y ≤ x → zQ 133 174 L st M Q) ∧ (¬ y ≤ x → zQ 133 94 L st M Q) := zq_br (i := .if_icmp .ge 83) (off := 83) (by decide +kernel) rfl (by decide) rfl
theorem q133_94 : zQ 133 94 L st M Q ↔ zQ 133 95 L (.int 1 :: st) M Q := zq_con (n := 1) (by decide +kernel) (by decide +kernel) rfl
theorem q133_95i : zQ 133 95 [v0, v1, v2, v3, v4, v5, v6, .int y, v8, v9] (.int x :: st) M Q ↔ zQ 133 97 [v0, v1, v2, v3, v4, v5, v6, .int y, .int x, v9] st M Q := zq_stI (i := .istore 8) (k := 8) (by decide +kernel) rfl (Nat.le_of_ble_eq_true rfl) rfl rfl
theorem q133_95r : zQ 133 95 [v0, v1, v2, v3, v4, v5, v6, .ref r1, v8, v9] (.int x :: st) M Q ↔ zQ 133 97 [v0, v1, v2, v3, v4, v5, v6, .ref r1, .int x, v9] st M Q := zq_stI (i := .istore 8) (k := 8) (by decide +kernel) rfl (Nat.le_of_ble_eq_true rfl) rfl rfl
theorem q133_95n : zQ 133 95 [v0, v1, v2, v3, v4, v5, v6, .null, v8, v9] (.int x :: st) M Q ↔ zQ 133 97 [v0, v1, v2, v3, v4, v5, v6, .null, .int x, v9] st M Q := zq_stI (i := .istore 8) (k := 8) (by decide +kernel) rfl (Nat.le_of_ble_eq_true rfl) rfl rfl
theorem q133_97 : zQ 133 97 L st M Q ↔ zQ 133 98 L (.int 0 :: st) M Q := zq_con (n := 0) (by decide +kernel) (by decide +kernel) rfl
theorem q133_98i : zQ 133 98 [v0, v1, v2, v3, v4, v5, v6, v7, .int y, v9] (.int x :: st) M Q ↔ zQ 133 100 [v0, v1, v2, v3, v4, v5, v6, v7, .int y, .int x] st M Q := zq_stI (i := .istore 9) (k := 9) (by decide +kernel) rfl (Nat.le_of_ble_eq_true rfl) rfl rfl
theorem q133_98r : zQ 133 98 [v0, v1, v2, v3, v4, v5, v6, v7, .ref r1, v9] (.int x :: st) M Q ↔ zQ 133 100 [v0, v1, v2, v3, v4, v5, v6, v7, .ref r1, .int x] st M Q := zq_stI (i := .istore 9) (k := 9) (by decide +kernel) rfl (Nat.le_of_ble_eq_true rfl) rfl rfl
theorem q133_98n : zQ 133 98 [v0, v1, v2, v3, v4, v5, v6, v7, .null, v9] (.int x :: st) M Q ↔ zQ 133 100 [v0, v1, v2, v3, v4, v5, v6, v7, .null, .int x] st M Q := zq_stI (i := .istore 9) (k := 9) (by decide +kernel) rfl (Nat.le_of_ble_eq_true rfl) rfl rfl
theorem q133_100 : zQ 133 100 [v0, v1, v2, v3, v4, v5, v6, v7, v8, .int x] st M Q ↔ zQ 133 102 [v0, v1, v2, v3, v4, v5, v6, v7, v8, .int x] (.int x :: st) M Q := zq_go (i := .iload 9) (by decide +kernel) rfl
theorem q133_102 : zQ 133 102 [v0, v1, v2, v3, .int x, v5, v6, v7, v8, v9] st M Q ↔ zQ 133 104 [v0, v1, v2, v3, .int x, v5, v6, v7, v8, v9] (.int x :: st) M Q := zq_go (i := .iload 4) (by decide +kernel) rfl
theorem q133_104 : zQ 133 104 L (.int y :: .int x :: st) M Q ↔ (y ≤ x → zQ 133 150 L st M Q) ∧ (¬ y ≤ x → zQ 133 107 L st M Q) := zq_br (i := .if_icmp .ge 46) (off := 46) (by decide +kernel) rfl (by decide) rfl
theorem q133_107 : zQ 133 107 [v0, v1, v2, v3, v4, v5, v6, v7, .int x, v9] st M Q ↔ zQ 133 109 [v0, v1, v2, v3, v4, v5, v6, v7, .int x, v9] (.int x :: st) M Q := zq_go (i := .iload 8) (by decide +kernel) rfl
theorem q133_109 : zQ 133 109 L (.int x :: st) M Q ↔ (x = 0 → zQ 133 141 L st M Q) ∧ (¬ x = 0 → zQ 133 112 L st M Q) := zq_br (i := .ifCond .eq 32) (off := 32) (by decide +kernel) rfl (by decide) rfl
theorem q133_112 : zQ 133 112 [.ref a, v1, v2, v3, v4, v5, v6, v7, v8, v9] st M Q ↔ zQ 133 113 [.ref a, v1, v2, v3, v4, v5, v6, v7, v8, v9] (.ref a :: st) M Q := zq_go (i := .aload_n 0) (by decide +kernel) rfl
theorem q133_113 : zQ 133 113 [v0, v1, v2, v3, v4, v5, v6, .int x, v8, v9] st M Q ↔ zQ 133 115 [v0, v1, v2, v3, v4, v5, v6, .int x, v8, v9] (.int x :: st) M Q := zq_go (i := .iload 7) (by decide +kernel) rfl
theorem q133_115 : zQ 133 115 [v0, v1, v2, v3, v4, v5, v6, v7, v8, .int x] st M Q ↔ zQ 133 117 [v0, v1, v2, v3, v4, v5, v6, v7, v8, .int x] (.int x :: st) M Q := zq_go (i := .iload 9) (by decide +kernel) rfl
theorem q133_117 : zQ 133 117 L (.int x2 :: .int x1 :: .ref a :: st) M Q ↔ (zcs st ≤ 8 ∧ a < zNC ∧ zk a = 6) ∧ zQ 113 0 [.ref a, .int x1, .int x2, .null] [] M (fun r M1 => zQ 133 120 L (zpush r st) M1 Q) := zq_callV (n := 171) (j := 113) (b := false) (As := [.int x1, .int x2]) (by decide +kernel) (by decide +kernel) ⟨by decide +kernel, by decide +kernel, rfl, by decide +kernel, by decide +kernel, Nat.le_of_ble_eq_true rfl⟩ rfl
theorem q133_120 : zQ 133 120 [.ref a, v1, v2, v3, v4, v5, v6, v7, v8, v9] st M Q ↔ zQ 133 121 [.ref a, v1, v2, v3, v4, v5, v6, v7, v8, v9] (.ref a :: st) M Q := zq_go (i := .aload_n 0) (by decide +kernel) rfl
theorem q133_121 : zQ 133 121 L (.ref a :: st) M Q ↔ (a < zNC ∧ zk a = 6) ∧ zQ 133 124 L (zfv a 29 M :: st) M Q := zq_getf (n := 70) (b := false) (by decide +kernel) (by decide +kernel)
theorem q133_124 : zQ 133 124 L st M Q ↔ zQ 133 126 L (.int 60 :: st) M Q := zq_bip (n := 60) (by decide +kernel) (by decide +kernel) rfl
theorem q133_126 : zQ 133 126 [v0, .int x, v2, v3, v4, v5, v6, v7, v8, v9] st M Q ↔ zQ 133 127 [v0, .int x, v2, v3, v4, v5, v6, v7, v8, v9] (.int x :: st) M Q := zq_go (i := .iload_n 1) (by decide +kernel) rfl
theorem q133_127 : zQ 133 127 L (.int y :: .int x :: st) M Q ↔ zQ 133 128 L (.int (x * y) :: st) M Q := zq_go (i := .imul) (by decide +kernel) rfl
theorem q133_128 : zQ 133 128 [v0, v1, v2, .int x, v4, v5, v6, v7, v8, v9] st M Q ↔ zQ 133 129 [v0, v1, v2, .int x, v4, v5, v6, v7, v8, v9] (.int x :: st) M Q := zq_go (i := .iload_n 3) (by decide +kernel) rfl
theorem q133_129 : zQ 133 129 L (.int y :: .int x :: st) M Q ↔ zQ 133 130 L (.int (x + y) :: st) M Q := zq_go (i := .iadd) (by decide +kernel) rfl
theorem q133_130 : zQ 133 130 [v0, v1, v2, v3, v4, v5, v6, v7, v8, .int x] st M Q ↔ zQ 133 132 [v0, v1, v2, v3, v4, v5, v6, v7, v8, .int x] (.int x :: st) M Q := zq_go (i := .iload 9) (by decide +kernel) rfl
theorem q133_132 : zQ 133 132 L (.int y :: .int x :: st) M Q ↔ zQ 133 133 L (.int (x + y) :: st) M Q := zq_go (i := .iadd) (by decide +kernel) rfl
theorem q133_133 : zQ 133 133 L (.int x :: .ref a :: st) M Q ↔ (a < zNC ∧ zk a = 7 ∧ zin x (zn a) = true) ∧ zQ 133 134 L (.int (M a x.toNatClampNeg) :: st) M Q := zq_iald (by decide +kernel)
theorem q133_134 : zQ 133 134 L (.int y :: .int x :: st) M Q ↔ (x = y → zQ 133 137 L st M Q) ∧ (¬ x = y → zQ 133 141 L st M Q) := zq_bn (i := .if_icmp .ne 7) (off := 7) (by decide +kernel) rfl (by decide) rfl
theorem q133_137 : zQ 133 137 L st M Q ↔ zQ 133 138 L (.int 1 :: st) M Q := zq_con (n := 1) (by decide +kernel) (by decide +kernel) rfl
theorem q133_138 : zQ 133 138 L st M Q ↔ zQ 133 142 L st M Q := zq_jmp (off := 4) (by decide +kernel) (by decide)
theorem q133_141 : zQ 133 141 L st M Q ↔ zQ 133 142 L (.int 0 :: st) M Q := zq_con (n := 0) (by decide +kernel) (by decide +kernel) rfl
theorem q133_142i : zQ 133 142 [v0, v1, v2, v3, v4, v5, v6, .int y, v8, v9] (.int x :: st) M Q ↔ zQ 133 144 [v0, v1, v2, v3, v4, v5, v6, .int y, .int x, v9] st M Q := zq_stI (i := .istore 8) (k := 8) (by decide +kernel) rfl (Nat.le_of_ble_eq_true rfl) rfl rfl
theorem q133_142r : zQ 133 142 [v0, v1, v2, v3, v4, v5, v6, .ref r1, v8, v9] (.int x :: st) M Q ↔ zQ 133 144 [v0, v1, v2, v3, v4, v5, v6, .ref r1, .int x, v9] st M Q := zq_stI (i := .istore 8) (k := 8) (by decide +kernel) rfl (Nat.le_of_ble_eq_true rfl) rfl rfl
theorem q133_142n : zQ 133 142 [v0, v1, v2, v3, v4, v5, v6, .null, v8, v9] (.int x :: st) M Q ↔ zQ 133 144 [v0, v1, v2, v3, v4, v5, v6, .null, .int x, v9] st M Q := zq_stI (i := .istore 8) (k := 8) (by decide +kernel) rfl (Nat.le_of_ble_eq_true rfl) rfl rfl
theorem q133_144i : zQ 133 144 [v0, v1, v2, v3, v4, v5, v6, v7, .int y, .int x] st M Q ↔ zQ 133 147 [v0, v1, v2, v3, v4, v5, v6, v7, .int y, .int (x + 1)] st M Q := zq_inc (k := 9) (n := 1) (x := x) (v := 1) (by decide +kernel) (by decide +kernel) rfl rfl rfl rfl
theorem q133_144r : zQ 133 144 [v0, v1, v2, v3, v4, v5, v6, v7, .ref r1, .int x] st M Q ↔ zQ 133 147 [v0, v1, v2, v3, v4, v5, v6, v7, .ref r1, .int (x + 1)] st M Q := zq_inc (k := 9) (n := 1) (x := x) (v := 1) (by decide +kernel) (by decide +kernel) rfl rfl rfl rfl
theorem q133_144n : zQ 133 144 [v0, v1, v2, v3, v4, v5, v6, v7, .null, .int x] st M Q ↔ zQ 133 147 [v0, v1, v2, v3, v4, v5, v6, v7, .null, .int (x + 1)] st M Q := zq_inc (k := 9) (n := 1) (x := x) (v := 1) (by decide +kernel) (by decide +kernel) rfl rfl rfl rfl
theorem q133_147 : zQ 133 147 L st M Q ↔ zQ 133 100 L st M Q := zq_jmp (off := (-47)) (by decide +kernel) (by decide)
theorem q133_150 : zQ 133 150 [v0, v1, v2, v3, v4, v5, .int x, v7, v8, v9] st M Q ↔ zQ 133 152 [v0, v1, v2, v3, v4, v5, .int x, v7, v8, v9] (.int x :: st) M Q := zq_go (i := .iload 6) (by decide +kernel) rfl
theorem q133_152 : zQ 133 152 [v0, v1, v2, v3, v4, v5, v6, v7, .int x, v9] st M Q ↔ zQ 133 154 [v0, v1, v2, v3, v4, v5, v6, v7, .int x, v9] (.int x :: st) M Q := zq_go (i := .iload 8) (by decide +kernel) rfl
theorem q133_154 : zQ 133 154 L (.int x :: st) M Q ↔ (x = 0 → zQ 133 164 L st M Q) ∧ (¬ x = 0 → zQ 133 157 L st M Q) := zq_br (i := .ifCond .eq 10) (off := 10) (by decide +kernel) rfl (by decide) rfl
theorem q133_157 : zQ 133 157 L st M Q ↔ zQ 133 158 L (.int 1 :: st) M Q := zq_con (n := 1) (by decide +kernel) (by decide +kernel) rfl
theorem q133_158 : zQ 133 158 [v0, v1, v2, v3, v4, v5, v6, .int x, v8, v9] st M Q ↔ zQ 133 160 [v0, v1, v2, v3, v4, v5, v6, .int x, v8, v9] (.int x :: st) M Q := zq_go (i := .iload 7) (by decide +kernel) rfl
theorem q133_160 : zQ 133 160 L (.int y :: .int x :: st) M Q ↔ zQ 133 161 L (.int (x <<< (y &&& 31)) :: st) M Q := zq_go (i := .ishl) (by decide +kernel) rfl
theorem q133_161 : zQ 133 161 L st M Q ↔ zQ 133 165 L st M Q := zq_jmp (off := 4) (by decide +kernel) (by decide)
theorem q133_164 : zQ 133 164 L st M Q ↔ zQ 133 165 L (.int 0 :: st) M Q := zq_con (n := 0) (by decide +kernel) (by decide +kernel) rfl
theorem q133_165 : zQ 133 165 L (.int y :: .int x :: st) M Q ↔ zQ 133 166 L (.int (x ||| y) :: st) M Q := zq_go (i := .ior) (by decide +kernel) rfl
theorem q133_166i : zQ 133 166 [v0, v1, v2, v3, v4, .int y, v6, v7, v8, v9] (.int x :: st) M Q ↔ zQ 133 168 [v0, v1, v2, v3, v4, .int y, .int x, v7, v8, v9] st M Q := zq_stI (i := .istore 6) (k := 6) (by decide +kernel) rfl (Nat.le_of_ble_eq_true rfl) rfl rfl
theorem q133_166r : zQ 133 166 [v0, v1, v2, v3, v4, .ref r1, v6, v7, v8, v9] (.int x :: st) M Q ↔ zQ 133 168 [v0, v1, v2, v3, v4, .ref r1, .int x, v7, v8, v9] st M Q := zq_stI (i := .istore 6) (k := 6) (by decide +kernel) rfl (Nat.le_of_ble_eq_true rfl) rfl rfl
theorem q133_166n : zQ 133 166 [v0, v1, v2, v3, v4, .null, v6, v7, v8, v9] (.int x :: st) M Q ↔ zQ 133 168 [v0, v1, v2, v3, v4, .null, .int x, v7, v8, v9] st M Q := zq_stI (i := .istore 6) (k := 6) (by decide +kernel) rfl (Nat.le_of_ble_eq_true rfl) rfl rfl
theorem q133_168i : zQ 133 168 [v0, v1, v2, v3, v4, v5, .int y, .int x, v8, v9] st M Q ↔ zQ 133 171 [v0, v1, v2, v3, v4, v5, .int y, .int (x + 1), v8, v9] st M Q := zq_inc (k := 7) (n := 1) (x := x) (v := 1) (by decide +kernel) (by decide +kernel) rfl rfl rfl rfl
theorem q133_168r : zQ 133 168 [v0, v1, v2, v3, v4, v5, .ref r1, .int x, v8, v9] st M Q ↔ zQ 133 171 [v0, v1, v2, v3, v4, v5, .ref r1, .int (x + 1), v8, v9] st M Q := zq_inc (k := 7) (n := 1) (x := x) (v := 1) (by decide +kernel) (by decide +kernel) rfl rfl rfl rfl
theorem q133_168n : zQ 133 168 [v0, v1, v2, v3, v4, v5, .null, .int x, v8, v9] st M Q ↔ zQ 133 171 [v0, v1, v2, v3, v4, v5, .null, .int (x + 1), v8, v9] st M Q := zq_inc (k := 7) (n := 1) (x := x) (v := 1) (by decide +kernel) (by decide +kernel) rfl rfl rfl rfl
theorem q133_171 : zQ 133 171 L st M Q ↔ zQ 133 85 L st M Q := zq_jmp (off := (-86)) (by decide +kernel) (by decide)
theorem q133_174 : zQ 133 174 [.ref a, v1, v2, v3, v4, v5, v6, v7, v8, v9] st M Q ↔ zQ 133 175 [.ref a, v1, v2, v3, v4, v5, v6, v7, v8, v9] (.ref a :: st) M Q := zq_go (i := .aload_n 0) (by decide +kernel) rfl
theorem q133_175 : zQ 133 175 [v0, v1, v2, v3, v4, v5, .int x, v7, v8, v9] st M Q ↔ zQ 133 177 [v0, v1, v2, v3, v4, v5, .int x, v7, v8, v9] (.int x :: st) M Q := zq_go (i := .iload 6) (by decide +kernel) rfl
theorem q133_177 : zQ 133 177 L (.int x1 :: .ref a :: st) M Q ↔ (zcs st ≤ 8 ∧ a < zNC ∧ zk a = 6) ∧ zQ 89 0 [.ref a, .int x1] [] M (fun r M1 => zQ 133 180 L (zpush r st) M1 Q) := zq_callV (n := 123) (j := 89) (b := false) (As := [.int x1]) (by decide +kernel) (by decide +kernel) ⟨by decide +kernel, by decide +kernel, rfl, by decide +kernel, by decide +kernel, Nat.le_of_ble_eq_true rfl⟩ rfl
theorem q133_180 : zQ 133 180 L [.int x] M Q ↔ Q (zI x) M := zq_reI (by decide +kernel) (by decide +kernel)
-- 134 SandKeepersModel.reading(III)I
theorem q134_0 : zQ 134 0 [.ref a, v1, v2, v3] st M Q ↔ zQ 134 1 [.ref a, v1, v2, v3] (.ref a :: st) M Q := zq_go (i := .aload_n 0) (by decide +kernel) rfl
theorem q134_1 : zQ 134 1 [v0, .int x, v2, v3] st M Q ↔ zQ 134 2 [v0, .int x, v2, v3] (.int x :: st) M Q := zq_go (i := .iload_n 1) (by decide +kernel) rfl
theorem q134_2 : zQ 134 2 L (.int x1 :: .ref a :: st) M Q ↔ (zcs st ≤ 8 ∧ a < zNC ∧ zk a = 6) ∧ zQ 92 0 [.ref a, .int x1] [] M (fun r M1 => zQ 134 5 L (zpush r st) M1 Q) := zq_callV (n := 145) (j := 92) (b := false) (As := [.int x1]) (by decide +kernel) (by decide +kernel) ⟨by decide +kernel, by decide +kernel, rfl, by decide +kernel, by decide +kernel, Nat.le_of_ble_eq_true rfl⟩ rfl
theorem q134_5 : zQ 134 5 L (.int x :: st) M Q ↔ (x = 0 → zQ 134 10 L st M Q) ∧ (¬ x = 0 → zQ 134 8 L st M Q) := zq_br (i := .ifCond .eq 5) (off := 5) (by decide +kernel) rfl (by decide) rfl
theorem q134_8 : zQ 134 8 L st M Q ↔ zQ 134 9 L (.int (-1) :: st) M Q := zq_con (n := (-1)) (by decide +kernel) (by decide +kernel) rfl
theorem q134_9 : zQ 134 9 L [.int x] M Q ↔ Q (zI x) M := zq_reI (by decide +kernel) (by decide +kernel)
theorem q134_10 : zQ 134 10 [v0, v1, .int x, v3] st M Q ↔ zQ 134 11 [v0, v1, .int x, v3] (.int x :: st) M Q := zq_go (i := .iload_n 2) (by decide +kernel) rfl
theorem q134_11 : zQ 134 11 L (.int x :: st) M Q ↔ zQ 134 12 L (.long x.toInt64 :: st) M Q := zq_go (i := .i2l) (by decide +kernel) rfl
theorem q134_12 : zQ 134 12 L st M Q ↔ zQ 134 13 L (.long 0 :: st) M Q := zq_lco (n := 0) (by decide +kernel) (by decide +kernel) rfl
theorem q134_13 : zQ 134 13 L st M Q ↔ zQ 134 16 L (.long 99 :: st) M Q := zq_ld2 (n := 174) (by decide +kernel) (by decide +kernel) rfl
theorem q134_16 : zQ 134 16 L (.long l3 :: .long l2 :: .long l1 :: st) M Q ↔ zcs st ≤ 8 ∧ zQ 84 0 [.long l1, .null, .long l2, .null, .long l3, .null] [] M (fun r M1 => zQ 134 19 L (zpush r st) M1 Q) := zq_callS (n := 89) (j := 84) (b := false) (As := [.long l1, .long l2, .long l3]) (by decide +kernel) (by decide +kernel) ⟨by decide +kernel, by decide +kernel, rfl, by decide +kernel, by decide +kernel, Nat.le_of_ble_eq_true rfl⟩ rfl
theorem q134_19 : zQ 134 19 L (.int x :: st) M Q ↔ (x = 0 → zQ 134 34 L st M Q) ∧ (¬ x = 0 → zQ 134 22 L st M Q) := zq_br (i := .ifCond .eq 15) (off := 15) (by decide +kernel) rfl (by decide) rfl
theorem q134_22 : zQ 134 22 [v0, v1, v2, .int x] st M Q ↔ zQ 134 23 [v0, v1, v2, .int x] (.int x :: st) M Q := zq_go (i := .iload_n 3) (by decide +kernel) rfl
theorem q134_23 : zQ 134 23 L (.int x :: st) M Q ↔ zQ 134 24 L (.long x.toInt64 :: st) M Q := zq_go (i := .i2l) (by decide +kernel) rfl
theorem q134_24 : zQ 134 24 L st M Q ↔ zQ 134 25 L (.long 0 :: st) M Q := zq_lco (n := 0) (by decide +kernel) (by decide +kernel) rfl
theorem q134_25 : zQ 134 25 L st M Q ↔ zQ 134 28 L (.long 99 :: st) M Q := zq_ld2 (n := 174) (by decide +kernel) (by decide +kernel) rfl
theorem q134_28 : zQ 134 28 L (.long l3 :: .long l2 :: .long l1 :: st) M Q ↔ zcs st ≤ 8 ∧ zQ 84 0 [.long l1, .null, .long l2, .null, .long l3, .null] [] M (fun r M1 => zQ 134 31 L (zpush r st) M1 Q) := zq_callS (n := 89) (j := 84) (b := false) (As := [.long l1, .long l2, .long l3]) (by decide +kernel) (by decide +kernel) ⟨by decide +kernel, by decide +kernel, rfl, by decide +kernel, by decide +kernel, Nat.le_of_ble_eq_true rfl⟩ rfl
theorem q134_31 : zQ 134 31 L (.int x :: st) M Q ↔ (x = 0 → zQ 134 34 L st M Q) ∧ (¬ x = 0 → zQ 134 37 L st M Q) := zq_bn (i := .ifCond .ne 6) (off := 6) (by decide +kernel) rfl (by decide) rfl
theorem q134_34 : zQ 134 34 L st M Q ↔ zQ 134 36 L (.int (-2) :: st) M Q := zq_bip (n := (-2)) (by decide +kernel) (by decide +kernel) rfl
theorem q134_36 : zQ 134 36 L [.int x] M Q ↔ Q (zI x) M := zq_reI (by decide +kernel) (by decide +kernel)
theorem q134_37 : zQ 134 37 [.ref a, v1, v2, v3] st M Q ↔ zQ 134 38 [.ref a, v1, v2, v3] (.ref a :: st) M Q := zq_go (i := .aload_n 0) (by decide +kernel) rfl
theorem q134_38 : zQ 134 38 L (.ref a :: st) M Q ↔ (a < zNC ∧ zk a = 6) ∧ zQ 134 41 L (zfv a 23 M :: st) M Q := zq_getf (n := 142) (b := false) (by decide +kernel) (by decide +kernel)
theorem q134_41 : zQ 134 41 L st M Q ↔ zQ 134 43 L (.int 8 :: st) M Q := zq_bip (n := 8) (by decide +kernel) (by decide +kernel) rfl
theorem q134_43 : zQ 134 43 L (.int y :: .int x :: st) M Q ↔ (x = y → zQ 134 46 L st M Q) ∧ (¬ x = y → zQ 134 49 L st M Q) := zq_bn (i := .if_icmp .ne 6) (off := 6) (by decide +kernel) rfl (by decide) rfl
theorem q134_46 : zQ 134 46 L st M Q ↔ zQ 134 48 L (.int (-4) :: st) M Q := zq_bip (n := (-4)) (by decide +kernel) (by decide +kernel) rfl
theorem q134_48 : zQ 134 48 L [.int x] M Q ↔ Q (zI x) M := zq_reI (by decide +kernel) (by decide +kernel)
theorem q134_49 : zQ 134 49 [.ref a, v1, v2, v3] st M Q ↔ zQ 134 50 [.ref a, v1, v2, v3] (.ref a :: st) M Q := zq_go (i := .aload_n 0) (by decide +kernel) rfl
theorem q134_50 : zQ 134 50 L (.ref a :: st) M Q ↔ (a < zNC ∧ zk a = 6) ∧ zQ 134 53 L (zfv a 24 M :: st) M Q := zq_getf (n := 55) (b := false) (by decide +kernel) (by decide +kernel)
theorem q134_53 : zQ 134 53 [.ref a, v1, v2, v3] st M Q ↔ zQ 134 54 [.ref a, v1, v2, v3] (.ref a :: st) M Q := zq_go (i := .aload_n 0) (by decide +kernel) rfl
theorem q134_54 : zQ 134 54 L (.ref a :: st) M Q ↔ (a < zNC ∧ zk a = 6) ∧ zQ 134 57 L (zfv a 23 M :: st) M Q := zq_getf (n := 142) (b := false) (by decide +kernel) (by decide +kernel)
theorem q134_57 : zQ 134 57 [v0, .int x, v2, v3] st M Q ↔ zQ 134 58 [v0, .int x, v2, v3] (.int x :: st) M Q := zq_go (i := .iload_n 1) (by decide +kernel) rfl
theorem q134_58 : zQ 134 58 L (.int x :: .int y :: .ref a :: st) M Q ↔ (a < zNC ∧ zk a = 7 ∧ zin y (zn a) = true) ∧ zQ 134 59 L st (zup M a y.toNatClampNeg x) Q := zq_iast (by decide +kernel)
theorem q134_59 : zQ 134 59 [.ref a, v1, v2, v3] st M Q ↔ zQ 134 60 [.ref a, v1, v2, v3] (.ref a :: st) M Q := zq_go (i := .aload_n 0) (by decide +kernel) rfl
theorem q134_60 : zQ 134 60 L (.ref a :: st) M Q ↔ (a < zNC ∧ zk a = 6) ∧ zQ 134 63 L (zfv a 25 M :: st) M Q := zq_getf (n := 58) (b := false) (by decide +kernel) (by decide +kernel)
theorem q134_63 : zQ 134 63 [.ref a, v1, v2, v3] st M Q ↔ zQ 134 64 [.ref a, v1, v2, v3] (.ref a :: st) M Q := zq_go (i := .aload_n 0) (by decide +kernel) rfl
theorem q134_64 : zQ 134 64 L (.ref a :: st) M Q ↔ (a < zNC ∧ zk a = 6) ∧ zQ 134 67 L (zfv a 23 M :: st) M Q := zq_getf (n := 142) (b := false) (by decide +kernel) (by decide +kernel)
theorem q134_67 : zQ 134 67 [v0, v1, .int x, v3] st M Q ↔ zQ 134 68 [v0, v1, .int x, v3] (.int x :: st) M Q := zq_go (i := .iload_n 2) (by decide +kernel) rfl
theorem q134_68 : zQ 134 68 L (.int x :: .int y :: .ref a :: st) M Q ↔ (a < zNC ∧ zk a = 7 ∧ zin y (zn a) = true) ∧ zQ 134 69 L st (zup M a y.toNatClampNeg x) Q := zq_iast (by decide +kernel)
theorem q134_69 : zQ 134 69 [.ref a, v1, v2, v3] st M Q ↔ zQ 134 70 [.ref a, v1, v2, v3] (.ref a :: st) M Q := zq_go (i := .aload_n 0) (by decide +kernel) rfl
theorem q134_70 : zQ 134 70 L (.ref a :: st) M Q ↔ (a < zNC ∧ zk a = 6) ∧ zQ 134 73 L (zfv a 26 M :: st) M Q := zq_getf (n := 61) (b := false) (by decide +kernel) (by decide +kernel)
theorem q134_73 : zQ 134 73 [.ref a, v1, v2, v3] st M Q ↔ zQ 134 74 [.ref a, v1, v2, v3] (.ref a :: st) M Q := zq_go (i := .aload_n 0) (by decide +kernel) rfl
theorem q134_74 : zQ 134 74 L (.ref a :: st) M Q ↔ (a < zNC ∧ zk a = 6) ∧ zQ 134 77 L (zfv a 23 M :: st) M Q := zq_getf (n := 142) (b := false) (by decide +kernel) (by decide +kernel)
theorem q134_77 : zQ 134 77 [v0, v1, v2, .int x] st M Q ↔ zQ 134 78 [v0, v1, v2, .int x] (.int x :: st) M Q := zq_go (i := .iload_n 3) (by decide +kernel) rfl
theorem q134_78 : zQ 134 78 L (.int x :: .int y :: .ref a :: st) M Q ↔ (a < zNC ∧ zk a = 7 ∧ zin y (zn a) = true) ∧ zQ 134 79 L st (zup M a y.toNatClampNeg x) Q := zq_iast (by decide +kernel)
theorem q134_79 : zQ 134 79 [.ref a, v1, v2, v3] st M Q ↔ zQ 134 80 [.ref a, v1, v2, v3] (.ref a :: st) M Q := zq_go (i := .aload_n 0) (by decide +kernel) rfl
theorem q134_80 : zQ 134 80 L (.ref a :: st) M Q ↔ zQ 134 81 L (.ref a :: .ref a :: st) M Q := zq_go (i := .dup) (by decide +kernel) rfl
theorem q134_81 : zQ 134 81 L (.ref a :: st) M Q ↔ (a < zNC ∧ zk a = 6) ∧ zQ 134 84 L (zfv a 23 M :: st) M Q := zq_getf (n := 142) (b := false) (by decide +kernel) (by decide +kernel)
theorem q134_84 : zQ 134 84 L st M Q ↔ zQ 134 85 L (.int 1 :: st) M Q := zq_con (n := 1) (by decide +kernel) (by decide +kernel) rfl
theorem q134_85 : zQ 134 85 L (.int y :: .int x :: st) M Q ↔ zQ 134 86 L (.int (x + y) :: st) M Q := zq_go (i := .iadd) (by decide +kernel) rfl
theorem q134_86 : zQ 134 86 L (.int x :: .ref a :: st) M Q ↔ (a < zNC ∧ zk a = 6 ∧ zf a 23 = none) ∧ zQ 134 89 L st (zup M a 23 x) Q := zq_putf (n := 142) (b := false) (by decide +kernel) (by decide +kernel) (by decide +kernel)
theorem q134_89 : zQ 134 89 [.ref a, v1, v2, v3] st M Q ↔ zQ 134 90 [.ref a, v1, v2, v3] (.ref a :: st) M Q := zq_go (i := .aload_n 0) (by decide +kernel) rfl
theorem q134_90 : zQ 134 90 L (.ref a :: st) M Q ↔ (a < zNC ∧ zk a = 6) ∧ zQ 134 93 L (zfv a 23 M :: st) M Q := zq_getf (n := 142) (b := false) (by decide +kernel) (by decide +kernel)
theorem q134_93 : zQ 134 93 L st M Q ↔ zQ 134 94 L (.int 1 :: st) M Q := zq_con (n := 1) (by decide +kernel) (by decide +kernel) rfl
theorem q134_94 : zQ 134 94 L (.int y :: .int x :: st) M Q ↔ zQ 134 95 L (.int (x - y) :: st) M Q := zq_go (i := .isub) (by decide +kernel) rfl
theorem q134_95 : zQ 134 95 L [.int x] M Q ↔ Q (zI x) M := zq_reI (by decide +kernel) (by decide +kernel)
-- 135 SandKeepersModel.back(I)I
theorem q135_0 : zQ 135 0 [v0, .int x] st M Q ↔ zQ 135 1 [v0, .int x] (.int x :: st) M Q := zq_go (i := .iload_n 1) (by decide +kernel) rfl
theorem q135_1 : zQ 135 1 L (.int x :: st) M Q ↔ zQ 135 2 L (.long x.toInt64 :: st) M Q := zq_go (i := .i2l) (by decide +kernel) rfl
theorem q135_2 : zQ 135 2 L st M Q ↔ zQ 135 3 L (.long 0 :: st) M Q := zq_lco (n := 0) (by decide +kernel) (by decide +kernel) rfl
theorem q135_3 : zQ 135 3 [.ref a, v1] st M Q ↔ zQ 135 4 [.ref a, v1] (.ref a :: st) M Q := zq_go (i := .aload_n 0) (by decide +kernel) rfl
theorem q135_4 : zQ 135 4 L (.ref a :: st) M Q ↔ (a < zNC ∧ zk a = 6) ∧ zQ 135 7 L (zfv a 23 M :: st) M Q := zq_getf (n := 142) (b := false) (by decide +kernel) (by decide +kernel)
theorem q135_7 : zQ 135 7 L (.int x :: st) M Q ↔ zQ 135 8 L (.long x.toInt64 :: st) M Q := zq_go (i := .i2l) (by decide +kernel) rfl
theorem q135_8 : zQ 135 8 L (.long l3 :: .long l2 :: .long l1 :: st) M Q ↔ zcs st ≤ 8 ∧ zQ 84 0 [.long l1, .null, .long l2, .null, .long l3, .null] [] M (fun r M1 => zQ 135 11 L (zpush r st) M1 Q) := zq_callS (n := 89) (j := 84) (b := false) (As := [.long l1, .long l2, .long l3]) (by decide +kernel) (by decide +kernel) ⟨by decide +kernel, by decide +kernel, rfl, by decide +kernel, by decide +kernel, Nat.le_of_ble_eq_true rfl⟩ rfl
theorem q135_11 : zQ 135 11 L (.int x :: st) M Q ↔ (x = 0 → zQ 135 14 L st M Q) ∧ (¬ x = 0 → zQ 135 17 L st M Q) := zq_bn (i := .ifCond .ne 6) (off := 6) (by decide +kernel) rfl (by decide) rfl
theorem q135_14 : zQ 135 14 L st M Q ↔ zQ 135 16 L (.int (-2) :: st) M Q := zq_bip (n := (-2)) (by decide +kernel) (by decide +kernel) rfl
theorem q135_16 : zQ 135 16 L [.int x] M Q ↔ Q (zI x) M := zq_reI (by decide +kernel) (by decide +kernel)
theorem q135_17 : zQ 135 17 [.ref a, v1] st M Q ↔ zQ 135 18 [.ref a, v1] (.ref a :: st) M Q := zq_go (i := .aload_n 0) (by decide +kernel) rfl
theorem q135_18 : zQ 135 18 L (.ref a :: st) M Q ↔ zQ 135 19 L (.ref a :: .ref a :: st) M Q := zq_go (i := .dup) (by decide +kernel) rfl
theorem q135_19 : zQ 135 19 L (.ref a :: st) M Q ↔ (a < zNC ∧ zk a = 6) ∧ zQ 135 22 L (zfv a 23 M :: st) M Q := zq_getf (n := 142) (b := false) (by decide +kernel) (by decide +kernel)
theorem q135_22 : zQ 135 22 [v0, .int x] st M Q ↔ zQ 135 23 [v0, .int x] (.int x :: st) M Q := zq_go (i := .iload_n 1) (by decide +kernel) rfl
theorem q135_23 : zQ 135 23 L (.int y :: .int x :: st) M Q ↔ zQ 135 24 L (.int (x - y) :: st) M Q := zq_go (i := .isub) (by decide +kernel) rfl
theorem q135_24 : zQ 135 24 L (.int x :: .ref a :: st) M Q ↔ (a < zNC ∧ zk a = 6 ∧ zf a 23 = none) ∧ zQ 135 27 L st (zup M a 23 x) Q := zq_putf (n := 142) (b := false) (by decide +kernel) (by decide +kernel) (by decide +kernel)
theorem q135_27 : zQ 135 27 [.ref a, v1] st M Q ↔ zQ 135 28 [.ref a, v1] (.ref a :: st) M Q := zq_go (i := .aload_n 0) (by decide +kernel) rfl
theorem q135_28 : zQ 135 28 L (.ref a :: st) M Q ↔ (a < zNC ∧ zk a = 6) ∧ zQ 135 31 L (zfv a 23 M :: st) M Q := zq_getf (n := 142) (b := false) (by decide +kernel) (by decide +kernel)
theorem q135_31 : zQ 135 31 L [.int x] M Q ↔ Q (zI x) M := zq_reI (by decide +kernel) (by decide +kernel)
-- 136 SandKeepersModel.areSo()Z
theorem q136_0 : zQ 136 0 L st M Q ↔ zQ 136 1 L (.int 1 :: st) M Q := zq_con (n := 1) (by decide +kernel) (by decide +kernel) rfl
theorem q136_1i : zQ 136 1 [.int y, v1, v2] (.int x :: st) M Q ↔ zQ 136 2 [.int y, .int x, v2] st M Q := zq_stI (i := .istore_n 1) (k := 1) (by decide +kernel) rfl (Nat.le_of_ble_eq_true rfl) rfl rfl
theorem q136_1r : zQ 136 1 [.ref r1, v1, v2] (.int x :: st) M Q ↔ zQ 136 2 [.ref r1, .int x, v2] st M Q := zq_stI (i := .istore_n 1) (k := 1) (by decide +kernel) rfl (Nat.le_of_ble_eq_true rfl) rfl rfl
theorem q136_1n : zQ 136 1 [.null, v1, v2] (.int x :: st) M Q ↔ zQ 136 2 [.null, .int x, v2] st M Q := zq_stI (i := .istore_n 1) (k := 1) (by decide +kernel) rfl (Nat.le_of_ble_eq_true rfl) rfl rfl
theorem q136_2 : zQ 136 2 L st M Q ↔ zQ 136 3 L (.int 0 :: st) M Q := zq_con (n := 0) (by decide +kernel) (by decide +kernel) rfl
theorem q136_3i : zQ 136 3 [v0, .int y, v2] (.int x :: st) M Q ↔ zQ 136 4 [v0, .int y, .int x] st M Q := zq_stI (i := .istore_n 2) (k := 2) (by decide +kernel) rfl (Nat.le_of_ble_eq_true rfl) rfl rfl
theorem q136_3r : zQ 136 3 [v0, .ref r1, v2] (.int x :: st) M Q ↔ zQ 136 4 [v0, .ref r1, .int x] st M Q := zq_stI (i := .istore_n 2) (k := 2) (by decide +kernel) rfl (Nat.le_of_ble_eq_true rfl) rfl rfl
theorem q136_3n : zQ 136 3 [v0, .null, v2] (.int x :: st) M Q ↔ zQ 136 4 [v0, .null, .int x] st M Q := zq_stI (i := .istore_n 2) (k := 2) (by decide +kernel) rfl (Nat.le_of_ble_eq_true rfl) rfl rfl
theorem q136_4 : zQ 136 4 [v0, v1, .int x] st M Q ↔ zQ 136 5 [v0, v1, .int x] (.int x :: st) M Q := zq_go (i := .iload_n 2) (by decide +kernel) rfl
theorem q136_5 : zQ 136 5 [.ref a, v1, v2] st M Q ↔ zQ 136 6 [.ref a, v1, v2] (.ref a :: st) M Q := zq_go (i := .aload_n 0) (by decide +kernel) rfl
theorem q136_6 : zQ 136 6 L (.ref a :: st) M Q ↔ (a < zNC ∧ zk a = 6) ∧ zQ 136 9 L (zfv a 23 M :: st) M Q := zq_getf (n := 142) (b := false) (by decide +kernel) (by decide +kernel)
theorem q136_9 : zQ 136 9 L (.int y :: .int x :: st) M Q ↔ (y ≤ x → zQ 136 53 L st M Q) ∧ (¬ y ≤ x → zQ 136 12 L st M Q) := zq_br (i := .if_icmp .ge 44) (off := 44) (by decide +kernel) rfl (by decide) rfl
theorem q136_12 : zQ 136 12 [v0, .int x, v2] st M Q ↔ zQ 136 13 [v0, .int x, v2] (.int x :: st) M Q := zq_go (i := .iload_n 1) (by decide +kernel) rfl
theorem q136_13 : zQ 136 13 L (.int x :: st) M Q ↔ (x = 0 → zQ 136 45 L st M Q) ∧ (¬ x = 0 → zQ 136 16 L st M Q) := zq_br (i := .ifCond .eq 32) (off := 32) (by decide +kernel) rfl (by decide) rfl
theorem q136_16 : zQ 136 16 [.ref a, v1, v2] st M Q ↔ zQ 136 17 [.ref a, v1, v2] (.ref a :: st) M Q := zq_go (i := .aload_n 0) (by decide +kernel) rfl
theorem q136_17 : zQ 136 17 [.ref a, v1, v2] st M Q ↔ zQ 136 18 [.ref a, v1, v2] (.ref a :: st) M Q := zq_go (i := .aload_n 0) (by decide +kernel) rfl
theorem q136_18 : zQ 136 18 L (.ref a :: st) M Q ↔ (a < zNC ∧ zk a = 6) ∧ zQ 136 21 L (zfv a 24 M :: st) M Q := zq_getf (n := 55) (b := false) (by decide +kernel) (by decide +kernel)
theorem q136_21 : zQ 136 21 [v0, v1, .int x] st M Q ↔ zQ 136 22 [v0, v1, .int x] (.int x :: st) M Q := zq_go (i := .iload_n 2) (by decide +kernel) rfl
theorem q136_22 : zQ 136 22 L (.int x :: .ref a :: st) M Q ↔ (a < zNC ∧ zk a = 7 ∧ zin x (zn a) = true) ∧ zQ 136 23 L (.int (M a x.toNatClampNeg) :: st) M Q := zq_iald (by decide +kernel)
theorem q136_23 : zQ 136 23 [.ref a, v1, v2] st M Q ↔ zQ 136 24 [.ref a, v1, v2] (.ref a :: st) M Q := zq_go (i := .aload_n 0) (by decide +kernel) rfl
theorem q136_24 : zQ 136 24 L (.ref a :: st) M Q ↔ (a < zNC ∧ zk a = 6) ∧ zQ 136 27 L (zfv a 25 M :: st) M Q := zq_getf (n := 58) (b := false) (by decide +kernel) (by decide +kernel)
theorem q136_27 : zQ 136 27 [v0, v1, .int x] st M Q ↔ zQ 136 28 [v0, v1, .int x] (.int x :: st) M Q := zq_go (i := .iload_n 2) (by decide +kernel) rfl
theorem q136_28 : zQ 136 28 L (.int x :: .ref a :: st) M Q ↔ (a < zNC ∧ zk a = 7 ∧ zin x (zn a) = true) ∧ zQ 136 29 L (.int (M a x.toNatClampNeg) :: st) M Q := zq_iald (by decide +kernel)
theorem q136_29 : zQ 136 29 L (.int x2 :: .int x1 :: .ref a :: st) M Q ↔ (zcs st ≤ 8 ∧ a < zNC ∧ zk a = 6) ∧ zQ 113 0 [.ref a, .int x1, .int x2, .null] [] M (fun r M1 => zQ 136 32 L (zpush r st) M1 Q) := zq_callV (n := 171) (j := 113) (b := false) (As := [.int x1, .int x2]) (by decide +kernel) (by decide +kernel) ⟨by decide +kernel, by decide +kernel, rfl, by decide +kernel, by decide +kernel, Nat.le_of_ble_eq_true rfl⟩ rfl
theorem q136_32 : zQ 136 32 [.ref a, v1, v2] st M Q ↔ zQ 136 33 [.ref a, v1, v2] (.ref a :: st) M Q := zq_go (i := .aload_n 0) (by decide +kernel) rfl
theorem q136_33 : zQ 136 33 L (.ref a :: st) M Q ↔ (a < zNC ∧ zk a = 6) ∧ zQ 136 36 L (zfv a 26 M :: st) M Q := zq_getf (n := 61) (b := false) (by decide +kernel) (by decide +kernel)
theorem q136_36 : zQ 136 36 [v0, v1, .int x] st M Q ↔ zQ 136 37 [v0, v1, .int x] (.int x :: st) M Q := zq_go (i := .iload_n 2) (by decide +kernel) rfl
theorem q136_37 : zQ 136 37 L (.int x :: .ref a :: st) M Q ↔ (a < zNC ∧ zk a = 7 ∧ zin x (zn a) = true) ∧ zQ 136 38 L (.int (M a x.toNatClampNeg) :: st) M Q := zq_iald (by decide +kernel)
theorem q136_38 : zQ 136 38 L (.int y :: .int x :: st) M Q ↔ (x = y → zQ 136 41 L st M Q) ∧ (¬ x = y → zQ 136 45 L st M Q) := zq_bn (i := .if_icmp .ne 7) (off := 7) (by decide +kernel) rfl (by decide) rfl
theorem q136_41 : zQ 136 41 L st M Q ↔ zQ 136 42 L (.int 1 :: st) M Q := zq_con (n := 1) (by decide +kernel) (by decide +kernel) rfl
theorem q136_42 : zQ 136 42 L st M Q ↔ zQ 136 46 L st M Q := zq_jmp (off := 4) (by decide +kernel) (by decide)
theorem q136_45 : zQ 136 45 L st M Q ↔ zQ 136 46 L (.int 0 :: st) M Q := zq_con (n := 0) (by decide +kernel) (by decide +kernel) rfl
theorem q136_46i : zQ 136 46 [.int y, v1, v2] (.int x :: st) M Q ↔ zQ 136 47 [.int y, .int x, v2] st M Q := zq_stI (i := .istore_n 1) (k := 1) (by decide +kernel) rfl (Nat.le_of_ble_eq_true rfl) rfl rfl
theorem q136_46r : zQ 136 46 [.ref r1, v1, v2] (.int x :: st) M Q ↔ zQ 136 47 [.ref r1, .int x, v2] st M Q := zq_stI (i := .istore_n 1) (k := 1) (by decide +kernel) rfl (Nat.le_of_ble_eq_true rfl) rfl rfl
theorem q136_46n : zQ 136 46 [.null, v1, v2] (.int x :: st) M Q ↔ zQ 136 47 [.null, .int x, v2] st M Q := zq_stI (i := .istore_n 1) (k := 1) (by decide +kernel) rfl (Nat.le_of_ble_eq_true rfl) rfl rfl
theorem q136_47i : zQ 136 47 [v0, .int y, .int x] st M Q ↔ zQ 136 50 [v0, .int y, .int (x + 1)] st M Q := zq_inc (k := 2) (n := 1) (x := x) (v := 1) (by decide +kernel) (by decide +kernel) rfl rfl rfl rfl
theorem q136_47r : zQ 136 47 [v0, .ref r1, .int x] st M Q ↔ zQ 136 50 [v0, .ref r1, .int (x + 1)] st M Q := zq_inc (k := 2) (n := 1) (x := x) (v := 1) (by decide +kernel) (by decide +kernel) rfl rfl rfl rfl
theorem q136_47n : zQ 136 47 [v0, .null, .int x] st M Q ↔ zQ 136 50 [v0, .null, .int (x + 1)] st M Q := zq_inc (k := 2) (n := 1) (x := x) (v := 1) (by decide +kernel) (by decide +kernel) rfl rfl rfl rfl
theorem q136_50 : zQ 136 50 L st M Q ↔ zQ 136 4 L st M Q := zq_jmp (off := (-46)) (by decide +kernel) (by decide)
theorem q136_53 : zQ 136 53 [v0, .int x, v2] st M Q ↔ zQ 136 54 [v0, .int x, v2] (.int x :: st) M Q := zq_go (i := .iload_n 1) (by decide +kernel) rfl
theorem q136_54 : zQ 136 54 L [.int x] M Q ↔ (x = 0 ∨ x = 1) ∧ Q (zI x) M := zq_reZ (by decide +kernel) (by decide +kernel)
-- 137 SandKeepersModel.necks(I)I
theorem q137_0 : zQ 137 0 [.ref a, v1, v2, v3, v4] st M Q ↔ zQ 137 1 [.ref a, v1, v2, v3, v4] (.ref a :: st) M Q := zq_go (i := .aload_n 0) (by decide +kernel) rfl
theorem q137_1 : zQ 137 1 [v0, .int x, v2, v3, v4] st M Q ↔ zQ 137 2 [v0, .int x, v2, v3, v4] (.int x :: st) M Q := zq_go (i := .iload_n 1) (by decide +kernel) rfl
theorem q137_2 : zQ 137 2 L (.int x1 :: .ref a :: st) M Q ↔ (zcs st ≤ 8 ∧ a < zNC ∧ zk a = 6) ∧ zQ 92 0 [.ref a, .int x1] [] M (fun r M1 => zQ 137 5 L (zpush r st) M1 Q) := zq_callV (n := 145) (j := 92) (b := false) (As := [.int x1]) (by decide +kernel) (by decide +kernel) ⟨by decide +kernel, by decide +kernel, rfl, by decide +kernel, by decide +kernel, Nat.le_of_ble_eq_true rfl⟩ rfl
theorem q137_5 : zQ 137 5 L (.int x :: st) M Q ↔ (x = 0 → zQ 137 10 L st M Q) ∧ (¬ x = 0 → zQ 137 8 L st M Q) := zq_br (i := .ifCond .eq 5) (off := 5) (by decide +kernel) rfl (by decide) rfl
theorem q137_8 : zQ 137 8 L st M Q ↔ zQ 137 9 L (.int (-1) :: st) M Q := zq_con (n := (-1)) (by decide +kernel) (by decide +kernel) rfl
theorem q137_9 : zQ 137 9 L [.int x] M Q ↔ Q (zI x) M := zq_reI (by decide +kernel) (by decide +kernel)
theorem q137_10 : zQ 137 10 [.ref a, v1, v2, v3, v4] st M Q ↔ zQ 137 11 [.ref a, v1, v2, v3, v4] (.ref a :: st) M Q := zq_go (i := .aload_n 0) (by decide +kernel) rfl
theorem q137_11 : zQ 137 11 L (.ref a :: st) M Q ↔ (a < zNC ∧ zk a = 6) ∧ zQ 137 14 L (zfv a 6 M :: st) M Q := zq_getf (n := 19) (b := false) (by decide +kernel) (by decide +kernel)
theorem q137_14 : zQ 137 14 [v0, .int x, v2, v3, v4] st M Q ↔ zQ 137 15 [v0, .int x, v2, v3, v4] (.int x :: st) M Q := zq_go (i := .iload_n 1) (by decide +kernel) rfl
theorem q137_15 : zQ 137 15 L (.int x :: .ref a :: st) M Q ↔ (a < zNC ∧ zk a = 7 ∧ zin x (zn a) = true) ∧ zQ 137 16 L (.int (M a x.toNatClampNeg) :: st) M Q := zq_iald (by decide +kernel)
theorem q137_16i : zQ 137 16 [v0, .int y, v2, v3, v4] (.int x :: st) M Q ↔ zQ 137 17 [v0, .int y, .int x, v3, v4] st M Q := zq_stI (i := .istore_n 2) (k := 2) (by decide +kernel) rfl (Nat.le_of_ble_eq_true rfl) rfl rfl
theorem q137_16r : zQ 137 16 [v0, .ref r1, v2, v3, v4] (.int x :: st) M Q ↔ zQ 137 17 [v0, .ref r1, .int x, v3, v4] st M Q := zq_stI (i := .istore_n 2) (k := 2) (by decide +kernel) rfl (Nat.le_of_ble_eq_true rfl) rfl rfl
theorem q137_16n : zQ 137 16 [v0, .null, v2, v3, v4] (.int x :: st) M Q ↔ zQ 137 17 [v0, .null, .int x, v3, v4] st M Q := zq_stI (i := .istore_n 2) (k := 2) (by decide +kernel) rfl (Nat.le_of_ble_eq_true rfl) rfl rfl
theorem q137_17 : zQ 137 17 L st M Q ↔ zQ 137 18 L (.int 0 :: st) M Q := zq_con (n := 0) (by decide +kernel) (by decide +kernel) rfl
theorem q137_18i : zQ 137 18 [v0, v1, .int y, v3, v4] (.int x :: st) M Q ↔ zQ 137 19 [v0, v1, .int y, .int x, v4] st M Q := zq_stI (i := .istore_n 3) (k := 3) (by decide +kernel) rfl (Nat.le_of_ble_eq_true rfl) rfl rfl
theorem q137_18r : zQ 137 18 [v0, v1, .ref r1, v3, v4] (.int x :: st) M Q ↔ zQ 137 19 [v0, v1, .ref r1, .int x, v4] st M Q := zq_stI (i := .istore_n 3) (k := 3) (by decide +kernel) rfl (Nat.le_of_ble_eq_true rfl) rfl rfl
theorem q137_18n : zQ 137 18 [v0, v1, .null, v3, v4] (.int x :: st) M Q ↔ zQ 137 19 [v0, v1, .null, .int x, v4] st M Q := zq_stI (i := .istore_n 3) (k := 3) (by decide +kernel) rfl (Nat.le_of_ble_eq_true rfl) rfl rfl
theorem q137_19 : zQ 137 19 L st M Q ↔ zQ 137 20 L (.int 0 :: st) M Q := zq_con (n := 0) (by decide +kernel) (by decide +kernel) rfl
theorem q137_20i : zQ 137 20 [v0, v1, v2, .int y, v4] (.int x :: st) M Q ↔ zQ 137 22 [v0, v1, v2, .int y, .int x] st M Q := zq_stI (i := .istore 4) (k := 4) (by decide +kernel) rfl (Nat.le_of_ble_eq_true rfl) rfl rfl
theorem q137_20r : zQ 137 20 [v0, v1, v2, .ref r1, v4] (.int x :: st) M Q ↔ zQ 137 22 [v0, v1, v2, .ref r1, .int x] st M Q := zq_stI (i := .istore 4) (k := 4) (by decide +kernel) rfl (Nat.le_of_ble_eq_true rfl) rfl rfl
theorem q137_20n : zQ 137 20 [v0, v1, v2, .null, v4] (.int x :: st) M Q ↔ zQ 137 22 [v0, v1, v2, .null, .int x] st M Q := zq_stI (i := .istore 4) (k := 4) (by decide +kernel) rfl (Nat.le_of_ble_eq_true rfl) rfl rfl
theorem q137_22 : zQ 137 22 [v0, v1, v2, v3, .int x] st M Q ↔ zQ 137 24 [v0, v1, v2, v3, .int x] (.int x :: st) M Q := zq_go (i := .iload 4) (by decide +kernel) rfl
theorem q137_24 : zQ 137 24 L st M Q ↔ zQ 137 26 L (.int 10 :: st) M Q := zq_bip (n := 10) (by decide +kernel) (by decide +kernel) rfl
theorem q137_26 : zQ 137 26 L (.int y :: .int x :: st) M Q ↔ (y ≤ x → zQ 137 61 L st M Q) ∧ (¬ y ≤ x → zQ 137 29 L st M Q) := zq_br (i := .if_icmp .ge 35) (off := 35) (by decide +kernel) rfl (by decide) rfl
theorem q137_29 : zQ 137 29 [.ref a, v1, v2, v3, v4] st M Q ↔ zQ 137 30 [.ref a, v1, v2, v3, v4] (.ref a :: st) M Q := zq_go (i := .aload_n 0) (by decide +kernel) rfl
theorem q137_30 : zQ 137 30 L (.ref a :: st) M Q ↔ (a < zNC ∧ zk a = 6) ∧ zQ 137 33 L (zfv a 6 M :: st) M Q := zq_getf (n := 19) (b := false) (by decide +kernel) (by decide +kernel)
theorem q137_33 : zQ 137 33 [v0, .int x, v2, v3, v4] st M Q ↔ zQ 137 34 [v0, .int x, v2, v3, v4] (.int x :: st) M Q := zq_go (i := .iload_n 1) (by decide +kernel) rfl
theorem q137_34 : zQ 137 34 [v0, v1, v2, v3, .int x] st M Q ↔ zQ 137 36 [v0, v1, v2, v3, .int x] (.int x :: st) M Q := zq_go (i := .iload 4) (by decide +kernel) rfl
theorem q137_36 : zQ 137 36 L (.int x :: .int y :: .ref a :: st) M Q ↔ (a < zNC ∧ zk a = 7 ∧ zin y (zn a) = true) ∧ zQ 137 37 L st (zup M a y.toNatClampNeg x) Q := zq_iast (by decide +kernel)
theorem q137_37 : zQ 137 37 [v0, v1, v2, .int x, v4] st M Q ↔ zQ 137 38 [v0, v1, v2, .int x, v4] (.int x :: st) M Q := zq_go (i := .iload_n 3) (by decide +kernel) rfl
theorem q137_38 : zQ 137 38 [.ref a, v1, v2, v3, v4] st M Q ↔ zQ 137 39 [.ref a, v1, v2, v3, v4] (.ref a :: st) M Q := zq_go (i := .aload_n 0) (by decide +kernel) rfl
theorem q137_39 : zQ 137 39 L (.ref a :: st) M Q ↔ (zcs st ≤ 8 ∧ a < zNC ∧ zk a = 6) ∧ zQ 136 0 [.ref a, .null, .null] [] M (fun r M1 => zQ 137 42 L (zpush r st) M1 Q) := zq_callV (n := 238) (j := 136) (b := false) (As := []) (by decide +kernel) (by decide +kernel) ⟨by decide +kernel, by decide +kernel, rfl, by decide +kernel, by decide +kernel, Nat.le_of_ble_eq_true rfl⟩ rfl
theorem q137_42 : zQ 137 42 L (.int x :: st) M Q ↔ (x = 0 → zQ 137 52 L st M Q) ∧ (¬ x = 0 → zQ 137 45 L st M Q) := zq_br (i := .ifCond .eq 10) (off := 10) (by decide +kernel) rfl (by decide) rfl
theorem q137_45 : zQ 137 45 L st M Q ↔ zQ 137 46 L (.int 1 :: st) M Q := zq_con (n := 1) (by decide +kernel) (by decide +kernel) rfl
theorem q137_46 : zQ 137 46 [v0, v1, v2, v3, .int x] st M Q ↔ zQ 137 48 [v0, v1, v2, v3, .int x] (.int x :: st) M Q := zq_go (i := .iload 4) (by decide +kernel) rfl
theorem q137_48 : zQ 137 48 L (.int y :: .int x :: st) M Q ↔ zQ 137 49 L (.int (x <<< (y &&& 31)) :: st) M Q := zq_go (i := .ishl) (by decide +kernel) rfl
theorem q137_49 : zQ 137 49 L st M Q ↔ zQ 137 53 L st M Q := zq_jmp (off := 4) (by decide +kernel) (by decide)
theorem q137_52 : zQ 137 52 L st M Q ↔ zQ 137 53 L (.int 0 :: st) M Q := zq_con (n := 0) (by decide +kernel) (by decide +kernel) rfl
theorem q137_53 : zQ 137 53 L (.int y :: .int x :: st) M Q ↔ zQ 137 54 L (.int (x ||| y) :: st) M Q := zq_go (i := .ior) (by decide +kernel) rfl
theorem q137_54i : zQ 137 54 [v0, v1, .int y, v3, v4] (.int x :: st) M Q ↔ zQ 137 55 [v0, v1, .int y, .int x, v4] st M Q := zq_stI (i := .istore_n 3) (k := 3) (by decide +kernel) rfl (Nat.le_of_ble_eq_true rfl) rfl rfl
theorem q137_54r : zQ 137 54 [v0, v1, .ref r1, v3, v4] (.int x :: st) M Q ↔ zQ 137 55 [v0, v1, .ref r1, .int x, v4] st M Q := zq_stI (i := .istore_n 3) (k := 3) (by decide +kernel) rfl (Nat.le_of_ble_eq_true rfl) rfl rfl
theorem q137_54n : zQ 137 54 [v0, v1, .null, v3, v4] (.int x :: st) M Q ↔ zQ 137 55 [v0, v1, .null, .int x, v4] st M Q := zq_stI (i := .istore_n 3) (k := 3) (by decide +kernel) rfl (Nat.le_of_ble_eq_true rfl) rfl rfl
theorem q137_55i : zQ 137 55 [v0, v1, v2, .int y, .int x] st M Q ↔ zQ 137 58 [v0, v1, v2, .int y, .int (x + 1)] st M Q := zq_inc (k := 4) (n := 1) (x := x) (v := 1) (by decide +kernel) (by decide +kernel) rfl rfl rfl rfl
theorem q137_55r : zQ 137 55 [v0, v1, v2, .ref r1, .int x] st M Q ↔ zQ 137 58 [v0, v1, v2, .ref r1, .int (x + 1)] st M Q := zq_inc (k := 4) (n := 1) (x := x) (v := 1) (by decide +kernel) (by decide +kernel) rfl rfl rfl rfl
theorem q137_55n : zQ 137 55 [v0, v1, v2, .null, .int x] st M Q ↔ zQ 137 58 [v0, v1, v2, .null, .int (x + 1)] st M Q := zq_inc (k := 4) (n := 1) (x := x) (v := 1) (by decide +kernel) (by decide +kernel) rfl rfl rfl rfl
theorem q137_58 : zQ 137 58 L st M Q ↔ zQ 137 22 L st M Q := zq_jmp (off := (-36)) (by decide +kernel) (by decide)
theorem q137_61 : zQ 137 61 [.ref a, v1, v2, v3, v4] st M Q ↔ zQ 137 62 [.ref a, v1, v2, v3, v4] (.ref a :: st) M Q := zq_go (i := .aload_n 0) (by decide +kernel) rfl
theorem q137_62 : zQ 137 62 L (.ref a :: st) M Q ↔ (a < zNC ∧ zk a = 6) ∧ zQ 137 65 L (zfv a 6 M :: st) M Q := zq_getf (n := 19) (b := false) (by decide +kernel) (by decide +kernel)
theorem q137_65 : zQ 137 65 [v0, .int x, v2, v3, v4] st M Q ↔ zQ 137 66 [v0, .int x, v2, v3, v4] (.int x :: st) M Q := zq_go (i := .iload_n 1) (by decide +kernel) rfl
theorem q137_66 : zQ 137 66 [v0, v1, .int x, v3, v4] st M Q ↔ zQ 137 67 [v0, v1, .int x, v3, v4] (.int x :: st) M Q := zq_go (i := .iload_n 2) (by decide +kernel) rfl
theorem q137_67 : zQ 137 67 L (.int x :: .int y :: .ref a :: st) M Q ↔ (a < zNC ∧ zk a = 7 ∧ zin y (zn a) = true) ∧ zQ 137 68 L st (zup M a y.toNatClampNeg x) Q := zq_iast (by decide +kernel)
theorem q137_68 : zQ 137 68 [v0, v1, v2, .int x, v4] st M Q ↔ zQ 137 69 [v0, v1, v2, .int x, v4] (.int x :: st) M Q := zq_go (i := .iload_n 3) (by decide +kernel) rfl
theorem q137_69 : zQ 137 69 L [.int x] M Q ↔ Q (zI x) M := zq_reI (by decide +kernel) (by decide +kernel)
-- 138 SandKeepersModel.kinds(I)I
theorem q138_0 : zQ 138 0 [.ref a, v1, v2, v3, v4] st M Q ↔ zQ 138 1 [.ref a, v1, v2, v3, v4] (.ref a :: st) M Q := zq_go (i := .aload_n 0) (by decide +kernel) rfl
theorem q138_1 : zQ 138 1 [v0, .int x, v2, v3, v4] st M Q ↔ zQ 138 2 [v0, .int x, v2, v3, v4] (.int x :: st) M Q := zq_go (i := .iload_n 1) (by decide +kernel) rfl
theorem q138_2 : zQ 138 2 L (.int x1 :: .ref a :: st) M Q ↔ (zcs st ≤ 8 ∧ a < zNC ∧ zk a = 6) ∧ zQ 92 0 [.ref a, .int x1] [] M (fun r M1 => zQ 138 5 L (zpush r st) M1 Q) := zq_callV (n := 145) (j := 92) (b := false) (As := [.int x1]) (by decide +kernel) (by decide +kernel) ⟨by decide +kernel, by decide +kernel, rfl, by decide +kernel, by decide +kernel, Nat.le_of_ble_eq_true rfl⟩ rfl
theorem q138_5 : zQ 138 5 L (.int x :: st) M Q ↔ (x = 0 → zQ 138 10 L st M Q) ∧ (¬ x = 0 → zQ 138 8 L st M Q) := zq_br (i := .ifCond .eq 5) (off := 5) (by decide +kernel) rfl (by decide) rfl
theorem q138_8 : zQ 138 8 L st M Q ↔ zQ 138 9 L (.int (-1) :: st) M Q := zq_con (n := (-1)) (by decide +kernel) (by decide +kernel) rfl
theorem q138_9 : zQ 138 9 L [.int x] M Q ↔ Q (zI x) M := zq_reI (by decide +kernel) (by decide +kernel)
theorem q138_10 : zQ 138 10 [.ref a, v1, v2, v3, v4] st M Q ↔ zQ 138 11 [.ref a, v1, v2, v3, v4] (.ref a :: st) M Q := zq_go (i := .aload_n 0) (by decide +kernel) rfl
theorem q138_11 : zQ 138 11 L (.ref a :: st) M Q ↔ (a < zNC ∧ zk a = 6) ∧ zQ 138 14 L (zfv a 3 M :: st) M Q := zq_getf (n := 7) (b := false) (by decide +kernel) (by decide +kernel)
theorem q138_14 : zQ 138 14 [v0, .int x, v2, v3, v4] st M Q ↔ zQ 138 15 [v0, .int x, v2, v3, v4] (.int x :: st) M Q := zq_go (i := .iload_n 1) (by decide +kernel) rfl
theorem q138_15 : zQ 138 15 L (.int x :: .ref a :: st) M Q ↔ (a < zNC ∧ zk a = 7 ∧ zin x (zn a) = true) ∧ zQ 138 16 L (.int (M a x.toNatClampNeg) :: st) M Q := zq_iald (by decide +kernel)
theorem q138_16i : zQ 138 16 [v0, .int y, v2, v3, v4] (.int x :: st) M Q ↔ zQ 138 17 [v0, .int y, .int x, v3, v4] st M Q := zq_stI (i := .istore_n 2) (k := 2) (by decide +kernel) rfl (Nat.le_of_ble_eq_true rfl) rfl rfl
theorem q138_16r : zQ 138 16 [v0, .ref r1, v2, v3, v4] (.int x :: st) M Q ↔ zQ 138 17 [v0, .ref r1, .int x, v3, v4] st M Q := zq_stI (i := .istore_n 2) (k := 2) (by decide +kernel) rfl (Nat.le_of_ble_eq_true rfl) rfl rfl
theorem q138_16n : zQ 138 16 [v0, .null, v2, v3, v4] (.int x :: st) M Q ↔ zQ 138 17 [v0, .null, .int x, v3, v4] st M Q := zq_stI (i := .istore_n 2) (k := 2) (by decide +kernel) rfl (Nat.le_of_ble_eq_true rfl) rfl rfl
theorem q138_17 : zQ 138 17 L st M Q ↔ zQ 138 18 L (.int 0 :: st) M Q := zq_con (n := 0) (by decide +kernel) (by decide +kernel) rfl
theorem q138_18i : zQ 138 18 [v0, v1, .int y, v3, v4] (.int x :: st) M Q ↔ zQ 138 19 [v0, v1, .int y, .int x, v4] st M Q := zq_stI (i := .istore_n 3) (k := 3) (by decide +kernel) rfl (Nat.le_of_ble_eq_true rfl) rfl rfl
theorem q138_18r : zQ 138 18 [v0, v1, .ref r1, v3, v4] (.int x :: st) M Q ↔ zQ 138 19 [v0, v1, .ref r1, .int x, v4] st M Q := zq_stI (i := .istore_n 3) (k := 3) (by decide +kernel) rfl (Nat.le_of_ble_eq_true rfl) rfl rfl
theorem q138_18n : zQ 138 18 [v0, v1, .null, v3, v4] (.int x :: st) M Q ↔ zQ 138 19 [v0, v1, .null, .int x, v4] st M Q := zq_stI (i := .istore_n 3) (k := 3) (by decide +kernel) rfl (Nat.le_of_ble_eq_true rfl) rfl rfl
theorem q138_19 : zQ 138 19 L st M Q ↔ zQ 138 20 L (.int 0 :: st) M Q := zq_con (n := 0) (by decide +kernel) (by decide +kernel) rfl
theorem q138_20i : zQ 138 20 [v0, v1, v2, .int y, v4] (.int x :: st) M Q ↔ zQ 138 22 [v0, v1, v2, .int y, .int x] st M Q := zq_stI (i := .istore 4) (k := 4) (by decide +kernel) rfl (Nat.le_of_ble_eq_true rfl) rfl rfl
theorem q138_20r : zQ 138 20 [v0, v1, v2, .ref r1, v4] (.int x :: st) M Q ↔ zQ 138 22 [v0, v1, v2, .ref r1, .int x] st M Q := zq_stI (i := .istore 4) (k := 4) (by decide +kernel) rfl (Nat.le_of_ble_eq_true rfl) rfl rfl
theorem q138_20n : zQ 138 20 [v0, v1, v2, .null, v4] (.int x :: st) M Q ↔ zQ 138 22 [v0, v1, v2, .null, .int x] st M Q := zq_stI (i := .istore 4) (k := 4) (by decide +kernel) rfl (Nat.le_of_ble_eq_true rfl) rfl rfl
theorem q138_22 : zQ 138 22 [v0, v1, v2, v3, .int x] st M Q ↔ zQ 138 24 [v0, v1, v2, v3, .int x] (.int x :: st) M Q := zq_go (i := .iload 4) (by decide +kernel) rfl
theorem q138_24 : zQ 138 24 L st M Q ↔ zQ 138 25 L (.int 3 :: st) M Q := zq_con (n := 3) (by decide +kernel) (by decide +kernel) rfl
theorem q138_25 : zQ 138 25 L (.int y :: .int x :: st) M Q ↔ (y ≤ x → zQ 138 60 L st M Q) ∧ (¬ y ≤ x → zQ 138 28 L st M Q) := zq_br (i := .if_icmp .ge 35) (off := 35) (by decide +kernel) rfl (by decide) rfl
theorem q138_28 : zQ 138 28 [.ref a, v1, v2, v3, v4] st M Q ↔ zQ 138 29 [.ref a, v1, v2, v3, v4] (.ref a :: st) M Q := zq_go (i := .aload_n 0) (by decide +kernel) rfl
theorem q138_29 : zQ 138 29 L (.ref a :: st) M Q ↔ (a < zNC ∧ zk a = 6) ∧ zQ 138 32 L (zfv a 3 M :: st) M Q := zq_getf (n := 7) (b := false) (by decide +kernel) (by decide +kernel)
theorem q138_32 : zQ 138 32 [v0, .int x, v2, v3, v4] st M Q ↔ zQ 138 33 [v0, .int x, v2, v3, v4] (.int x :: st) M Q := zq_go (i := .iload_n 1) (by decide +kernel) rfl
theorem q138_33 : zQ 138 33 [v0, v1, v2, v3, .int x] st M Q ↔ zQ 138 35 [v0, v1, v2, v3, .int x] (.int x :: st) M Q := zq_go (i := .iload 4) (by decide +kernel) rfl
theorem q138_35 : zQ 138 35 L (.int x :: .int y :: .ref a :: st) M Q ↔ (a < zNC ∧ zk a = 7 ∧ zin y (zn a) = true) ∧ zQ 138 36 L st (zup M a y.toNatClampNeg x) Q := zq_iast (by decide +kernel)
theorem q138_36 : zQ 138 36 [v0, v1, v2, .int x, v4] st M Q ↔ zQ 138 37 [v0, v1, v2, .int x, v4] (.int x :: st) M Q := zq_go (i := .iload_n 3) (by decide +kernel) rfl
theorem q138_37 : zQ 138 37 [.ref a, v1, v2, v3, v4] st M Q ↔ zQ 138 38 [.ref a, v1, v2, v3, v4] (.ref a :: st) M Q := zq_go (i := .aload_n 0) (by decide +kernel) rfl
theorem q138_38 : zQ 138 38 L (.ref a :: st) M Q ↔ (zcs st ≤ 8 ∧ a < zNC ∧ zk a = 6) ∧ zQ 136 0 [.ref a, .null, .null] [] M (fun r M1 => zQ 138 41 L (zpush r st) M1 Q) := zq_callV (n := 238) (j := 136) (b := false) (As := []) (by decide +kernel) (by decide +kernel) ⟨by decide +kernel, by decide +kernel, rfl, by decide +kernel, by decide +kernel, Nat.le_of_ble_eq_true rfl⟩ rfl
theorem q138_41 : zQ 138 41 L (.int x :: st) M Q ↔ (x = 0 → zQ 138 51 L st M Q) ∧ (¬ x = 0 → zQ 138 44 L st M Q) := zq_br (i := .ifCond .eq 10) (off := 10) (by decide +kernel) rfl (by decide) rfl
theorem q138_44 : zQ 138 44 L st M Q ↔ zQ 138 45 L (.int 1 :: st) M Q := zq_con (n := 1) (by decide +kernel) (by decide +kernel) rfl
theorem q138_45 : zQ 138 45 [v0, v1, v2, v3, .int x] st M Q ↔ zQ 138 47 [v0, v1, v2, v3, .int x] (.int x :: st) M Q := zq_go (i := .iload 4) (by decide +kernel) rfl
theorem q138_47 : zQ 138 47 L (.int y :: .int x :: st) M Q ↔ zQ 138 48 L (.int (x <<< (y &&& 31)) :: st) M Q := zq_go (i := .ishl) (by decide +kernel) rfl
theorem q138_48 : zQ 138 48 L st M Q ↔ zQ 138 52 L st M Q := zq_jmp (off := 4) (by decide +kernel) (by decide)
theorem q138_51 : zQ 138 51 L st M Q ↔ zQ 138 52 L (.int 0 :: st) M Q := zq_con (n := 0) (by decide +kernel) (by decide +kernel) rfl
theorem q138_52 : zQ 138 52 L (.int y :: .int x :: st) M Q ↔ zQ 138 53 L (.int (x ||| y) :: st) M Q := zq_go (i := .ior) (by decide +kernel) rfl
theorem q138_53i : zQ 138 53 [v0, v1, .int y, v3, v4] (.int x :: st) M Q ↔ zQ 138 54 [v0, v1, .int y, .int x, v4] st M Q := zq_stI (i := .istore_n 3) (k := 3) (by decide +kernel) rfl (Nat.le_of_ble_eq_true rfl) rfl rfl
theorem q138_53r : zQ 138 53 [v0, v1, .ref r1, v3, v4] (.int x :: st) M Q ↔ zQ 138 54 [v0, v1, .ref r1, .int x, v4] st M Q := zq_stI (i := .istore_n 3) (k := 3) (by decide +kernel) rfl (Nat.le_of_ble_eq_true rfl) rfl rfl
theorem q138_53n : zQ 138 53 [v0, v1, .null, v3, v4] (.int x :: st) M Q ↔ zQ 138 54 [v0, v1, .null, .int x, v4] st M Q := zq_stI (i := .istore_n 3) (k := 3) (by decide +kernel) rfl (Nat.le_of_ble_eq_true rfl) rfl rfl
theorem q138_54i : zQ 138 54 [v0, v1, v2, .int y, .int x] st M Q ↔ zQ 138 57 [v0, v1, v2, .int y, .int (x + 1)] st M Q := zq_inc (k := 4) (n := 1) (x := x) (v := 1) (by decide +kernel) (by decide +kernel) rfl rfl rfl rfl
theorem q138_54r : zQ 138 54 [v0, v1, v2, .ref r1, .int x] st M Q ↔ zQ 138 57 [v0, v1, v2, .ref r1, .int (x + 1)] st M Q := zq_inc (k := 4) (n := 1) (x := x) (v := 1) (by decide +kernel) (by decide +kernel) rfl rfl rfl rfl
theorem q138_54n : zQ 138 54 [v0, v1, v2, .null, .int x] st M Q ↔ zQ 138 57 [v0, v1, v2, .null, .int (x + 1)] st M Q := zq_inc (k := 4) (n := 1) (x := x) (v := 1) (by decide +kernel) (by decide +kernel) rfl rfl rfl rfl
theorem q138_57 : zQ 138 57 L st M Q ↔ zQ 138 22 L st M Q := zq_jmp (off := (-35)) (by decide +kernel) (by decide)
theorem q138_60 : zQ 138 60 [.ref a, v1, v2, v3, v4] st M Q ↔ zQ 138 61 [.ref a, v1, v2, v3, v4] (.ref a :: st) M Q := zq_go (i := .aload_n 0) (by decide +kernel) rfl
theorem q138_61 : zQ 138 61 L (.ref a :: st) M Q ↔ (a < zNC ∧ zk a = 6) ∧ zQ 138 64 L (zfv a 3 M :: st) M Q := zq_getf (n := 7) (b := false) (by decide +kernel) (by decide +kernel)
theorem q138_64 : zQ 138 64 [v0, .int x, v2, v3, v4] st M Q ↔ zQ 138 65 [v0, .int x, v2, v3, v4] (.int x :: st) M Q := zq_go (i := .iload_n 1) (by decide +kernel) rfl
theorem q138_65 : zQ 138 65 [v0, v1, .int x, v3, v4] st M Q ↔ zQ 138 66 [v0, v1, .int x, v3, v4] (.int x :: st) M Q := zq_go (i := .iload_n 2) (by decide +kernel) rfl
theorem q138_66 : zQ 138 66 L (.int x :: .int y :: .ref a :: st) M Q ↔ (a < zNC ∧ zk a = 7 ∧ zin y (zn a) = true) ∧ zQ 138 67 L st (zup M a y.toNatClampNeg x) Q := zq_iast (by decide +kernel)
theorem q138_67 : zQ 138 67 [v0, v1, v2, .int x, v4] st M Q ↔ zQ 138 68 [v0, v1, v2, .int x, v4] (.int x :: st) M Q := zq_go (i := .iload_n 3) (by decide +kernel) rfl
theorem q138_68 : zQ 138 68 L [.int x] M Q ↔ Q (zI x) M := zq_reI (by decide +kernel) (by decide +kernel)
-- 139 SandKeepersModel.keepers(I)I
theorem q139_0 : zQ 139 0 [.ref a, v1, v2, v3, v4] st M Q ↔ zQ 139 1 [.ref a, v1, v2, v3, v4] (.ref a :: st) M Q := zq_go (i := .aload_n 0) (by decide +kernel) rfl
theorem q139_1 : zQ 139 1 [v0, .int x, v2, v3, v4] st M Q ↔ zQ 139 2 [v0, .int x, v2, v3, v4] (.int x :: st) M Q := zq_go (i := .iload_n 1) (by decide +kernel) rfl
theorem q139_2 : zQ 139 2 L (.int x1 :: .ref a :: st) M Q ↔ (zcs st ≤ 8 ∧ a < zNC ∧ zk a = 6) ∧ zQ 92 0 [.ref a, .int x1] [] M (fun r M1 => zQ 139 5 L (zpush r st) M1 Q) := zq_callV (n := 145) (j := 92) (b := false) (As := [.int x1]) (by decide +kernel) (by decide +kernel) ⟨by decide +kernel, by decide +kernel, rfl, by decide +kernel, by decide +kernel, Nat.le_of_ble_eq_true rfl⟩ rfl
theorem q139_5 : zQ 139 5 L (.int x :: st) M Q ↔ (x = 0 → zQ 139 10 L st M Q) ∧ (¬ x = 0 → zQ 139 8 L st M Q) := zq_br (i := .ifCond .eq 5) (off := 5) (by decide +kernel) rfl (by decide) rfl
theorem q139_8 : zQ 139 8 L st M Q ↔ zQ 139 9 L (.int (-1) :: st) M Q := zq_con (n := (-1)) (by decide +kernel) (by decide +kernel) rfl
theorem q139_9 : zQ 139 9 L [.int x] M Q ↔ Q (zI x) M := zq_reI (by decide +kernel) (by decide +kernel)
theorem q139_10 : zQ 139 10 [.ref a, v1, v2, v3, v4] st M Q ↔ zQ 139 11 [.ref a, v1, v2, v3, v4] (.ref a :: st) M Q := zq_go (i := .aload_n 0) (by decide +kernel) rfl
theorem q139_11 : zQ 139 11 L (.ref a :: st) M Q ↔ (a < zNC ∧ zk a = 6) ∧ zQ 139 14 L (zfv a 8 M :: st) M Q := zq_getf (n := 25) (b := false) (by decide +kernel) (by decide +kernel)
theorem q139_14 : zQ 139 14 [v0, .int x, v2, v3, v4] st M Q ↔ zQ 139 15 [v0, .int x, v2, v3, v4] (.int x :: st) M Q := zq_go (i := .iload_n 1) (by decide +kernel) rfl
theorem q139_15 : zQ 139 15 L (.int x :: .ref a :: st) M Q ↔ (a < zNC ∧ zk a = 7 ∧ zin x (zn a) = true) ∧ zQ 139 16 L (.int (M a x.toNatClampNeg) :: st) M Q := zq_iald (by decide +kernel)
theorem q139_16i : zQ 139 16 [v0, .int y, v2, v3, v4] (.int x :: st) M Q ↔ zQ 139 17 [v0, .int y, .int x, v3, v4] st M Q := zq_stI (i := .istore_n 2) (k := 2) (by decide +kernel) rfl (Nat.le_of_ble_eq_true rfl) rfl rfl
theorem q139_16r : zQ 139 16 [v0, .ref r1, v2, v3, v4] (.int x :: st) M Q ↔ zQ 139 17 [v0, .ref r1, .int x, v3, v4] st M Q := zq_stI (i := .istore_n 2) (k := 2) (by decide +kernel) rfl (Nat.le_of_ble_eq_true rfl) rfl rfl
theorem q139_16n : zQ 139 16 [v0, .null, v2, v3, v4] (.int x :: st) M Q ↔ zQ 139 17 [v0, .null, .int x, v3, v4] st M Q := zq_stI (i := .istore_n 2) (k := 2) (by decide +kernel) rfl (Nat.le_of_ble_eq_true rfl) rfl rfl
theorem q139_17 : zQ 139 17 L st M Q ↔ zQ 139 18 L (.int 0 :: st) M Q := zq_con (n := 0) (by decide +kernel) (by decide +kernel) rfl
theorem q139_18i : zQ 139 18 [v0, v1, .int y, v3, v4] (.int x :: st) M Q ↔ zQ 139 19 [v0, v1, .int y, .int x, v4] st M Q := zq_stI (i := .istore_n 3) (k := 3) (by decide +kernel) rfl (Nat.le_of_ble_eq_true rfl) rfl rfl
theorem q139_18r : zQ 139 18 [v0, v1, .ref r1, v3, v4] (.int x :: st) M Q ↔ zQ 139 19 [v0, v1, .ref r1, .int x, v4] st M Q := zq_stI (i := .istore_n 3) (k := 3) (by decide +kernel) rfl (Nat.le_of_ble_eq_true rfl) rfl rfl
theorem q139_18n : zQ 139 18 [v0, v1, .null, v3, v4] (.int x :: st) M Q ↔ zQ 139 19 [v0, v1, .null, .int x, v4] st M Q := zq_stI (i := .istore_n 3) (k := 3) (by decide +kernel) rfl (Nat.le_of_ble_eq_true rfl) rfl rfl
theorem q139_19 : zQ 139 19 L st M Q ↔ zQ 139 20 L (.int 0 :: st) M Q := zq_con (n := 0) (by decide +kernel) (by decide +kernel) rfl
theorem q139_20i : zQ 139 20 [v0, v1, v2, .int y, v4] (.int x :: st) M Q ↔ zQ 139 22 [v0, v1, v2, .int y, .int x] st M Q := zq_stI (i := .istore 4) (k := 4) (by decide +kernel) rfl (Nat.le_of_ble_eq_true rfl) rfl rfl
theorem q139_20r : zQ 139 20 [v0, v1, v2, .ref r1, v4] (.int x :: st) M Q ↔ zQ 139 22 [v0, v1, v2, .ref r1, .int x] st M Q := zq_stI (i := .istore 4) (k := 4) (by decide +kernel) rfl (Nat.le_of_ble_eq_true rfl) rfl rfl
theorem q139_20n : zQ 139 20 [v0, v1, v2, .null, v4] (.int x :: st) M Q ↔ zQ 139 22 [v0, v1, v2, .null, .int x] st M Q := zq_stI (i := .istore 4) (k := 4) (by decide +kernel) rfl (Nat.le_of_ble_eq_true rfl) rfl rfl
theorem q139_22 : zQ 139 22 [v0, v1, v2, v3, .int x] st M Q ↔ zQ 139 24 [v0, v1, v2, v3, .int x] (.int x :: st) M Q := zq_go (i := .iload 4) (by decide +kernel) rfl
theorem q139_24 : zQ 139 24 [.ref a, v1, v2, v3, v4] st M Q ↔ zQ 139 25 [.ref a, v1, v2, v3, v4] (.ref a :: st) M Q := zq_go (i := .aload_n 0) (by decide +kernel) rfl
theorem q139_25 : zQ 139 25 L (.ref a :: st) M Q ↔ (a < zNC ∧ zk a = 6) ∧ zQ 139 28 L (zfv a 1 M :: st) M Q := zq_getf (n := 86) (b := false) (by decide +kernel) (by decide +kernel)
theorem q139_28 : zQ 139 28 L (.int y :: .int x :: st) M Q ↔ (y ≤ x → zQ 139 63 L st M Q) ∧ (¬ y ≤ x → zQ 139 31 L st M Q) := zq_br (i := .if_icmp .ge 35) (off := 35) (by decide +kernel) rfl (by decide) rfl
theorem q139_31 : zQ 139 31 [.ref a, v1, v2, v3, v4] st M Q ↔ zQ 139 32 [.ref a, v1, v2, v3, v4] (.ref a :: st) M Q := zq_go (i := .aload_n 0) (by decide +kernel) rfl
theorem q139_32 : zQ 139 32 L (.ref a :: st) M Q ↔ (a < zNC ∧ zk a = 6) ∧ zQ 139 35 L (zfv a 8 M :: st) M Q := zq_getf (n := 25) (b := false) (by decide +kernel) (by decide +kernel)
theorem q139_35 : zQ 139 35 [v0, .int x, v2, v3, v4] st M Q ↔ zQ 139 36 [v0, .int x, v2, v3, v4] (.int x :: st) M Q := zq_go (i := .iload_n 1) (by decide +kernel) rfl
theorem q139_36 : zQ 139 36 [v0, v1, v2, v3, .int x] st M Q ↔ zQ 139 38 [v0, v1, v2, v3, .int x] (.int x :: st) M Q := zq_go (i := .iload 4) (by decide +kernel) rfl
theorem q139_38 : zQ 139 38 L (.int x :: .int y :: .ref a :: st) M Q ↔ (a < zNC ∧ zk a = 7 ∧ zin y (zn a) = true) ∧ zQ 139 39 L st (zup M a y.toNatClampNeg x) Q := zq_iast (by decide +kernel)
theorem q139_39 : zQ 139 39 [v0, v1, v2, .int x, v4] st M Q ↔ zQ 139 40 [v0, v1, v2, .int x, v4] (.int x :: st) M Q := zq_go (i := .iload_n 3) (by decide +kernel) rfl
theorem q139_40 : zQ 139 40 [.ref a, v1, v2, v3, v4] st M Q ↔ zQ 139 41 [.ref a, v1, v2, v3, v4] (.ref a :: st) M Q := zq_go (i := .aload_n 0) (by decide +kernel) rfl
theorem q139_41 : zQ 139 41 L (.ref a :: st) M Q ↔ (zcs st ≤ 8 ∧ a < zNC ∧ zk a = 6) ∧ zQ 136 0 [.ref a, .null, .null] [] M (fun r M1 => zQ 139 44 L (zpush r st) M1 Q) := zq_callV (n := 238) (j := 136) (b := false) (As := []) (by decide +kernel) (by decide +kernel) ⟨by decide +kernel, by decide +kernel, rfl, by decide +kernel, by decide +kernel, Nat.le_of_ble_eq_true rfl⟩ rfl
theorem q139_44 : zQ 139 44 L (.int x :: st) M Q ↔ (x = 0 → zQ 139 54 L st M Q) ∧ (¬ x = 0 → zQ 139 47 L st M Q) := zq_br (i := .ifCond .eq 10) (off := 10) (by decide +kernel) rfl (by decide) rfl
theorem q139_47 : zQ 139 47 L st M Q ↔ zQ 139 48 L (.int 1 :: st) M Q := zq_con (n := 1) (by decide +kernel) (by decide +kernel) rfl
theorem q139_48 : zQ 139 48 [v0, v1, v2, v3, .int x] st M Q ↔ zQ 139 50 [v0, v1, v2, v3, .int x] (.int x :: st) M Q := zq_go (i := .iload 4) (by decide +kernel) rfl
theorem q139_50 : zQ 139 50 L (.int y :: .int x :: st) M Q ↔ zQ 139 51 L (.int (x <<< (y &&& 31)) :: st) M Q := zq_go (i := .ishl) (by decide +kernel) rfl
theorem q139_51 : zQ 139 51 L st M Q ↔ zQ 139 55 L st M Q := zq_jmp (off := 4) (by decide +kernel) (by decide)
theorem q139_54 : zQ 139 54 L st M Q ↔ zQ 139 55 L (.int 0 :: st) M Q := zq_con (n := 0) (by decide +kernel) (by decide +kernel) rfl
theorem q139_55 : zQ 139 55 L (.int y :: .int x :: st) M Q ↔ zQ 139 56 L (.int (x ||| y) :: st) M Q := zq_go (i := .ior) (by decide +kernel) rfl
theorem q139_56i : zQ 139 56 [v0, v1, .int y, v3, v4] (.int x :: st) M Q ↔ zQ 139 57 [v0, v1, .int y, .int x, v4] st M Q := zq_stI (i := .istore_n 3) (k := 3) (by decide +kernel) rfl (Nat.le_of_ble_eq_true rfl) rfl rfl
theorem q139_56r : zQ 139 56 [v0, v1, .ref r1, v3, v4] (.int x :: st) M Q ↔ zQ 139 57 [v0, v1, .ref r1, .int x, v4] st M Q := zq_stI (i := .istore_n 3) (k := 3) (by decide +kernel) rfl (Nat.le_of_ble_eq_true rfl) rfl rfl
theorem q139_56n : zQ 139 56 [v0, v1, .null, v3, v4] (.int x :: st) M Q ↔ zQ 139 57 [v0, v1, .null, .int x, v4] st M Q := zq_stI (i := .istore_n 3) (k := 3) (by decide +kernel) rfl (Nat.le_of_ble_eq_true rfl) rfl rfl
theorem q139_57i : zQ 139 57 [v0, v1, v2, .int y, .int x] st M Q ↔ zQ 139 60 [v0, v1, v2, .int y, .int (x + 1)] st M Q := zq_inc (k := 4) (n := 1) (x := x) (v := 1) (by decide +kernel) (by decide +kernel) rfl rfl rfl rfl
theorem q139_57r : zQ 139 57 [v0, v1, v2, .ref r1, .int x] st M Q ↔ zQ 139 60 [v0, v1, v2, .ref r1, .int (x + 1)] st M Q := zq_inc (k := 4) (n := 1) (x := x) (v := 1) (by decide +kernel) (by decide +kernel) rfl rfl rfl rfl
theorem q139_57n : zQ 139 57 [v0, v1, v2, .null, .int x] st M Q ↔ zQ 139 60 [v0, v1, v2, .null, .int (x + 1)] st M Q := zq_inc (k := 4) (n := 1) (x := x) (v := 1) (by decide +kernel) (by decide +kernel) rfl rfl rfl rfl
theorem q139_60 : zQ 139 60 L st M Q ↔ zQ 139 22 L st M Q := zq_jmp (off := (-38)) (by decide +kernel) (by decide)
theorem q139_63 : zQ 139 63 [.ref a, v1, v2, v3, v4] st M Q ↔ zQ 139 64 [.ref a, v1, v2, v3, v4] (.ref a :: st) M Q := zq_go (i := .aload_n 0) (by decide +kernel) rfl
theorem q139_64 : zQ 139 64 L (.ref a :: st) M Q ↔ (a < zNC ∧ zk a = 6) ∧ zQ 139 67 L (zfv a 8 M :: st) M Q := zq_getf (n := 25) (b := false) (by decide +kernel) (by decide +kernel)
theorem q139_67 : zQ 139 67 [v0, .int x, v2, v3, v4] st M Q ↔ zQ 139 68 [v0, .int x, v2, v3, v4] (.int x :: st) M Q := zq_go (i := .iload_n 1) (by decide +kernel) rfl
theorem q139_68 : zQ 139 68 [v0, v1, .int x, v3, v4] st M Q ↔ zQ 139 69 [v0, v1, .int x, v3, v4] (.int x :: st) M Q := zq_go (i := .iload_n 2) (by decide +kernel) rfl
theorem q139_69 : zQ 139 69 L (.int x :: .int y :: .ref a :: st) M Q ↔ (a < zNC ∧ zk a = 7 ∧ zin y (zn a) = true) ∧ zQ 139 70 L st (zup M a y.toNatClampNeg x) Q := zq_iast (by decide +kernel)
theorem q139_70 : zQ 139 70 [v0, v1, v2, .int x, v4] st M Q ↔ zQ 139 71 [v0, v1, v2, .int x, v4] (.int x :: st) M Q := zq_go (i := .iload_n 3) (by decide +kernel) rfl
theorem q139_71 : zQ 139 71 L [.int x] M Q ↔ Q (zI x) M := zq_reI (by decide +kernel) (by decide +kernel)
-- 140 SandKeepersModel.odds(III)J
theorem q140_0 : zQ 140 0 [.ref a, v1, v2, v3, v4, v5, v6, v7] st M Q ↔ zQ 140 1 [.ref a, v1, v2, v3, v4, v5, v6, v7] (.ref a :: st) M Q := zq_go (i := .aload_n 0) (by decide +kernel) rfl
theorem q140_1 : zQ 140 1 [v0, .int x, v2, v3, v4, v5, v6, v7] st M Q ↔ zQ 140 2 [v0, .int x, v2, v3, v4, v5, v6, v7] (.int x :: st) M Q := zq_go (i := .iload_n 1) (by decide +kernel) rfl
theorem q140_2 : zQ 140 2 L (.int x1 :: .ref a :: st) M Q ↔ (zcs st ≤ 8 ∧ a < zNC ∧ zk a = 6) ∧ zQ 92 0 [.ref a, .int x1] [] M (fun r M1 => zQ 140 5 L (zpush r st) M1 Q) := zq_callV (n := 145) (j := 92) (b := false) (As := [.int x1]) (by decide +kernel) (by decide +kernel) ⟨by decide +kernel, by decide +kernel, rfl, by decide +kernel, by decide +kernel, Nat.le_of_ble_eq_true rfl⟩ rfl
theorem q140_5 : zQ 140 5 L (.int x :: st) M Q ↔ (x = 0 → zQ 140 8 L st M Q) ∧ (¬ x = 0 → zQ 140 30 L st M Q) := zq_bn (i := .ifCond .ne 25) (off := 25) (by decide +kernel) rfl (by decide) rfl
theorem q140_8 : zQ 140 8 [v0, v1, .int x, v3, v4, v5, v6, v7] st M Q ↔ zQ 140 9 [v0, v1, .int x, v3, v4, v5, v6, v7] (.int x :: st) M Q := zq_go (i := .iload_n 2) (by decide +kernel) rfl
theorem q140_9 : zQ 140 9 L (.int x :: st) M Q ↔ zQ 140 10 L (.long x.toInt64 :: st) M Q := zq_go (i := .i2l) (by decide +kernel) rfl
theorem q140_10 : zQ 140 10 L st M Q ↔ zQ 140 11 L (.long 0 :: st) M Q := zq_lco (n := 0) (by decide +kernel) (by decide +kernel) rfl
theorem q140_11 : zQ 140 11 L st M Q ↔ zQ 140 14 L (.long 99 :: st) M Q := zq_ld2 (n := 174) (by decide +kernel) (by decide +kernel) rfl
theorem q140_14 : zQ 140 14 L (.long l3 :: .long l2 :: .long l1 :: st) M Q ↔ zcs st ≤ 8 ∧ zQ 84 0 [.long l1, .null, .long l2, .null, .long l3, .null] [] M (fun r M1 => zQ 140 17 L (zpush r st) M1 Q) := zq_callS (n := 89) (j := 84) (b := false) (As := [.long l1, .long l2, .long l3]) (by decide +kernel) (by decide +kernel) ⟨by decide +kernel, by decide +kernel, rfl, by decide +kernel, by decide +kernel, Nat.le_of_ble_eq_true rfl⟩ rfl
theorem q140_17 : zQ 140 17 L (.int x :: st) M Q ↔ (x = 0 → zQ 140 30 L st M Q) ∧ (¬ x = 0 → zQ 140 20 L st M Q) := zq_br (i := .ifCond .eq 13) (off := 13) (by decide +kernel) rfl (by decide) rfl
theorem q140_20 : zQ 140 20 [v0, v1, v2, .int x, v4, v5, v6, v7] st M Q ↔ zQ 140 21 [v0, v1, v2, .int x, v4, v5, v6, v7] (.int x :: st) M Q := zq_go (i := .iload_n 3) (by decide +kernel) rfl
theorem q140_21 : zQ 140 21 L (.int x :: st) M Q ↔ zQ 140 22 L (.long x.toInt64 :: st) M Q := zq_go (i := .i2l) (by decide +kernel) rfl
theorem q140_22 : zQ 140 22 L st M Q ↔ zQ 140 23 L (.long 0 :: st) M Q := zq_lco (n := 0) (by decide +kernel) (by decide +kernel) rfl
theorem q140_23 : zQ 140 23 L st M Q ↔ zQ 140 24 L (.long 1 :: st) M Q := zq_lco (n := 1) (by decide +kernel) (by decide +kernel) rfl
theorem q140_24 : zQ 140 24 L (.long l3 :: .long l2 :: .long l1 :: st) M Q ↔ zcs st ≤ 8 ∧ zQ 84 0 [.long l1, .null, .long l2, .null, .long l3, .null] [] M (fun r M1 => zQ 140 27 L (zpush r st) M1 Q) := zq_callS (n := 89) (j := 84) (b := false) (As := [.long l1, .long l2, .long l3]) (by decide +kernel) (by decide +kernel) ⟨by decide +kernel, by decide +kernel, rfl, by decide +kernel, by decide +kernel, Nat.le_of_ble_eq_true rfl⟩ rfl
theorem q140_27 : zQ 140 27 L (.int x :: st) M Q ↔ (x = 0 → zQ 140 30 L st M Q) ∧ (¬ x = 0 → zQ 140 34 L st M Q) := zq_bn (i := .ifCond .ne 7) (off := 7) (by decide +kernel) rfl (by decide) rfl
theorem q140_30 : zQ 140 30 L (st) M Q ↔ zcs st ≤ 8 ∧ zQ 85 0 [] [] M (fun r M1 => zQ 140 33 L (zpush r st) M1 Q) := zq_callS (n := 82) (j := 85) (b := false) (As := []) (by decide +kernel) (by decide +kernel) ⟨by decide +kernel, by decide +kernel, rfl, by decide +kernel, by decide +kernel, Nat.le_of_ble_eq_true rfl⟩ rfl
theorem q140_33 : zQ 140 33 L [.long xl] M Q ↔ Q (zJ xl) M := zq_reJ (by decide +kernel) (by decide +kernel)
theorem q140_34 : zQ 140 34 [.ref a, v1, v2, v3, v4, v5, v6, v7] st M Q ↔ zQ 140 35 [.ref a, v1, v2, v3, v4, v5, v6, v7] (.ref a :: st) M Q := zq_go (i := .aload_n 0) (by decide +kernel) rfl
theorem q140_35 : zQ 140 35 L (.ref a :: st) M Q ↔ (a < zNC ∧ zk a = 6) ∧ zQ 140 38 L (zfv a 8 M :: st) M Q := zq_getf (n := 25) (b := false) (by decide +kernel) (by decide +kernel)
theorem q140_38 : zQ 140 38 [v0, .int x, v2, v3, v4, v5, v6, v7] st M Q ↔ zQ 140 39 [v0, .int x, v2, v3, v4, v5, v6, v7] (.int x :: st) M Q := zq_go (i := .iload_n 1) (by decide +kernel) rfl
theorem q140_39 : zQ 140 39 L (.int x :: .ref a :: st) M Q ↔ (a < zNC ∧ zk a = 7 ∧ zin x (zn a) = true) ∧ zQ 140 40 L (.int (M a x.toNatClampNeg) :: st) M Q := zq_iald (by decide +kernel)
theorem q140_40i : zQ 140 40 [v0, v1, v2, .int y, v4, v5, v6, v7] (.int x :: st) M Q ↔ zQ 140 42 [v0, v1, v2, .int y, .int x, v5, v6, v7] st M Q := zq_stI (i := .istore 4) (k := 4) (by decide +kernel) rfl (Nat.le_of_ble_eq_true rfl) rfl rfl
theorem q140_40r : zQ 140 40 [v0, v1, v2, .ref r1, v4, v5, v6, v7] (.int x :: st) M Q ↔ zQ 140 42 [v0, v1, v2, .ref r1, .int x, v5, v6, v7] st M Q := zq_stI (i := .istore 4) (k := 4) (by decide +kernel) rfl (Nat.le_of_ble_eq_true rfl) rfl rfl
theorem q140_40n : zQ 140 40 [v0, v1, v2, .null, v4, v5, v6, v7] (.int x :: st) M Q ↔ zQ 140 42 [v0, v1, v2, .null, .int x, v5, v6, v7] st M Q := zq_stI (i := .istore 4) (k := 4) (by decide +kernel) rfl (Nat.le_of_ble_eq_true rfl) rfl rfl
theorem q140_42 : zQ 140 42 L st M Q ↔ zQ 140 43 L (.long 0 :: st) M Q := zq_lco (n := 0) (by decide +kernel) (by decide +kernel) rfl
theorem q140_43i : zQ 140 43 [v0, v1, v2, v3, .int y, v5, v6, v7] (.long xl :: st) M Q ↔ zQ 140 45 [v0, v1, v2, v3, .int y, .long xl, .null, v7] st M Q := zq_stJ (i := .lstore 5) (k := 5) (by decide +kernel) rfl (Nat.le_of_ble_eq_true rfl) rfl rfl
theorem q140_43r : zQ 140 43 [v0, v1, v2, v3, .ref r1, v5, v6, v7] (.long xl :: st) M Q ↔ zQ 140 45 [v0, v1, v2, v3, .ref r1, .long xl, .null, v7] st M Q := zq_stJ (i := .lstore 5) (k := 5) (by decide +kernel) rfl (Nat.le_of_ble_eq_true rfl) rfl rfl
theorem q140_43n : zQ 140 43 [v0, v1, v2, v3, .null, v5, v6, v7] (.long xl :: st) M Q ↔ zQ 140 45 [v0, v1, v2, v3, .null, .long xl, .null, v7] st M Q := zq_stJ (i := .lstore 5) (k := 5) (by decide +kernel) rfl (Nat.le_of_ble_eq_true rfl) rfl rfl
theorem q140_45 : zQ 140 45 L st M Q ↔ zQ 140 46 L (.int 0 :: st) M Q := zq_con (n := 0) (by decide +kernel) (by decide +kernel) rfl
theorem q140_46i : zQ 140 46 [v0, v1, v2, v3, v4, v5, .int y, v7] (.int x :: st) M Q ↔ zQ 140 48 [v0, v1, v2, v3, v4, v5, .int y, .int x] st M Q := zq_stI (i := .istore 7) (k := 7) (by decide +kernel) rfl (Nat.le_of_ble_eq_true rfl) rfl rfl
theorem q140_46r : zQ 140 46 [v0, v1, v2, v3, v4, v5, .ref r1, v7] (.int x :: st) M Q ↔ zQ 140 48 [v0, v1, v2, v3, v4, v5, .ref r1, .int x] st M Q := zq_stI (i := .istore 7) (k := 7) (by decide +kernel) rfl (Nat.le_of_ble_eq_true rfl) rfl rfl
theorem q140_46n : zQ 140 46 [v0, v1, v2, v3, v4, v5, .null, v7] (.int x :: st) M Q ↔ zQ 140 48 [v0, v1, v2, v3, v4, v5, .null, .int x] st M Q := zq_stI (i := .istore 7) (k := 7) (by decide +kernel) rfl (Nat.le_of_ble_eq_true rfl) rfl rfl
theorem q140_48 : zQ 140 48 [v0, v1, v2, v3, v4, v5, v6, .int x] st M Q ↔ zQ 140 50 [v0, v1, v2, v3, v4, v5, v6, .int x] (.int x :: st) M Q := zq_go (i := .iload 7) (by decide +kernel) rfl
theorem q140_50 : zQ 140 50 [.ref a, v1, v2, v3, v4, v5, v6, v7] st M Q ↔ zQ 140 51 [.ref a, v1, v2, v3, v4, v5, v6, v7] (.ref a :: st) M Q := zq_go (i := .aload_n 0) (by decide +kernel) rfl
theorem q140_51 : zQ 140 51 L (.ref a :: st) M Q ↔ (a < zNC ∧ zk a = 6) ∧ zQ 140 54 L (zfv a 1 M :: st) M Q := zq_getf (n := 86) (b := false) (by decide +kernel) (by decide +kernel)
theorem q140_54 : zQ 140 54 L (.int y :: .int x :: st) M Q ↔ (y ≤ x → zQ 140 96 L st M Q) ∧ (¬ y ≤ x → zQ 140 57 L st M Q) := zq_br (i := .if_icmp .ge 42) (off := 42) (by decide +kernel) rfl (by decide) rfl
theorem q140_57 : zQ 140 57 [.ref a, v1, v2, v3, v4, v5, v6, v7] st M Q ↔ zQ 140 58 [.ref a, v1, v2, v3, v4, v5, v6, v7] (.ref a :: st) M Q := zq_go (i := .aload_n 0) (by decide +kernel) rfl
theorem q140_58 : zQ 140 58 L (.ref a :: st) M Q ↔ (a < zNC ∧ zk a = 6) ∧ zQ 140 61 L (zfv a 8 M :: st) M Q := zq_getf (n := 25) (b := false) (by decide +kernel) (by decide +kernel)
theorem q140_61 : zQ 140 61 [v0, .int x, v2, v3, v4, v5, v6, v7] st M Q ↔ zQ 140 62 [v0, .int x, v2, v3, v4, v5, v6, v7] (.int x :: st) M Q := zq_go (i := .iload_n 1) (by decide +kernel) rfl
theorem q140_62 : zQ 140 62 [v0, v1, v2, v3, v4, v5, v6, .int x] st M Q ↔ zQ 140 64 [v0, v1, v2, v3, v4, v5, v6, .int x] (.int x :: st) M Q := zq_go (i := .iload 7) (by decide +kernel) rfl
theorem q140_64 : zQ 140 64 L (.int x :: .int y :: .ref a :: st) M Q ↔ (a < zNC ∧ zk a = 7 ∧ zin y (zn a) = true) ∧ zQ 140 65 L st (zup M a y.toNatClampNeg x) Q := zq_iast (by decide +kernel)
theorem q140_65 : zQ 140 65 [v0, v1, v2, v3, v4, .long xl, v6, v7] st M Q ↔ zQ 140 67 [v0, v1, v2, v3, v4, .long xl, v6, v7] (.long xl :: st) M Q := zq_go (i := .lload 5) (by decide +kernel) rfl
theorem q140_67 : zQ 140 67 [v0, v1, v2, v3, v4, v5, v6, .int x] st M Q ↔ zQ 140 69 [v0, v1, v2, v3, v4, v5, v6, .int x] (.int x :: st) M Q := zq_go (i := .iload 7) (by decide +kernel) rfl
theorem q140_69 : zQ 140 69 [v0, .int x, v2, v3, v4, v5, v6, v7] st M Q ↔ zQ 140 70 [v0, .int x, v2, v3, v4, v5, v6, v7] (.int x :: st) M Q := zq_go (i := .iload_n 1) (by decide +kernel) rfl
theorem q140_70 : zQ 140 70 L (.int y :: .int x :: st) M Q ↔ (x = y → zQ 140 86 L st M Q) ∧ (¬ x = y → zQ 140 73 L st M Q) := zq_br (i := .if_icmp .eq 16) (off := 16) (by decide +kernel) rfl (by decide) rfl
theorem q140_73 : zQ 140 73 [.ref a, v1, v2, v3, v4, v5, v6, v7] st M Q ↔ zQ 140 74 [.ref a, v1, v2, v3, v4, v5, v6, v7] (.ref a :: st) M Q := zq_go (i := .aload_n 0) (by decide +kernel) rfl
theorem q140_74 : zQ 140 74 [v0, .int x, v2, v3, v4, v5, v6, v7] st M Q ↔ zQ 140 75 [v0, .int x, v2, v3, v4, v5, v6, v7] (.int x :: st) M Q := zq_go (i := .iload_n 1) (by decide +kernel) rfl
theorem q140_75 : zQ 140 75 L (.int x1 :: .ref a :: st) M Q ↔ (zcs st ≤ 8 ∧ a < zNC ∧ zk a = 6) ∧ zQ 116 0 [.ref a, .int x1, .null] [] M (fun r M1 => zQ 140 78 L (zpush r st) M1 Q) := zq_callV (n := 182) (j := 116) (b := false) (As := [.int x1]) (by decide +kernel) (by decide +kernel) ⟨by decide +kernel, by decide +kernel, rfl, by decide +kernel, by decide +kernel, Nat.le_of_ble_eq_true rfl⟩ rfl
theorem q140_78 : zQ 140 78 [v0, v1, .int x, v3, v4, v5, v6, v7] st M Q ↔ zQ 140 79 [v0, v1, .int x, v3, v4, v5, v6, v7] (.int x :: st) M Q := zq_go (i := .iload_n 2) (by decide +kernel) rfl
theorem q140_79 : zQ 140 79 L (.int y :: .int x :: st) M Q ↔ (x < y → zQ 140 86 L st M Q) ∧ (¬ x < y → zQ 140 82 L st M Q) := zq_br (i := .if_icmp .lt 7) (off := 7) (by decide +kernel) rfl (by decide) rfl
theorem q140_82 : zQ 140 82 L st M Q ↔ zQ 140 83 L (.long 1 :: st) M Q := zq_lco (n := 1) (by decide +kernel) (by decide +kernel) rfl
theorem q140_83 : zQ 140 83 L st M Q ↔ zQ 140 87 L st M Q := zq_jmp (off := 4) (by decide +kernel) (by decide)
theorem q140_86 : zQ 140 86 L st M Q ↔ zQ 140 87 L (.long 0 :: st) M Q := zq_lco (n := 0) (by decide +kernel) (by decide +kernel) rfl
theorem q140_87 : zQ 140 87 L (.long yl :: .long xl :: st) M Q ↔ zQ 140 88 L (.long (xl + yl) :: st) M Q := zq_go (i := .ladd) (by decide +kernel) rfl
theorem q140_88i : zQ 140 88 [v0, v1, v2, v3, .int y, v5, v6, v7] (.long xl :: st) M Q ↔ zQ 140 90 [v0, v1, v2, v3, .int y, .long xl, .null, v7] st M Q := zq_stJ (i := .lstore 5) (k := 5) (by decide +kernel) rfl (Nat.le_of_ble_eq_true rfl) rfl rfl
theorem q140_88r : zQ 140 88 [v0, v1, v2, v3, .ref r1, v5, v6, v7] (.long xl :: st) M Q ↔ zQ 140 90 [v0, v1, v2, v3, .ref r1, .long xl, .null, v7] st M Q := zq_stJ (i := .lstore 5) (k := 5) (by decide +kernel) rfl (Nat.le_of_ble_eq_true rfl) rfl rfl
theorem q140_88n : zQ 140 88 [v0, v1, v2, v3, .null, v5, v6, v7] (.long xl :: st) M Q ↔ zQ 140 90 [v0, v1, v2, v3, .null, .long xl, .null, v7] st M Q := zq_stJ (i := .lstore 5) (k := 5) (by decide +kernel) rfl (Nat.le_of_ble_eq_true rfl) rfl rfl
theorem q140_90i : zQ 140 90 [v0, v1, v2, v3, v4, v5, .int y, .int x] st M Q ↔ zQ 140 93 [v0, v1, v2, v3, v4, v5, .int y, .int (x + 1)] st M Q := zq_inc (k := 7) (n := 1) (x := x) (v := 1) (by decide +kernel) (by decide +kernel) rfl rfl rfl rfl
theorem q140_90r : zQ 140 90 [v0, v1, v2, v3, v4, v5, .ref r1, .int x] st M Q ↔ zQ 140 93 [v0, v1, v2, v3, v4, v5, .ref r1, .int (x + 1)] st M Q := zq_inc (k := 7) (n := 1) (x := x) (v := 1) (by decide +kernel) (by decide +kernel) rfl rfl rfl rfl
theorem q140_90n : zQ 140 90 [v0, v1, v2, v3, v4, v5, .null, .int x] st M Q ↔ zQ 140 93 [v0, v1, v2, v3, v4, v5, .null, .int (x + 1)] st M Q := zq_inc (k := 7) (n := 1) (x := x) (v := 1) (by decide +kernel) (by decide +kernel) rfl rfl rfl rfl
theorem q140_93 : zQ 140 93 L st M Q ↔ zQ 140 48 L st M Q := zq_jmp (off := (-45)) (by decide +kernel) (by decide)
theorem q140_96 : zQ 140 96 [.ref a, v1, v2, v3, v4, v5, v6, v7] st M Q ↔ zQ 140 97 [.ref a, v1, v2, v3, v4, v5, v6, v7] (.ref a :: st) M Q := zq_go (i := .aload_n 0) (by decide +kernel) rfl
theorem q140_97 : zQ 140 97 L (.ref a :: st) M Q ↔ (a < zNC ∧ zk a = 6) ∧ zQ 140 100 L (zfv a 8 M :: st) M Q := zq_getf (n := 25) (b := false) (by decide +kernel) (by decide +kernel)
theorem q140_100 : zQ 140 100 [v0, .int x, v2, v3, v4, v5, v6, v7] st M Q ↔ zQ 140 101 [v0, .int x, v2, v3, v4, v5, v6, v7] (.int x :: st) M Q := zq_go (i := .iload_n 1) (by decide +kernel) rfl
theorem q140_101 : zQ 140 101 [v0, v1, v2, v3, .int x, v5, v6, v7] st M Q ↔ zQ 140 103 [v0, v1, v2, v3, .int x, v5, v6, v7] (.int x :: st) M Q := zq_go (i := .iload 4) (by decide +kernel) rfl
theorem q140_103 : zQ 140 103 L (.int x :: .int y :: .ref a :: st) M Q ↔ (a < zNC ∧ zk a = 7 ∧ zin y (zn a) = true) ∧ zQ 140 104 L st (zup M a y.toNatClampNeg x) Q := zq_iast (by decide +kernel)
theorem q140_104 : zQ 140 104 [v0, v1, v2, v3, v4, .long xl, v6, v7] st M Q ↔ zQ 140 106 [v0, v1, v2, v3, v4, .long xl, v6, v7] (.long xl :: st) M Q := zq_go (i := .lload 5) (by decide +kernel) rfl
theorem q140_106 : zQ 140 106 [.ref a, v1, v2, v3, v4, v5, v6, v7] st M Q ↔ zQ 140 107 [.ref a, v1, v2, v3, v4, v5, v6, v7] (.ref a :: st) M Q := zq_go (i := .aload_n 0) (by decide +kernel) rfl
theorem q140_107 : zQ 140 107 L (.ref a :: st) M Q ↔ (a < zNC ∧ zk a = 6) ∧ zQ 140 110 L (zfv a 1 M :: st) M Q := zq_getf (n := 86) (b := false) (by decide +kernel) (by decide +kernel)
theorem q140_110 : zQ 140 110 L (.int x :: st) M Q ↔ zQ 140 111 L (.long x.toInt64 :: st) M Q := zq_go (i := .i2l) (by decide +kernel) rfl
theorem q140_111 : zQ 140 111 L st M Q ↔ zQ 140 112 L (.long 1 :: st) M Q := zq_lco (n := 1) (by decide +kernel) (by decide +kernel) rfl
theorem q140_112 : zQ 140 112 L (.long yl :: .long xl :: st) M Q ↔ zQ 140 113 L (.long (xl - yl) :: st) M Q := zq_go (i := .lsub) (by decide +kernel) rfl
theorem q140_113 : zQ 140 113 [v0, v1, v2, .int x, v4, v5, v6, v7] st M Q ↔ zQ 140 114 [v0, v1, v2, .int x, v4, v5, v6, v7] (.int x :: st) M Q := zq_go (i := .iload_n 3) (by decide +kernel) rfl
theorem q140_114 : zQ 140 114 L (.int x1 :: .long l2 :: .long l1 :: st) M Q ↔ zcs st ≤ 8 ∧ zQ 88 0 [.long l1, .null, .long l2, .null, .int x1, .null, .null, .null, .null, .null, .null] [] M (fun r M1 => zQ 140 117 L (zpush r st) M1 Q) := zq_callS (n := 241) (j := 88) (b := false) (As := [.long l1, .long l2, .int x1]) (by decide +kernel) (by decide +kernel) ⟨by decide +kernel, by decide +kernel, rfl, by decide +kernel, by decide +kernel, Nat.le_of_ble_eq_true rfl⟩ rfl
theorem q140_117 : zQ 140 117 L [.long xl] M Q ↔ Q (zJ xl) M := zq_reJ (by decide +kernel) (by decide +kernel)
-- 141 SandKeepersModel.noSheet(I)Z
theorem q141_0 : zQ 141 0 [.int x] st M Q ↔ zQ 141 1 [.int x] (.int x :: st) M Q := zq_go (i := .iload_n 0) (by decide +kernel) rfl
theorem q141_1 : zQ 141 1 L (.int x :: st) M Q ↔ zQ 141 2 L (.long x.toInt64 :: st) M Q := zq_go (i := .i2l) (by decide +kernel) rfl
theorem q141_2 : zQ 141 2 L st M Q ↔ zQ 141 3 L (.long 0 :: st) M Q := zq_lco (n := 0) (by decide +kernel) (by decide +kernel) rfl
theorem q141_3 : zQ 141 3 L st M Q ↔ zQ 141 6 L (.long 3 :: st) M Q := zq_ld2 (n := 153) (by decide +kernel) (by decide +kernel) rfl
theorem q141_6 : zQ 141 6 L (.long l3 :: .long l2 :: .long l1 :: st) M Q ↔ zcs st ≤ 8 ∧ zQ 84 0 [.long l1, .null, .long l2, .null, .long l3, .null] [] M (fun r M1 => zQ 141 9 L (zpush r st) M1 Q) := zq_callS (n := 89) (j := 84) (b := false) (As := [.long l1, .long l2, .long l3]) (by decide +kernel) (by decide +kernel) ⟨by decide +kernel, by decide +kernel, rfl, by decide +kernel, by decide +kernel, Nat.le_of_ble_eq_true rfl⟩ rfl
theorem q141_9 : zQ 141 9 L (.int x :: st) M Q ↔ (x = 0 → zQ 141 12 L st M Q) ∧ (¬ x = 0 → zQ 141 16 L st M Q) := zq_bn (i := .ifCond .ne 7) (off := 7) (by decide +kernel) rfl (by decide) rfl
theorem q141_12 : zQ 141 12 L st M Q ↔ zQ 141 13 L (.int 1 :: st) M Q := zq_con (n := 1) (by decide +kernel) (by decide +kernel) rfl
theorem q141_13 : zQ 141 13 L st M Q ↔ zQ 141 17 L st M Q := zq_jmp (off := 4) (by decide +kernel) (by decide)
theorem q141_16 : zQ 141 16 L st M Q ↔ zQ 141 17 L (.int 0 :: st) M Q := zq_con (n := 0) (by decide +kernel) (by decide +kernel) rfl
theorem q141_17 : zQ 141 17 L [.int x] M Q ↔ (x = 0 ∨ x = 1) ∧ Q (zI x) M := zq_reZ (by decide +kernel) (by decide +kernel)
-- 142 SandKeepersModel.sheet(III)I
theorem q142_0 : zQ 142 0 [v0, .int x, v2, v3, v4] st M Q ↔ zQ 142 1 [v0, .int x, v2, v3, v4] (.int x :: st) M Q := zq_go (i := .iload_n 1) (by decide +kernel) rfl
theorem q142_1 : zQ 142 1 L (.int x1 :: st) M Q ↔ zcs st ≤ 8 ∧ zQ 141 0 [.int x1] [] M (fun r M1 => zQ 142 4 L (zpush r st) M1 Q) := zq_callS (n := 119) (j := 141) (b := false) (As := [.int x1]) (by decide +kernel) (by decide +kernel) ⟨by decide +kernel, by decide +kernel, rfl, by decide +kernel, by decide +kernel, Nat.le_of_ble_eq_true rfl⟩ rfl
theorem q142_4 : zQ 142 4 L (.int x :: st) M Q ↔ (x = 0 → zQ 142 13 L st M Q) ∧ (¬ x = 0 → zQ 142 7 L st M Q) := zq_br (i := .ifCond .eq 9) (off := 9) (by decide +kernel) rfl (by decide) rfl
theorem q142_7 : zQ 142 7 [.ref a, v1, v2, v3, v4] st M Q ↔ zQ 142 8 [.ref a, v1, v2, v3, v4] (.ref a :: st) M Q := zq_go (i := .aload_n 0) (by decide +kernel) rfl
theorem q142_8 : zQ 142 8 L st M Q ↔ zQ 142 9 L (.int (-1) :: st) M Q := zq_con (n := (-1)) (by decide +kernel) (by decide +kernel) rfl
theorem q142_9 : zQ 142 9 L (.int x1 :: .ref a :: st) M Q ↔ (zcs st ≤ 8 ∧ a < zNC ∧ zk a = 6) ∧ zQ 89 0 [.ref a, .int x1] [] M (fun r M1 => zQ 142 12 L (zpush r st) M1 Q) := zq_callV (n := 123) (j := 89) (b := false) (As := [.int x1]) (by decide +kernel) (by decide +kernel) ⟨by decide +kernel, by decide +kernel, rfl, by decide +kernel, by decide +kernel, Nat.le_of_ble_eq_true rfl⟩ rfl
theorem q142_12 : zQ 142 12 L [.int x] M Q ↔ Q (zI x) M := zq_reI (by decide +kernel) (by decide +kernel)
theorem q142_13 : zQ 142 13 [v0, v1, .int x, v3, v4] st M Q ↔ zQ 142 14 [v0, v1, .int x, v3, v4] (.int x :: st) M Q := zq_go (i := .iload_n 2) (by decide +kernel) rfl
theorem q142_14 : zQ 142 14 L (.int x :: st) M Q ↔ zQ 142 15 L (.long x.toInt64 :: st) M Q := zq_go (i := .i2l) (by decide +kernel) rfl
theorem q142_15 : zQ 142 15 L st M Q ↔ zQ 142 16 L (.long 0 :: st) M Q := zq_lco (n := 0) (by decide +kernel) (by decide +kernel) rfl
theorem q142_16 : zQ 142 16 L st M Q ↔ zQ 142 19 L (.long 2 :: st) M Q := zq_ld2 (n := 126) (by decide +kernel) (by decide +kernel) rfl
theorem q142_19 : zQ 142 19 L (.long l3 :: .long l2 :: .long l1 :: st) M Q ↔ zcs st ≤ 8 ∧ zQ 84 0 [.long l1, .null, .long l2, .null, .long l3, .null] [] M (fun r M1 => zQ 142 22 L (zpush r st) M1 Q) := zq_callS (n := 89) (j := 84) (b := false) (As := [.long l1, .long l2, .long l3]) (by decide +kernel) (by decide +kernel) ⟨by decide +kernel, by decide +kernel, rfl, by decide +kernel, by decide +kernel, Nat.le_of_ble_eq_true rfl⟩ rfl
theorem q142_22 : zQ 142 22 L (.int x :: st) M Q ↔ (x = 0 → zQ 142 31 L st M Q) ∧ (¬ x = 0 → zQ 142 25 L st M Q) := zq_br (i := .ifCond .eq 9) (off := 9) (by decide +kernel) rfl (by decide) rfl
theorem q142_25 : zQ 142 25 [v0, v1, v2, .int x, v4] st M Q ↔ zQ 142 26 [v0, v1, v2, .int x, v4] (.int x :: st) M Q := zq_go (i := .iload_n 3) (by decide +kernel) rfl
theorem q142_26 : zQ 142 26 L st M Q ↔ zQ 142 28 L (.int 60 :: st) M Q := zq_bip (n := 60) (by decide +kernel) (by decide +kernel) rfl
theorem q142_28 : zQ 142 28 L (.int y :: .int x :: st) M Q ↔ (x ≤ y → zQ 142 38 L st M Q) ∧ (¬ x ≤ y → zQ 142 31 L st M Q) := zq_br (i := .if_icmp .le 10) (off := 10) (by decide +kernel) rfl (by decide) rfl
theorem q142_31 : zQ 142 31 [.ref a, v1, v2, v3, v4] st M Q ↔ zQ 142 32 [.ref a, v1, v2, v3, v4] (.ref a :: st) M Q := zq_go (i := .aload_n 0) (by decide +kernel) rfl
theorem q142_32 : zQ 142 32 L st M Q ↔ zQ 142 34 L (.int (-2) :: st) M Q := zq_bip (n := (-2)) (by decide +kernel) (by decide +kernel) rfl
theorem q142_34 : zQ 142 34 L (.int x1 :: .ref a :: st) M Q ↔ (zcs st ≤ 8 ∧ a < zNC ∧ zk a = 6) ∧ zQ 89 0 [.ref a, .int x1] [] M (fun r M1 => zQ 142 37 L (zpush r st) M1 Q) := zq_callV (n := 123) (j := 89) (b := false) (As := [.int x1]) (by decide +kernel) (by decide +kernel) ⟨by decide +kernel, by decide +kernel, rfl, by decide +kernel, by decide +kernel, Nat.le_of_ble_eq_true rfl⟩ rfl
theorem q142_37 : zQ 142 37 L [.int x] M Q ↔ Q (zI x) M := zq_reI (by decide +kernel) (by decide +kernel)
theorem q142_38 : zQ 142 38 [v0, v1, v2, .int x, v4] st M Q ↔ zQ 142 39 [v0, v1, v2, .int x, v4] (.int x :: st) M Q := zq_go (i := .iload_n 3) (by decide +kernel) rfl
theorem q142_39 : zQ 142 39 L (.int x :: st) M Q ↔ (0 ≤ x → zQ 142 48 L st M Q) ∧ (¬ 0 ≤ x → zQ 142 42 L st M Q) := zq_br (i := .ifCond .ge 9) (off := 9) (by decide +kernel) rfl (by decide) rfl
theorem q142_42 : zQ 142 42 [.ref a, v1, v2, v3, v4] st M Q ↔ zQ 142 43 [.ref a, v1, v2, v3, v4] (.ref a :: st) M Q := zq_go (i := .aload_n 0) (by decide +kernel) rfl
theorem q142_43 : zQ 142 43 L st M Q ↔ zQ 142 44 L (.int 4 :: st) M Q := zq_con (n := 4) (by decide +kernel) (by decide +kernel) rfl
theorem q142_44 : zQ 142 44 L (.int x1 :: .ref a :: st) M Q ↔ (zcs st ≤ 8 ∧ a < zNC ∧ zk a = 6) ∧ zQ 90 0 [.ref a, .int x1] [] M (fun r M1 => zQ 142 47 L (zpush r st) M1 Q) := zq_callV (n := 111) (j := 90) (b := false) (As := [.int x1]) (by decide +kernel) (by decide +kernel) ⟨by decide +kernel, by decide +kernel, rfl, by decide +kernel, by decide +kernel, Nat.le_of_ble_eq_true rfl⟩ rfl
theorem q142_47 : zQ 142 47 L [.int x] M Q ↔ Q (zI x) M := zq_reI (by decide +kernel) (by decide +kernel)
theorem q142_48 : zQ 142 48 [.ref a, v1, v2, v3, v4] st M Q ↔ zQ 142 49 [.ref a, v1, v2, v3, v4] (.ref a :: st) M Q := zq_go (i := .aload_n 0) (by decide +kernel) rfl
theorem q142_49 : zQ 142 49 L (.ref a :: st) M Q ↔ (a < zNC ∧ zk a = 6) ∧ zQ 142 52 L (zfv a 27 M :: st) M Q := zq_getf (n := 64) (b := false) (by decide +kernel) (by decide +kernel)
theorem q142_52 : zQ 142 52 [v0, .int x, v2, v3, v4] st M Q ↔ zQ 142 53 [v0, .int x, v2, v3, v4] (.int x :: st) M Q := zq_go (i := .iload_n 1) (by decide +kernel) rfl
theorem q142_53 : zQ 142 53 [v0, v1, v2, .int x, v4] st M Q ↔ zQ 142 54 [v0, v1, v2, .int x, v4] (.int x :: st) M Q := zq_go (i := .iload_n 3) (by decide +kernel) rfl
theorem q142_54 : zQ 142 54 L (.int x :: .int y :: .ref a :: st) M Q ↔ (a < zNC ∧ zk a = 7 ∧ zin y (zn a) = true) ∧ zQ 142 55 L st (zup M a y.toNatClampNeg x) Q := zq_iast (by decide +kernel)
theorem q142_55 : zQ 142 55 [.ref a, v1, v2, v3, v4] st M Q ↔ zQ 142 56 [.ref a, v1, v2, v3, v4] (.ref a :: st) M Q := zq_go (i := .aload_n 0) (by decide +kernel) rfl
theorem q142_56 : zQ 142 56 L (.ref a :: st) M Q ↔ (a < zNC ∧ zk a = 6) ∧ zQ 142 59 L (zfv a 28 M :: st) M Q := zq_getf (n := 67) (b := false) (by decide +kernel) (by decide +kernel)
theorem q142_59 : zQ 142 59 [v0, .int x, v2, v3, v4] st M Q ↔ zQ 142 60 [v0, .int x, v2, v3, v4] (.int x :: st) M Q := zq_go (i := .iload_n 1) (by decide +kernel) rfl
theorem q142_60 : zQ 142 60 [v0, v1, .int x, v3, v4] st M Q ↔ zQ 142 61 [v0, v1, .int x, v3, v4] (.int x :: st) M Q := zq_go (i := .iload_n 2) (by decide +kernel) rfl
theorem q142_61 : zQ 142 61 L (.int x :: .int y :: .ref a :: st) M Q ↔ (a < zNC ∧ zk a = 7 ∧ zin y (zn a) = true) ∧ zQ 142 62 L st (zup M a y.toNatClampNeg x) Q := zq_iast (by decide +kernel)
theorem q142_62 : zQ 142 62 L st M Q ↔ zQ 142 63 L (.int 0 :: st) M Q := zq_con (n := 0) (by decide +kernel) (by decide +kernel) rfl
theorem q142_63i : zQ 142 63 [v0, v1, v2, .int y, v4] (.int x :: st) M Q ↔ zQ 142 65 [v0, v1, v2, .int y, .int x] st M Q := zq_stI (i := .istore 4) (k := 4) (by decide +kernel) rfl (Nat.le_of_ble_eq_true rfl) rfl rfl
theorem q142_63r : zQ 142 63 [v0, v1, v2, .ref r1, v4] (.int x :: st) M Q ↔ zQ 142 65 [v0, v1, v2, .ref r1, .int x] st M Q := zq_stI (i := .istore 4) (k := 4) (by decide +kernel) rfl (Nat.le_of_ble_eq_true rfl) rfl rfl
theorem q142_63n : zQ 142 63 [v0, v1, v2, .null, v4] (.int x :: st) M Q ↔ zQ 142 65 [v0, v1, v2, .null, .int x] st M Q := zq_stI (i := .istore 4) (k := 4) (by decide +kernel) rfl (Nat.le_of_ble_eq_true rfl) rfl rfl
theorem q142_65 : zQ 142 65 [v0, v1, v2, v3, .int x] st M Q ↔ zQ 142 67 [v0, v1, v2, v3, .int x] (.int x :: st) M Q := zq_go (i := .iload 4) (by decide +kernel) rfl
theorem q142_67 : zQ 142 67 [v0, v1, v2, .int x, v4] st M Q ↔ zQ 142 68 [v0, v1, v2, .int x, v4] (.int x :: st) M Q := zq_go (i := .iload_n 3) (by decide +kernel) rfl
theorem q142_68 : zQ 142 68 L (.int y :: .int x :: st) M Q ↔ (y ≤ x → zQ 142 90 L st M Q) ∧ (¬ y ≤ x → zQ 142 71 L st M Q) := zq_br (i := .if_icmp .ge 22) (off := 22) (by decide +kernel) rfl (by decide) rfl
theorem q142_71 : zQ 142 71 [.ref a, v1, v2, v3, v4] st M Q ↔ zQ 142 72 [.ref a, v1, v2, v3, v4] (.ref a :: st) M Q := zq_go (i := .aload_n 0) (by decide +kernel) rfl
theorem q142_72 : zQ 142 72 L (.ref a :: st) M Q ↔ (a < zNC ∧ zk a = 6) ∧ zQ 142 75 L (zfv a 29 M :: st) M Q := zq_getf (n := 70) (b := false) (by decide +kernel) (by decide +kernel)
theorem q142_75 : zQ 142 75 L st M Q ↔ zQ 142 77 L (.int 60 :: st) M Q := zq_bip (n := 60) (by decide +kernel) (by decide +kernel) rfl
theorem q142_77 : zQ 142 77 [v0, .int x, v2, v3, v4] st M Q ↔ zQ 142 78 [v0, .int x, v2, v3, v4] (.int x :: st) M Q := zq_go (i := .iload_n 1) (by decide +kernel) rfl
theorem q142_78 : zQ 142 78 L (.int y :: .int x :: st) M Q ↔ zQ 142 79 L (.int (x * y) :: st) M Q := zq_go (i := .imul) (by decide +kernel) rfl
theorem q142_79 : zQ 142 79 [v0, v1, v2, v3, .int x] st M Q ↔ zQ 142 81 [v0, v1, v2, v3, .int x] (.int x :: st) M Q := zq_go (i := .iload 4) (by decide +kernel) rfl
theorem q142_81 : zQ 142 81 L (.int y :: .int x :: st) M Q ↔ zQ 142 82 L (.int (x + y) :: st) M Q := zq_go (i := .iadd) (by decide +kernel) rfl
theorem q142_82 : zQ 142 82 L st M Q ↔ zQ 142 83 L (.int 0 :: st) M Q := zq_con (n := 0) (by decide +kernel) (by decide +kernel) rfl
theorem q142_83 : zQ 142 83 L (.int x :: .int y :: .ref a :: st) M Q ↔ (a < zNC ∧ zk a = 7 ∧ zin y (zn a) = true) ∧ zQ 142 84 L st (zup M a y.toNatClampNeg x) Q := zq_iast (by decide +kernel)
theorem q142_84i : zQ 142 84 [v0, v1, v2, .int y, .int x] st M Q ↔ zQ 142 87 [v0, v1, v2, .int y, .int (x + 1)] st M Q := zq_inc (k := 4) (n := 1) (x := x) (v := 1) (by decide +kernel) (by decide +kernel) rfl rfl rfl rfl
theorem q142_84r : zQ 142 84 [v0, v1, v2, .ref r1, .int x] st M Q ↔ zQ 142 87 [v0, v1, v2, .ref r1, .int (x + 1)] st M Q := zq_inc (k := 4) (n := 1) (x := x) (v := 1) (by decide +kernel) (by decide +kernel) rfl rfl rfl rfl
theorem q142_84n : zQ 142 84 [v0, v1, v2, .null, .int x] st M Q ↔ zQ 142 87 [v0, v1, v2, .null, .int (x + 1)] st M Q := zq_inc (k := 4) (n := 1) (x := x) (v := 1) (by decide +kernel) (by decide +kernel) rfl rfl rfl rfl
theorem q142_87 : zQ 142 87 L st M Q ↔ zQ 142 65 L st M Q := zq_jmp (off := (-22)) (by decide +kernel) (by decide)
theorem q142_90 : zQ 142 90 [.ref a, v1, v2, v3, v4] st M Q ↔ zQ 142 91 [.ref a, v1, v2, v3, v4] (.ref a :: st) M Q := zq_go (i := .aload_n 0) (by decide +kernel) rfl
theorem q142_91 : zQ 142 91 L st M Q ↔ zQ 142 92 L (.int 1 :: st) M Q := zq_con (n := 1) (by decide +kernel) (by decide +kernel) rfl
theorem q142_92 : zQ 142 92 L (.int x1 :: .ref a :: st) M Q ↔ (zcs st ≤ 8 ∧ a < zNC ∧ zk a = 6) ∧ zQ 89 0 [.ref a, .int x1] [] M (fun r M1 => zQ 142 95 L (zpush r st) M1 Q) := zq_callV (n := 123) (j := 89) (b := false) (As := [.int x1]) (by decide +kernel) (by decide +kernel) ⟨by decide +kernel, by decide +kernel, rfl, by decide +kernel, by decide +kernel, Nat.le_of_ble_eq_true rfl⟩ rfl
theorem q142_95 : zQ 142 95 L [.int x] M Q ↔ Q (zI x) M := zq_reI (by decide +kernel) (by decide +kernel)
-- 143 SandKeepersModel.lose(I)I
theorem q143_0 : zQ 143 0 [v0, .int x, v2] st M Q ↔ zQ 143 1 [v0, .int x, v2] (.int x :: st) M Q := zq_go (i := .iload_n 1) (by decide +kernel) rfl
theorem q143_1 : zQ 143 1 L (.int x1 :: st) M Q ↔ zcs st ≤ 8 ∧ zQ 141 0 [.int x1] [] M (fun r M1 => zQ 143 4 L (zpush r st) M1 Q) := zq_callS (n := 119) (j := 141) (b := false) (As := [.int x1]) (by decide +kernel) (by decide +kernel) ⟨by decide +kernel, by decide +kernel, rfl, by decide +kernel, by decide +kernel, Nat.le_of_ble_eq_true rfl⟩ rfl
theorem q143_4 : zQ 143 4 L (.int x :: st) M Q ↔ (x = 0 → zQ 143 9 L st M Q) ∧ (¬ x = 0 → zQ 143 7 L st M Q) := zq_br (i := .ifCond .eq 5) (off := 5) (by decide +kernel) rfl (by decide) rfl
theorem q143_7 : zQ 143 7 L st M Q ↔ zQ 143 8 L (.int (-1) :: st) M Q := zq_con (n := (-1)) (by decide +kernel) (by decide +kernel) rfl
theorem q143_8 : zQ 143 8 L [.int x] M Q ↔ Q (zI x) M := zq_reI (by decide +kernel) (by decide +kernel)
theorem q143_9 : zQ 143 9 [.ref a, v1, v2] st M Q ↔ zQ 143 10 [.ref a, v1, v2] (.ref a :: st) M Q := zq_go (i := .aload_n 0) (by decide +kernel) rfl
theorem q143_10 : zQ 143 10 L (.ref a :: st) M Q ↔ (a < zNC ∧ zk a = 6) ∧ zQ 143 13 L (zfv a 27 M :: st) M Q := zq_getf (n := 64) (b := false) (by decide +kernel) (by decide +kernel)
theorem q143_13 : zQ 143 13 [v0, .int x, v2] st M Q ↔ zQ 143 14 [v0, .int x, v2] (.int x :: st) M Q := zq_go (i := .iload_n 1) (by decide +kernel) rfl
theorem q143_14 : zQ 143 14 L (.int x :: .ref a :: st) M Q ↔ (a < zNC ∧ zk a = 7 ∧ zin x (zn a) = true) ∧ zQ 143 15 L (.int (M a x.toNatClampNeg) :: st) M Q := zq_iald (by decide +kernel)
theorem q143_15 : zQ 143 15 L (.int x :: st) M Q ↔ (0 ≤ x → zQ 143 22 L st M Q) ∧ (¬ 0 ≤ x → zQ 143 18 L st M Q) := zq_br (i := .ifCond .ge 7) (off := 7) (by decide +kernel) rfl (by decide) rfl
theorem q143_18 : zQ 143 18 L st M Q ↔ zQ 143 19 L (.int 0 :: st) M Q := zq_con (n := 0) (by decide +kernel) (by decide +kernel) rfl
theorem q143_19 : zQ 143 19 L st M Q ↔ zQ 143 23 L st M Q := zq_jmp (off := 4) (by decide +kernel) (by decide)
theorem q143_22 : zQ 143 22 L st M Q ↔ zQ 143 23 L (.int 1 :: st) M Q := zq_con (n := 1) (by decide +kernel) (by decide +kernel) rfl
theorem q143_23i : zQ 143 23 [v0, .int y, v2] (.int x :: st) M Q ↔ zQ 143 24 [v0, .int y, .int x] st M Q := zq_stI (i := .istore_n 2) (k := 2) (by decide +kernel) rfl (Nat.le_of_ble_eq_true rfl) rfl rfl
theorem q143_23r : zQ 143 23 [v0, .ref r1, v2] (.int x :: st) M Q ↔ zQ 143 24 [v0, .ref r1, .int x] st M Q := zq_stI (i := .istore_n 2) (k := 2) (by decide +kernel) rfl (Nat.le_of_ble_eq_true rfl) rfl rfl
theorem q143_23n : zQ 143 23 [v0, .null, v2] (.int x :: st) M Q ↔ zQ 143 24 [v0, .null, .int x] st M Q := zq_stI (i := .istore_n 2) (k := 2) (by decide +kernel) rfl (Nat.le_of_ble_eq_true rfl) rfl rfl
theorem q143_24 : zQ 143 24 [.ref a, v1, v2] st M Q ↔ zQ 143 25 [.ref a, v1, v2] (.ref a :: st) M Q := zq_go (i := .aload_n 0) (by decide +kernel) rfl
theorem q143_25 : zQ 143 25 L (.ref a :: st) M Q ↔ (a < zNC ∧ zk a = 6) ∧ zQ 143 28 L (zfv a 27 M :: st) M Q := zq_getf (n := 64) (b := false) (by decide +kernel) (by decide +kernel)
theorem q143_28 : zQ 143 28 [v0, .int x, v2] st M Q ↔ zQ 143 29 [v0, .int x, v2] (.int x :: st) M Q := zq_go (i := .iload_n 1) (by decide +kernel) rfl
theorem q143_29 : zQ 143 29 L st M Q ↔ zQ 143 30 L (.int (-1) :: st) M Q := zq_con (n := (-1)) (by decide +kernel) (by decide +kernel) rfl
theorem q143_30 : zQ 143 30 L (.int x :: .int y :: .ref a :: st) M Q ↔ (a < zNC ∧ zk a = 7 ∧ zin y (zn a) = true) ∧ zQ 143 31 L st (zup M a y.toNatClampNeg x) Q := zq_iast (by decide +kernel)
theorem q143_31 : zQ 143 31 [v0, v1, .int x] st M Q ↔ zQ 143 32 [v0, v1, .int x] (.int x :: st) M Q := zq_go (i := .iload_n 2) (by decide +kernel) rfl
theorem q143_32 : zQ 143 32 L [.int x] M Q ↔ Q (zI x) M := zq_reI (by decide +kernel) (by decide +kernel)
-- 144 SandKeepersModel.noCell(II)I
theorem q144_0 : zQ 144 0 [.ref a, v1, v2] st M Q ↔ zQ 144 1 [.ref a, v1, v2] (.ref a :: st) M Q := zq_go (i := .aload_n 0) (by decide +kernel) rfl
theorem q144_1 : zQ 144 1 L (.ref a :: st) M Q ↔ (a < zNC ∧ zk a = 6) ∧ zQ 144 4 L (zfv a 27 M :: st) M Q := zq_getf (n := 64) (b := false) (by decide +kernel) (by decide +kernel)
theorem q144_4 : zQ 144 4 [v0, .int x, v2] st M Q ↔ zQ 144 5 [v0, .int x, v2] (.int x :: st) M Q := zq_go (i := .iload_n 1) (by decide +kernel) rfl
theorem q144_5 : zQ 144 5 L (.int x :: .ref a :: st) M Q ↔ (a < zNC ∧ zk a = 7 ∧ zin x (zn a) = true) ∧ zQ 144 6 L (.int (M a x.toNatClampNeg) :: st) M Q := zq_iald (by decide +kernel)
theorem q144_6 : zQ 144 6 L (.int x :: st) M Q ↔ (0 ≤ x → zQ 144 13 L st M Q) ∧ (¬ 0 ≤ x → zQ 144 9 L st M Q) := zq_br (i := .ifCond .ge 7) (off := 7) (by decide +kernel) rfl (by decide) rfl
theorem q144_9 : zQ 144 9 L st M Q ↔ zQ 144 10 L (.int 1 :: st) M Q := zq_con (n := 1) (by decide +kernel) (by decide +kernel) rfl
theorem q144_10 : zQ 144 10 L st M Q ↔ zQ 144 36 L st M Q := zq_jmp (off := 26) (by decide +kernel) (by decide)
theorem q144_13 : zQ 144 13 [v0, v1, .int x] st M Q ↔ zQ 144 14 [v0, v1, .int x] (.int x :: st) M Q := zq_go (i := .iload_n 2) (by decide +kernel) rfl
theorem q144_14 : zQ 144 14 L (.int x :: st) M Q ↔ zQ 144 15 L (.long x.toInt64 :: st) M Q := zq_go (i := .i2l) (by decide +kernel) rfl
theorem q144_15 : zQ 144 15 L st M Q ↔ zQ 144 16 L (.long 0 :: st) M Q := zq_lco (n := 0) (by decide +kernel) (by decide +kernel) rfl
theorem q144_16 : zQ 144 16 [.ref a, v1, v2] st M Q ↔ zQ 144 17 [.ref a, v1, v2] (.ref a :: st) M Q := zq_go (i := .aload_n 0) (by decide +kernel) rfl
theorem q144_17 : zQ 144 17 L (.ref a :: st) M Q ↔ (a < zNC ∧ zk a = 6) ∧ zQ 144 20 L (zfv a 27 M :: st) M Q := zq_getf (n := 64) (b := false) (by decide +kernel) (by decide +kernel)
theorem q144_20 : zQ 144 20 [v0, .int x, v2] st M Q ↔ zQ 144 21 [v0, .int x, v2] (.int x :: st) M Q := zq_go (i := .iload_n 1) (by decide +kernel) rfl
theorem q144_21 : zQ 144 21 L (.int x :: .ref a :: st) M Q ↔ (a < zNC ∧ zk a = 7 ∧ zin x (zn a) = true) ∧ zQ 144 22 L (.int (M a x.toNatClampNeg) :: st) M Q := zq_iald (by decide +kernel)
theorem q144_22 : zQ 144 22 L (.int x :: st) M Q ↔ zQ 144 23 L (.long x.toInt64 :: st) M Q := zq_go (i := .i2l) (by decide +kernel) rfl
theorem q144_23 : zQ 144 23 L st M Q ↔ zQ 144 24 L (.long 1 :: st) M Q := zq_lco (n := 1) (by decide +kernel) (by decide +kernel) rfl
theorem q144_24 : zQ 144 24 L (.long yl :: .long xl :: st) M Q ↔ zQ 144 25 L (.long (xl - yl) :: st) M Q := zq_go (i := .lsub) (by decide +kernel) rfl
theorem q144_25 : zQ 144 25 L (.long l3 :: .long l2 :: .long l1 :: st) M Q ↔ zcs st ≤ 8 ∧ zQ 84 0 [.long l1, .null, .long l2, .null, .long l3, .null] [] M (fun r M1 => zQ 144 28 L (zpush r st) M1 Q) := zq_callS (n := 89) (j := 84) (b := false) (As := [.long l1, .long l2, .long l3]) (by decide +kernel) (by decide +kernel) ⟨by decide +kernel, by decide +kernel, rfl, by decide +kernel, by decide +kernel, Nat.le_of_ble_eq_true rfl⟩ rfl
theorem q144_28 : zQ 144 28 L (.int x :: st) M Q ↔ (x = 0 → zQ 144 35 L st M Q) ∧ (¬ x = 0 → zQ 144 31 L st M Q) := zq_br (i := .ifCond .eq 7) (off := 7) (by decide +kernel) rfl (by decide) rfl
theorem q144_31 : zQ 144 31 L st M Q ↔ zQ 144 32 L (.int 0 :: st) M Q := zq_con (n := 0) (by decide +kernel) (by decide +kernel) rfl
theorem q144_32 : zQ 144 32 L st M Q ↔ zQ 144 36 L st M Q := zq_jmp (off := 4) (by decide +kernel) (by decide)
theorem q144_35 : zQ 144 35 L st M Q ↔ zQ 144 36 L (.int 3 :: st) M Q := zq_con (n := 3) (by decide +kernel) (by decide +kernel) rfl
theorem q144_36 : zQ 144 36 L [.int x] M Q ↔ Q (zI x) M := zq_reI (by decide +kernel) (by decide +kernel)
-- 145 SandKeepersModel.put(III)I
theorem q145_0 : zQ 145 0 [v0, .int x, v2, v3] st M Q ↔ zQ 145 1 [v0, .int x, v2, v3] (.int x :: st) M Q := zq_go (i := .iload_n 1) (by decide +kernel) rfl
theorem q145_1 : zQ 145 1 L (.int x1 :: st) M Q ↔ zcs st ≤ 8 ∧ zQ 141 0 [.int x1] [] M (fun r M1 => zQ 145 4 L (zpush r st) M1 Q) := zq_callS (n := 119) (j := 141) (b := false) (As := [.int x1]) (by decide +kernel) (by decide +kernel) ⟨by decide +kernel, by decide +kernel, rfl, by decide +kernel, by decide +kernel, Nat.le_of_ble_eq_true rfl⟩ rfl
theorem q145_4 : zQ 145 4 L (.int x :: st) M Q ↔ (x = 0 → zQ 145 13 L st M Q) ∧ (¬ x = 0 → zQ 145 7 L st M Q) := zq_br (i := .ifCond .eq 9) (off := 9) (by decide +kernel) rfl (by decide) rfl
theorem q145_7 : zQ 145 7 [.ref a, v1, v2, v3] st M Q ↔ zQ 145 8 [.ref a, v1, v2, v3] (.ref a :: st) M Q := zq_go (i := .aload_n 0) (by decide +kernel) rfl
theorem q145_8 : zQ 145 8 L st M Q ↔ zQ 145 9 L (.int (-1) :: st) M Q := zq_con (n := (-1)) (by decide +kernel) (by decide +kernel) rfl
theorem q145_9 : zQ 145 9 L (.int x1 :: .ref a :: st) M Q ↔ (zcs st ≤ 8 ∧ a < zNC ∧ zk a = 6) ∧ zQ 89 0 [.ref a, .int x1] [] M (fun r M1 => zQ 145 12 L (zpush r st) M1 Q) := zq_callV (n := 123) (j := 89) (b := false) (As := [.int x1]) (by decide +kernel) (by decide +kernel) ⟨by decide +kernel, by decide +kernel, rfl, by decide +kernel, by decide +kernel, Nat.le_of_ble_eq_true rfl⟩ rfl
theorem q145_12 : zQ 145 12 L [.int x] M Q ↔ Q (zI x) M := zq_reI (by decide +kernel) (by decide +kernel)
theorem q145_13 : zQ 145 13 [.ref a, v1, v2, v3] st M Q ↔ zQ 145 14 [.ref a, v1, v2, v3] (.ref a :: st) M Q := zq_go (i := .aload_n 0) (by decide +kernel) rfl
theorem q145_14 : zQ 145 14 [v0, .int x, v2, v3] st M Q ↔ zQ 145 15 [v0, .int x, v2, v3] (.int x :: st) M Q := zq_go (i := .iload_n 1) (by decide +kernel) rfl
theorem q145_15 : zQ 145 15 [v0, v1, .int x, v3] st M Q ↔ zQ 145 16 [v0, v1, .int x, v3] (.int x :: st) M Q := zq_go (i := .iload_n 2) (by decide +kernel) rfl
theorem q145_16 : zQ 145 16 L (.int x2 :: .int x1 :: .ref a :: st) M Q ↔ (zcs st ≤ 8 ∧ a < zNC ∧ zk a = 6) ∧ zQ 144 0 [.ref a, .int x1, .int x2] [] M (fun r M1 => zQ 145 19 L (zpush r st) M1 Q) := zq_callV (n := 245) (j := 144) (b := false) (As := [.int x1, .int x2]) (by decide +kernel) (by decide +kernel) ⟨by decide +kernel, by decide +kernel, rfl, by decide +kernel, by decide +kernel, Nat.le_of_ble_eq_true rfl⟩ rfl
theorem q145_19 : zQ 145 19 L (.int x :: st) M Q ↔ (x ≤ 0 → zQ 145 33 L st M Q) ∧ (¬ x ≤ 0 → zQ 145 22 L st M Q) := zq_br (i := .ifCond .le 14) (off := 14) (by decide +kernel) rfl (by decide) rfl
theorem q145_22 : zQ 145 22 [.ref a, v1, v2, v3] st M Q ↔ zQ 145 23 [.ref a, v1, v2, v3] (.ref a :: st) M Q := zq_go (i := .aload_n 0) (by decide +kernel) rfl
theorem q145_23 : zQ 145 23 [.ref a, v1, v2, v3] st M Q ↔ zQ 145 24 [.ref a, v1, v2, v3] (.ref a :: st) M Q := zq_go (i := .aload_n 0) (by decide +kernel) rfl
theorem q145_24 : zQ 145 24 [v0, .int x, v2, v3] st M Q ↔ zQ 145 25 [v0, .int x, v2, v3] (.int x :: st) M Q := zq_go (i := .iload_n 1) (by decide +kernel) rfl
theorem q145_25 : zQ 145 25 [v0, v1, .int x, v3] st M Q ↔ zQ 145 26 [v0, v1, .int x, v3] (.int x :: st) M Q := zq_go (i := .iload_n 2) (by decide +kernel) rfl
theorem q145_26 : zQ 145 26 L (.int x2 :: .int x1 :: .ref a :: st) M Q ↔ (zcs st ≤ 8 ∧ a < zNC ∧ zk a = 6) ∧ zQ 144 0 [.ref a, .int x1, .int x2] [] M (fun r M1 => zQ 145 29 L (zpush r st) M1 Q) := zq_callV (n := 245) (j := 144) (b := false) (As := [.int x1, .int x2]) (by decide +kernel) (by decide +kernel) ⟨by decide +kernel, by decide +kernel, rfl, by decide +kernel, by decide +kernel, Nat.le_of_ble_eq_true rfl⟩ rfl
theorem q145_29 : zQ 145 29 L (.int x1 :: .ref a :: st) M Q ↔ (zcs st ≤ 8 ∧ a < zNC ∧ zk a = 6) ∧ zQ 90 0 [.ref a, .int x1] [] M (fun r M1 => zQ 145 32 L (zpush r st) M1 Q) := zq_callV (n := 111) (j := 90) (b := false) (As := [.int x1]) (by decide +kernel) (by decide +kernel) ⟨by decide +kernel, by decide +kernel, rfl, by decide +kernel, by decide +kernel, Nat.le_of_ble_eq_true rfl⟩ rfl
theorem q145_32 : zQ 145 32 L [.int x] M Q ↔ Q (zI x) M := zq_reI (by decide +kernel) (by decide +kernel)
theorem q145_33 : zQ 145 33 [.ref a, v1, v2, v3] st M Q ↔ zQ 145 34 [.ref a, v1, v2, v3] (.ref a :: st) M Q := zq_go (i := .aload_n 0) (by decide +kernel) rfl
theorem q145_34 : zQ 145 34 L (.ref a :: st) M Q ↔ (a < zNC ∧ zk a = 6) ∧ zQ 145 37 L (zfv a 29 M :: st) M Q := zq_getf (n := 70) (b := false) (by decide +kernel) (by decide +kernel)
theorem q145_37 : zQ 145 37 L st M Q ↔ zQ 145 39 L (.int 60 :: st) M Q := zq_bip (n := 60) (by decide +kernel) (by decide +kernel) rfl
theorem q145_39 : zQ 145 39 [v0, .int x, v2, v3] st M Q ↔ zQ 145 40 [v0, .int x, v2, v3] (.int x :: st) M Q := zq_go (i := .iload_n 1) (by decide +kernel) rfl
theorem q145_40 : zQ 145 40 L (.int y :: .int x :: st) M Q ↔ zQ 145 41 L (.int (x * y) :: st) M Q := zq_go (i := .imul) (by decide +kernel) rfl
theorem q145_41 : zQ 145 41 [v0, v1, .int x, v3] st M Q ↔ zQ 145 42 [v0, v1, .int x, v3] (.int x :: st) M Q := zq_go (i := .iload_n 2) (by decide +kernel) rfl
theorem q145_42 : zQ 145 42 L (.int y :: .int x :: st) M Q ↔ zQ 145 43 L (.int (x + y) :: st) M Q := zq_go (i := .iadd) (by decide +kernel) rfl
theorem q145_43 : zQ 145 43 [.ref a, v1, v2, v3] st M Q ↔ zQ 145 44 [.ref a, v1, v2, v3] (.ref a :: st) M Q := zq_go (i := .aload_n 0) (by decide +kernel) rfl
theorem q145_44 : zQ 145 44 L (.ref a :: st) M Q ↔ (a < zNC ∧ zk a = 6) ∧ zQ 145 47 L (zfv a 28 M :: st) M Q := zq_getf (n := 67) (b := false) (by decide +kernel) (by decide +kernel)
theorem q145_47 : zQ 145 47 [v0, .int x, v2, v3] st M Q ↔ zQ 145 48 [v0, .int x, v2, v3] (.int x :: st) M Q := zq_go (i := .iload_n 1) (by decide +kernel) rfl
theorem q145_48 : zQ 145 48 L (.int x :: .ref a :: st) M Q ↔ (a < zNC ∧ zk a = 7 ∧ zin x (zn a) = true) ∧ zQ 145 49 L (.int (M a x.toNatClampNeg) :: st) M Q := zq_iald (by decide +kernel)
theorem q145_49 : zQ 145 49 L (.int x :: st) M Q ↔ (x = 0 → zQ 145 52 L st M Q) ∧ (¬ x = 0 → zQ 145 57 L st M Q) := zq_bn (i := .ifCond .ne 8) (off := 8) (by decide +kernel) rfl (by decide) rfl
theorem q145_52 : zQ 145 52 [v0, v1, v2, .int x] st M Q ↔ zQ 145 53 [v0, v1, v2, .int x] (.int x :: st) M Q := zq_go (i := .iload_n 3) (by decide +kernel) rfl
theorem q145_53 : zQ 145 53 L (.int x :: st) M Q ↔ zQ 145 54 L (.int x.toInt8.toInt32 :: st) M Q := zq_go (i := .i2b) (by decide +kernel) rfl
theorem q145_54 : zQ 145 54 L st M Q ↔ zQ 145 73 L st M Q := zq_jmp (off := 19) (by decide +kernel) (by decide)
theorem q145_57 : zQ 145 57 [.ref a, v1, v2, v3] st M Q ↔ zQ 145 58 [.ref a, v1, v2, v3] (.ref a :: st) M Q := zq_go (i := .aload_n 0) (by decide +kernel) rfl
theorem q145_58 : zQ 145 58 L (.ref a :: st) M Q ↔ (a < zNC ∧ zk a = 6) ∧ zQ 145 61 L (zfv a 28 M :: st) M Q := zq_getf (n := 67) (b := false) (by decide +kernel) (by decide +kernel)
theorem q145_61 : zQ 145 61 [v0, .int x, v2, v3] st M Q ↔ zQ 145 62 [v0, .int x, v2, v3] (.int x :: st) M Q := zq_go (i := .iload_n 1) (by decide +kernel) rfl
theorem q145_62 : zQ 145 62 L (.int x :: .ref a :: st) M Q ↔ (a < zNC ∧ zk a = 7 ∧ zin x (zn a) = true) ∧ zQ 145 63 L (.int (M a x.toNatClampNeg) :: st) M Q := zq_iald (by decide +kernel)
theorem q145_63 : zQ 145 63 L st M Q ↔ zQ 145 64 L (.int 1 :: st) M Q := zq_con (n := 1) (by decide +kernel) (by decide +kernel) rfl
theorem q145_64 : zQ 145 64 L (.int y :: .int x :: st) M Q ↔ (x = y → zQ 145 67 L st M Q) ∧ (¬ x = y → zQ 145 72 L st M Q) := zq_bn (i := .if_icmp .ne 8) (off := 8) (by decide +kernel) rfl (by decide) rfl
theorem q145_67 : zQ 145 67 [v0, v1, v2, .int x] st M Q ↔ zQ 145 68 [v0, v1, v2, .int x] (.int x :: st) M Q := zq_go (i := .iload_n 3) (by decide +kernel) rfl
theorem q145_68 : zQ 145 68 L (.int x :: st) M Q ↔ zQ 145 69 L (.int x.toInt16.toInt32 :: st) M Q := zq_go (i := .i2s) (by decide +kernel) rfl
theorem q145_69 : zQ 145 69 L st M Q ↔ zQ 145 73 L st M Q := zq_jmp (off := 4) (by decide +kernel) (by decide)
theorem q145_72 : zQ 145 72 [v0, v1, v2, .int x] st M Q ↔ zQ 145 73 [v0, v1, v2, .int x] (.int x :: st) M Q := zq_go (i := .iload_n 3) (by decide +kernel) rfl
theorem q145_73 : zQ 145 73 L (.int x :: .int y :: .ref a :: st) M Q ↔ (a < zNC ∧ zk a = 7 ∧ zin y (zn a) = true) ∧ zQ 145 74 L st (zup M a y.toNatClampNeg x) Q := zq_iast (by decide +kernel)
theorem q145_74 : zQ 145 74 [.ref a, v1, v2, v3] st M Q ↔ zQ 145 75 [.ref a, v1, v2, v3] (.ref a :: st) M Q := zq_go (i := .aload_n 0) (by decide +kernel) rfl
theorem q145_75 : zQ 145 75 L st M Q ↔ zQ 145 76 L (.int 1 :: st) M Q := zq_con (n := 1) (by decide +kernel) (by decide +kernel) rfl
theorem q145_76 : zQ 145 76 L (.int x1 :: .ref a :: st) M Q ↔ (zcs st ≤ 8 ∧ a < zNC ∧ zk a = 6) ∧ zQ 89 0 [.ref a, .int x1] [] M (fun r M1 => zQ 145 79 L (zpush r st) M1 Q) := zq_callV (n := 123) (j := 89) (b := false) (As := [.int x1]) (by decide +kernel) (by decide +kernel) ⟨by decide +kernel, by decide +kernel, rfl, by decide +kernel, by decide +kernel, Nat.le_of_ble_eq_true rfl⟩ rfl
theorem q145_79 : zQ 145 79 L [.int x] M Q ↔ Q (zI x) M := zq_reI (by decide +kernel) (by decide +kernel)
-- 146 SandKeepersModel.cell(III)J
theorem q146_0 : zQ 146 0 [.ref a, v1, v2, v3] st M Q ↔ zQ 146 1 [.ref a, v1, v2, v3] (.ref a :: st) M Q := zq_go (i := .aload_n 0) (by decide +kernel) rfl
theorem q146_1 : zQ 146 1 L st M Q ↔ zQ 146 2 L (.int 0 :: st) M Q := zq_con (n := 0) (by decide +kernel) (by decide +kernel) rfl
theorem q146_2 : zQ 146 2 L (.int x :: .ref a :: st) M Q ↔ (a < zNC ∧ zk a = 6 ∧ zf a 0 = none) ∧ zQ 146 5 L st (zup M a 0 x) Q := zq_putf (n := 78) (b := false) (by decide +kernel) (by decide +kernel) (by decide +kernel)
theorem q146_5 : zQ 146 5 [v0, .int x, v2, v3] st M Q ↔ zQ 146 6 [v0, .int x, v2, v3] (.int x :: st) M Q := zq_go (i := .iload_n 1) (by decide +kernel) rfl
theorem q146_6 : zQ 146 6 L (.int x1 :: st) M Q ↔ zcs st ≤ 8 ∧ zQ 141 0 [.int x1] [] M (fun r M1 => zQ 146 9 L (zpush r st) M1 Q) := zq_callS (n := 119) (j := 141) (b := false) (As := [.int x1]) (by decide +kernel) (by decide +kernel) ⟨by decide +kernel, by decide +kernel, rfl, by decide +kernel, by decide +kernel, Nat.le_of_ble_eq_true rfl⟩ rfl
theorem q146_9 : zQ 146 9 L (.int x :: st) M Q ↔ (x = 0 → zQ 146 12 L st M Q) ∧ (¬ x = 0 → zQ 146 24 L st M Q) := zq_bn (i := .ifCond .ne 15) (off := 15) (by decide +kernel) rfl (by decide) rfl
theorem q146_12 : zQ 146 12 [v0, v1, v2, .int x] st M Q ↔ zQ 146 13 [v0, v1, v2, .int x] (.int x :: st) M Q := zq_go (i := .iload_n 3) (by decide +kernel) rfl
theorem q146_13 : zQ 146 13 L (.int x :: st) M Q ↔ zQ 146 14 L (.long x.toInt64 :: st) M Q := zq_go (i := .i2l) (by decide +kernel) rfl
theorem q146_14 : zQ 146 14 L st M Q ↔ zQ 146 15 L (.long 0 :: st) M Q := zq_lco (n := 0) (by decide +kernel) (by decide +kernel) rfl
theorem q146_15 : zQ 146 15 L st M Q ↔ zQ 146 18 L (.long 2 :: st) M Q := zq_ld2 (n := 126) (by decide +kernel) (by decide +kernel) rfl
theorem q146_18 : zQ 146 18 L (.long l3 :: .long l2 :: .long l1 :: st) M Q ↔ zcs st ≤ 8 ∧ zQ 84 0 [.long l1, .null, .long l2, .null, .long l3, .null] [] M (fun r M1 => zQ 146 21 L (zpush r st) M1 Q) := zq_callS (n := 89) (j := 84) (b := false) (As := [.long l1, .long l2, .long l3]) (by decide +kernel) (by decide +kernel) ⟨by decide +kernel, by decide +kernel, rfl, by decide +kernel, by decide +kernel, Nat.le_of_ble_eq_true rfl⟩ rfl
theorem q146_21 : zQ 146 21 L (.int x :: st) M Q ↔ (x = 0 → zQ 146 24 L st M Q) ∧ (¬ x = 0 → zQ 146 28 L st M Q) := zq_bn (i := .ifCond .ne 7) (off := 7) (by decide +kernel) rfl (by decide) rfl
theorem q146_24 : zQ 146 24 L (st) M Q ↔ zcs st ≤ 8 ∧ zQ 85 0 [] [] M (fun r M1 => zQ 146 27 L (zpush r st) M1 Q) := zq_callS (n := 82) (j := 85) (b := false) (As := []) (by decide +kernel) (by decide +kernel) ⟨by decide +kernel, by decide +kernel, rfl, by decide +kernel, by decide +kernel, Nat.le_of_ble_eq_true rfl⟩ rfl
theorem q146_27 : zQ 146 27 L [.long xl] M Q ↔ Q (zJ xl) M := zq_reJ (by decide +kernel) (by decide +kernel)
theorem q146_28 : zQ 146 28 [.ref a, v1, v2, v3] st M Q ↔ zQ 146 29 [.ref a, v1, v2, v3] (.ref a :: st) M Q := zq_go (i := .aload_n 0) (by decide +kernel) rfl
theorem q146_29 : zQ 146 29 L (.ref a :: st) M Q ↔ (a < zNC ∧ zk a = 6) ∧ zQ 146 32 L (zfv a 27 M :: st) M Q := zq_getf (n := 64) (b := false) (by decide +kernel) (by decide +kernel)
theorem q146_32 : zQ 146 32 [v0, .int x, v2, v3] st M Q ↔ zQ 146 33 [v0, .int x, v2, v3] (.int x :: st) M Q := zq_go (i := .iload_n 1) (by decide +kernel) rfl
theorem q146_33 : zQ 146 33 L (.int x :: .ref a :: st) M Q ↔ (a < zNC ∧ zk a = 7 ∧ zin x (zn a) = true) ∧ zQ 146 34 L (.int (M a x.toNatClampNeg) :: st) M Q := zq_iald (by decide +kernel)
theorem q146_34 : zQ 146 34 L (.int x :: st) M Q ↔ (x < 0 → zQ 146 53 L st M Q) ∧ (¬ x < 0 → zQ 146 37 L st M Q) := zq_br (i := .ifCond .lt 19) (off := 19) (by decide +kernel) rfl (by decide) rfl
theorem q146_37 : zQ 146 37 [.ref a, v1, v2, v3] st M Q ↔ zQ 146 38 [.ref a, v1, v2, v3] (.ref a :: st) M Q := zq_go (i := .aload_n 0) (by decide +kernel) rfl
theorem q146_38 : zQ 146 38 L (.ref a :: st) M Q ↔ (a < zNC ∧ zk a = 6) ∧ zQ 146 41 L (zfv a 28 M :: st) M Q := zq_getf (n := 67) (b := false) (by decide +kernel) (by decide +kernel)
theorem q146_41 : zQ 146 41 [v0, .int x, v2, v3] st M Q ↔ zQ 146 42 [v0, .int x, v2, v3] (.int x :: st) M Q := zq_go (i := .iload_n 1) (by decide +kernel) rfl
theorem q146_42 : zQ 146 42 L (.int x :: .ref a :: st) M Q ↔ (a < zNC ∧ zk a = 7 ∧ zin x (zn a) = true) ∧ zQ 146 43 L (.int (M a x.toNatClampNeg) :: st) M Q := zq_iald (by decide +kernel)
theorem q146_43 : zQ 146 43 [v0, v1, v2, .int x] st M Q ↔ zQ 146 44 [v0, v1, v2, .int x] (.int x :: st) M Q := zq_go (i := .iload_n 3) (by decide +kernel) rfl
theorem q146_44 : zQ 146 44 L (.int y :: .int x :: st) M Q ↔ (x = y → zQ 146 53 L st M Q) ∧ (¬ x = y → zQ 146 47 L st M Q) := zq_br (i := .if_icmp .eq 9) (off := 9) (by decide +kernel) rfl (by decide) rfl
theorem q146_47 : zQ 146 47 [.ref a, v1, v2, v3] st M Q ↔ zQ 146 48 [.ref a, v1, v2, v3] (.ref a :: st) M Q := zq_go (i := .aload_n 0) (by decide +kernel) rfl
theorem q146_48 : zQ 146 48 L st M Q ↔ zQ 146 49 L (.int 2 :: st) M Q := zq_con (n := 2) (by decide +kernel) (by decide +kernel) rfl
theorem q146_49 : zQ 146 49 L (.int x1 :: .ref a :: st) M Q ↔ (zcs st ≤ 8 ∧ a < zNC ∧ zk a = 6) ∧ zQ 91 0 [.ref a, .int x1] [] M (fun r M1 => zQ 146 52 L (zpush r st) M1 Q) := zq_callV (n := 248) (j := 91) (b := false) (As := [.int x1]) (by decide +kernel) (by decide +kernel) ⟨by decide +kernel, by decide +kernel, rfl, by decide +kernel, by decide +kernel, Nat.le_of_ble_eq_true rfl⟩ rfl
theorem q146_52 : zQ 146 52 L [.long xl] M Q ↔ Q (zJ xl) M := zq_reJ (by decide +kernel) (by decide +kernel)
theorem q146_53 : zQ 146 53 [.ref a, v1, v2, v3] st M Q ↔ zQ 146 54 [.ref a, v1, v2, v3] (.ref a :: st) M Q := zq_go (i := .aload_n 0) (by decide +kernel) rfl
theorem q146_54 : zQ 146 54 [v0, .int x, v2, v3] st M Q ↔ zQ 146 55 [v0, .int x, v2, v3] (.int x :: st) M Q := zq_go (i := .iload_n 1) (by decide +kernel) rfl
theorem q146_55 : zQ 146 55 [v0, v1, .int x, v3] st M Q ↔ zQ 146 56 [v0, v1, .int x, v3] (.int x :: st) M Q := zq_go (i := .iload_n 2) (by decide +kernel) rfl
theorem q146_56 : zQ 146 56 L (.int x2 :: .int x1 :: .ref a :: st) M Q ↔ (zcs st ≤ 8 ∧ a < zNC ∧ zk a = 6) ∧ zQ 144 0 [.ref a, .int x1, .int x2] [] M (fun r M1 => zQ 146 59 L (zpush r st) M1 Q) := zq_callV (n := 245) (j := 144) (b := false) (As := [.int x1, .int x2]) (by decide +kernel) (by decide +kernel) ⟨by decide +kernel, by decide +kernel, rfl, by decide +kernel, by decide +kernel, Nat.le_of_ble_eq_true rfl⟩ rfl
theorem q146_59 : zQ 146 59 L (.int x :: st) M Q ↔ (x ≤ 0 → zQ 146 75 L st M Q) ∧ (¬ x ≤ 0 → zQ 146 62 L st M Q) := zq_br (i := .ifCond .le 16) (off := 16) (by decide +kernel) rfl (by decide) rfl
theorem q146_62 : zQ 146 62 [.ref a, v1, v2, v3] st M Q ↔ zQ 146 63 [.ref a, v1, v2, v3] (.ref a :: st) M Q := zq_go (i := .aload_n 0) (by decide +kernel) rfl
theorem q146_63 : zQ 146 63 [.ref a, v1, v2, v3] st M Q ↔ zQ 146 64 [.ref a, v1, v2, v3] (.ref a :: st) M Q := zq_go (i := .aload_n 0) (by decide +kernel) rfl
theorem q146_64 : zQ 146 64 [v0, .int x, v2, v3] st M Q ↔ zQ 146 65 [v0, .int x, v2, v3] (.int x :: st) M Q := zq_go (i := .iload_n 1) (by decide +kernel) rfl
theorem q146_65 : zQ 146 65 [v0, v1, .int x, v3] st M Q ↔ zQ 146 66 [v0, v1, .int x, v3] (.int x :: st) M Q := zq_go (i := .iload_n 2) (by decide +kernel) rfl
theorem q146_66 : zQ 146 66 L (.int x2 :: .int x1 :: .ref a :: st) M Q ↔ (zcs st ≤ 8 ∧ a < zNC ∧ zk a = 6) ∧ zQ 144 0 [.ref a, .int x1, .int x2] [] M (fun r M1 => zQ 146 69 L (zpush r st) M1 Q) := zq_callV (n := 245) (j := 144) (b := false) (As := [.int x1, .int x2]) (by decide +kernel) (by decide +kernel) ⟨by decide +kernel, by decide +kernel, rfl, by decide +kernel, by decide +kernel, Nat.le_of_ble_eq_true rfl⟩ rfl
theorem q146_69 : zQ 146 69 L (.int x1 :: .ref a :: st) M Q ↔ (zcs st ≤ 8 ∧ a < zNC ∧ zk a = 6) ∧ zQ 91 0 [.ref a, .int x1] [] M (fun r M1 => zQ 146 72 L (zpush r st) M1 Q) := zq_callV (n := 248) (j := 91) (b := false) (As := [.int x1]) (by decide +kernel) (by decide +kernel) ⟨by decide +kernel, by decide +kernel, rfl, by decide +kernel, by decide +kernel, Nat.le_of_ble_eq_true rfl⟩ rfl
theorem q146_72 : zQ 146 72 L st M Q ↔ zQ 146 87 L st M Q := zq_jmp (off := 15) (by decide +kernel) (by decide)
theorem q146_75 : zQ 146 75 [.ref a, v1, v2, v3] st M Q ↔ zQ 146 76 [.ref a, v1, v2, v3] (.ref a :: st) M Q := zq_go (i := .aload_n 0) (by decide +kernel) rfl
theorem q146_76 : zQ 146 76 L (.ref a :: st) M Q ↔ (a < zNC ∧ zk a = 6) ∧ zQ 146 79 L (zfv a 29 M :: st) M Q := zq_getf (n := 70) (b := false) (by decide +kernel) (by decide +kernel)
theorem q146_79 : zQ 146 79 L st M Q ↔ zQ 146 81 L (.int 60 :: st) M Q := zq_bip (n := 60) (by decide +kernel) (by decide +kernel) rfl
theorem q146_81 : zQ 146 81 [v0, .int x, v2, v3] st M Q ↔ zQ 146 82 [v0, .int x, v2, v3] (.int x :: st) M Q := zq_go (i := .iload_n 1) (by decide +kernel) rfl
theorem q146_82 : zQ 146 82 L (.int y :: .int x :: st) M Q ↔ zQ 146 83 L (.int (x * y) :: st) M Q := zq_go (i := .imul) (by decide +kernel) rfl
theorem q146_83 : zQ 146 83 [v0, v1, .int x, v3] st M Q ↔ zQ 146 84 [v0, v1, .int x, v3] (.int x :: st) M Q := zq_go (i := .iload_n 2) (by decide +kernel) rfl
theorem q146_84 : zQ 146 84 L (.int y :: .int x :: st) M Q ↔ zQ 146 85 L (.int (x + y) :: st) M Q := zq_go (i := .iadd) (by decide +kernel) rfl
theorem q146_85 : zQ 146 85 L (.int x :: .ref a :: st) M Q ↔ (a < zNC ∧ zk a = 7 ∧ zin x (zn a) = true) ∧ zQ 146 86 L (.int (M a x.toNatClampNeg) :: st) M Q := zq_iald (by decide +kernel)
theorem q146_86 : zQ 146 86 L (.int x :: st) M Q ↔ zQ 146 87 L (.long x.toInt64 :: st) M Q := zq_go (i := .i2l) (by decide +kernel) rfl
theorem q146_87 : zQ 146 87 L [.long xl] M Q ↔ Q (zJ xl) M := zq_reJ (by decide +kernel) (by decide +kernel)
-- 147 SandKeepersModel.isBeyond(IJI)Z
theorem q147_0 : zQ 147 0 [.int x, v1, v2, v3] st M Q ↔ zQ 147 1 [.int x, v1, v2, v3] (.int x :: st) M Q := zq_go (i := .iload_n 0) (by decide +kernel) rfl
theorem q147_1 : zQ 147 1 L (.int x :: st) M Q ↔ (x < 0 → zQ 147 20 L st M Q) ∧ (¬ x < 0 → zQ 147 4 L st M Q) := zq_br (i := .ifCond .lt 19) (off := 19) (by decide +kernel) rfl (by decide) rfl
theorem q147_4 : zQ 147 4 [v0, .long xl, v2, v3] st M Q ↔ zQ 147 5 [v0, .long xl, v2, v3] (.long xl :: st) M Q := zq_go (i := .lload_n 1) (by decide +kernel) rfl
theorem q147_5 : zQ 147 5 L st M Q ↔ zQ 147 6 L (.long 0 :: st) M Q := zq_lco (n := 0) (by decide +kernel) (by decide +kernel) rfl
theorem q147_6 : zQ 147 6 L (.long yl :: .long xl :: st) M Q ↔ zQ 147 7 L (.int (lg_cmp xl yl) :: st) M Q := zq_go (i := .lcmp) (by decide +kernel) rfl
theorem q147_7 : zQ 147 7 L (.int x :: st) M Q ↔ (x < 0 → zQ 147 20 L st M Q) ∧ (¬ x < 0 → zQ 147 10 L st M Q) := zq_br (i := .ifCond .lt 13) (off := 13) (by decide +kernel) rfl (by decide) rfl
theorem q147_10 : zQ 147 10 [.int x, v1, v2, v3] st M Q ↔ zQ 147 11 [.int x, v1, v2, v3] (.int x :: st) M Q := zq_go (i := .iload_n 0) (by decide +kernel) rfl
theorem q147_11 : zQ 147 11 L (.int x :: st) M Q ↔ zQ 147 12 L (.long x.toInt64 :: st) M Q := zq_go (i := .i2l) (by decide +kernel) rfl
theorem q147_12 : zQ 147 12 [v0, .long xl, v2, v3] st M Q ↔ zQ 147 13 [v0, .long xl, v2, v3] (.long xl :: st) M Q := zq_go (i := .lload_n 1) (by decide +kernel) rfl
theorem q147_13 : zQ 147 13 L (.long yl :: .long xl :: st) M Q ↔ zQ 147 14 L (.long (xl + yl) :: st) M Q := zq_go (i := .ladd) (by decide +kernel) rfl
theorem q147_14 : zQ 147 14 [v0, v1, v2, .int x] st M Q ↔ zQ 147 15 [v0, v1, v2, .int x] (.int x :: st) M Q := zq_go (i := .iload_n 3) (by decide +kernel) rfl
theorem q147_15 : zQ 147 15 L (.int x :: st) M Q ↔ zQ 147 16 L (.long x.toInt64 :: st) M Q := zq_go (i := .i2l) (by decide +kernel) rfl
theorem q147_16 : zQ 147 16 L (.long yl :: .long xl :: st) M Q ↔ zQ 147 17 L (.int (lg_cmp xl yl) :: st) M Q := zq_go (i := .lcmp) (by decide +kernel) rfl
theorem q147_17 : zQ 147 17 L (.int x :: st) M Q ↔ (x ≤ 0 → zQ 147 24 L st M Q) ∧ (¬ x ≤ 0 → zQ 147 20 L st M Q) := zq_br (i := .ifCond .le 7) (off := 7) (by decide +kernel) rfl (by decide) rfl
theorem q147_20 : zQ 147 20 L st M Q ↔ zQ 147 21 L (.int 1 :: st) M Q := zq_con (n := 1) (by decide +kernel) (by decide +kernel) rfl
theorem q147_21 : zQ 147 21 L st M Q ↔ zQ 147 25 L st M Q := zq_jmp (off := 4) (by decide +kernel) (by decide)
theorem q147_24 : zQ 147 24 L st M Q ↔ zQ 147 25 L (.int 0 :: st) M Q := zq_con (n := 0) (by decide +kernel) (by decide +kernel) rfl
theorem q147_25 : zQ 147 25 L [.int x] M Q ↔ (x = 0 ∨ x = 1) ∧ Q (zI x) M := zq_reZ (by decide +kernel) (by decide +kernel)
-- 148 SandKeepersModel.copy(IIIII)I
theorem q148_0 : zQ 148 0 [v0, .int x, v2, v3, v4, v5, v6] st M Q ↔ zQ 148 1 [v0, .int x, v2, v3, v4, v5, v6] (.int x :: st) M Q := zq_go (i := .iload_n 1) (by decide +kernel) rfl
theorem q148_1 : zQ 148 1 L (.int x1 :: st) M Q ↔ zcs st ≤ 8 ∧ zQ 141 0 [.int x1] [] M (fun r M1 => zQ 148 4 L (zpush r st) M1 Q) := zq_callS (n := 119) (j := 141) (b := false) (As := [.int x1]) (by decide +kernel) (by decide +kernel) ⟨by decide +kernel, by decide +kernel, rfl, by decide +kernel, by decide +kernel, Nat.le_of_ble_eq_true rfl⟩ rfl
theorem q148_4 : zQ 148 4 L (.int x :: st) M Q ↔ (x = 0 → zQ 148 7 L st M Q) ∧ (¬ x = 0 → zQ 148 14 L st M Q) := zq_bn (i := .ifCond .ne 10) (off := 10) (by decide +kernel) rfl (by decide) rfl
theorem q148_7 : zQ 148 7 [v0, v1, v2, .int x, v4, v5, v6] st M Q ↔ zQ 148 8 [v0, v1, v2, .int x, v4, v5, v6] (.int x :: st) M Q := zq_go (i := .iload_n 3) (by decide +kernel) rfl
theorem q148_8 : zQ 148 8 L (.int x1 :: st) M Q ↔ zcs st ≤ 8 ∧ zQ 141 0 [.int x1] [] M (fun r M1 => zQ 148 11 L (zpush r st) M1 Q) := zq_callS (n := 119) (j := 141) (b := false) (As := [.int x1]) (by decide +kernel) (by decide +kernel) ⟨by decide +kernel, by decide +kernel, rfl, by decide +kernel, by decide +kernel, Nat.le_of_ble_eq_true rfl⟩ rfl
theorem q148_11 : zQ 148 11 L (.int x :: st) M Q ↔ (x = 0 → zQ 148 20 L st M Q) ∧ (¬ x = 0 → zQ 148 14 L st M Q) := zq_br (i := .ifCond .eq 9) (off := 9) (by decide +kernel) rfl (by decide) rfl
theorem q148_14 : zQ 148 14 [.ref a, v1, v2, v3, v4, v5, v6] st M Q ↔ zQ 148 15 [.ref a, v1, v2, v3, v4, v5, v6] (.ref a :: st) M Q := zq_go (i := .aload_n 0) (by decide +kernel) rfl
theorem q148_15 : zQ 148 15 L st M Q ↔ zQ 148 16 L (.int (-1) :: st) M Q := zq_con (n := (-1)) (by decide +kernel) (by decide +kernel) rfl
theorem q148_16 : zQ 148 16 L (.int x1 :: .ref a :: st) M Q ↔ (zcs st ≤ 8 ∧ a < zNC ∧ zk a = 6) ∧ zQ 89 0 [.ref a, .int x1] [] M (fun r M1 => zQ 148 19 L (zpush r st) M1 Q) := zq_callV (n := 123) (j := 89) (b := false) (As := [.int x1]) (by decide +kernel) (by decide +kernel) ⟨by decide +kernel, by decide +kernel, rfl, by decide +kernel, by decide +kernel, Nat.le_of_ble_eq_true rfl⟩ rfl
theorem q148_19 : zQ 148 19 L [.int x] M Q ↔ Q (zI x) M := zq_reI (by decide +kernel) (by decide +kernel)
theorem q148_20 : zQ 148 20 [.ref a, v1, v2, v3, v4, v5, v6] st M Q ↔ zQ 148 21 [.ref a, v1, v2, v3, v4, v5, v6] (.ref a :: st) M Q := zq_go (i := .aload_n 0) (by decide +kernel) rfl
theorem q148_21 : zQ 148 21 L (.ref a :: st) M Q ↔ (a < zNC ∧ zk a = 6) ∧ zQ 148 24 L (zfv a 27 M :: st) M Q := zq_getf (n := 64) (b := false) (by decide +kernel) (by decide +kernel)
theorem q148_24 : zQ 148 24 [v0, .int x, v2, v3, v4, v5, v6] st M Q ↔ zQ 148 25 [v0, .int x, v2, v3, v4, v5, v6] (.int x :: st) M Q := zq_go (i := .iload_n 1) (by decide +kernel) rfl
theorem q148_25 : zQ 148 25 L (.int x :: .ref a :: st) M Q ↔ (a < zNC ∧ zk a = 7 ∧ zin x (zn a) = true) ∧ zQ 148 26 L (.int (M a x.toNatClampNeg) :: st) M Q := zq_iald (by decide +kernel)
theorem q148_26 : zQ 148 26 L (.int x :: st) M Q ↔ (x < 0 → zQ 148 38 L st M Q) ∧ (¬ x < 0 → zQ 148 29 L st M Q) := zq_br (i := .ifCond .lt 12) (off := 12) (by decide +kernel) rfl (by decide) rfl
theorem q148_29 : zQ 148 29 [.ref a, v1, v2, v3, v4, v5, v6] st M Q ↔ zQ 148 30 [.ref a, v1, v2, v3, v4, v5, v6] (.ref a :: st) M Q := zq_go (i := .aload_n 0) (by decide +kernel) rfl
theorem q148_30 : zQ 148 30 L (.ref a :: st) M Q ↔ (a < zNC ∧ zk a = 6) ∧ zQ 148 33 L (zfv a 27 M :: st) M Q := zq_getf (n := 64) (b := false) (by decide +kernel) (by decide +kernel)
theorem q148_33 : zQ 148 33 [v0, v1, v2, .int x, v4, v5, v6] st M Q ↔ zQ 148 34 [v0, v1, v2, .int x, v4, v5, v6] (.int x :: st) M Q := zq_go (i := .iload_n 3) (by decide +kernel) rfl
theorem q148_34 : zQ 148 34 L (.int x :: .ref a :: st) M Q ↔ (a < zNC ∧ zk a = 7 ∧ zin x (zn a) = true) ∧ zQ 148 35 L (.int (M a x.toNatClampNeg) :: st) M Q := zq_iald (by decide +kernel)
theorem q148_35 : zQ 148 35 L (.int x :: st) M Q ↔ (0 ≤ x → zQ 148 44 L st M Q) ∧ (¬ 0 ≤ x → zQ 148 38 L st M Q) := zq_br (i := .ifCond .ge 9) (off := 9) (by decide +kernel) rfl (by decide) rfl
theorem q148_38 : zQ 148 38 [.ref a, v1, v2, v3, v4, v5, v6] st M Q ↔ zQ 148 39 [.ref a, v1, v2, v3, v4, v5, v6] (.ref a :: st) M Q := zq_go (i := .aload_n 0) (by decide +kernel) rfl
theorem q148_39 : zQ 148 39 L st M Q ↔ zQ 148 40 L (.int 1 :: st) M Q := zq_con (n := 1) (by decide +kernel) (by decide +kernel) rfl
theorem q148_40 : zQ 148 40 L (.int x1 :: .ref a :: st) M Q ↔ (zcs st ≤ 8 ∧ a < zNC ∧ zk a = 6) ∧ zQ 90 0 [.ref a, .int x1] [] M (fun r M1 => zQ 148 43 L (zpush r st) M1 Q) := zq_callV (n := 111) (j := 90) (b := false) (As := [.int x1]) (by decide +kernel) (by decide +kernel) ⟨by decide +kernel, by decide +kernel, rfl, by decide +kernel, by decide +kernel, Nat.le_of_ble_eq_true rfl⟩ rfl
theorem q148_43 : zQ 148 43 L [.int x] M Q ↔ Q (zI x) M := zq_reI (by decide +kernel) (by decide +kernel)
theorem q148_44 : zQ 148 44 [.ref a, v1, v2, v3, v4, v5, v6] st M Q ↔ zQ 148 45 [.ref a, v1, v2, v3, v4, v5, v6] (.ref a :: st) M Q := zq_go (i := .aload_n 0) (by decide +kernel) rfl
theorem q148_45 : zQ 148 45 L (.ref a :: st) M Q ↔ (a < zNC ∧ zk a = 6) ∧ zQ 148 48 L (zfv a 28 M :: st) M Q := zq_getf (n := 67) (b := false) (by decide +kernel) (by decide +kernel)
theorem q148_48 : zQ 148 48 [v0, .int x, v2, v3, v4, v5, v6] st M Q ↔ zQ 148 49 [v0, .int x, v2, v3, v4, v5, v6] (.int x :: st) M Q := zq_go (i := .iload_n 1) (by decide +kernel) rfl
theorem q148_49 : zQ 148 49 L (.int x :: .ref a :: st) M Q ↔ (a < zNC ∧ zk a = 7 ∧ zin x (zn a) = true) ∧ zQ 148 50 L (.int (M a x.toNatClampNeg) :: st) M Q := zq_iald (by decide +kernel)
theorem q148_50 : zQ 148 50 [.ref a, v1, v2, v3, v4, v5, v6] st M Q ↔ zQ 148 51 [.ref a, v1, v2, v3, v4, v5, v6] (.ref a :: st) M Q := zq_go (i := .aload_n 0) (by decide +kernel) rfl
theorem q148_51 : zQ 148 51 L (.ref a :: st) M Q ↔ (a < zNC ∧ zk a = 6) ∧ zQ 148 54 L (zfv a 28 M :: st) M Q := zq_getf (n := 67) (b := false) (by decide +kernel) (by decide +kernel)
theorem q148_54 : zQ 148 54 [v0, v1, v2, .int x, v4, v5, v6] st M Q ↔ zQ 148 55 [v0, v1, v2, .int x, v4, v5, v6] (.int x :: st) M Q := zq_go (i := .iload_n 3) (by decide +kernel) rfl
theorem q148_55 : zQ 148 55 L (.int x :: .ref a :: st) M Q ↔ (a < zNC ∧ zk a = 7 ∧ zin x (zn a) = true) ∧ zQ 148 56 L (.int (M a x.toNatClampNeg) :: st) M Q := zq_iald (by decide +kernel)
theorem q148_56 : zQ 148 56 L (.int y :: .int x :: st) M Q ↔ (x = y → zQ 148 65 L st M Q) ∧ (¬ x = y → zQ 148 59 L st M Q) := zq_br (i := .if_icmp .eq 9) (off := 9) (by decide +kernel) rfl (by decide) rfl
theorem q148_59 : zQ 148 59 [.ref a, v1, v2, v3, v4, v5, v6] st M Q ↔ zQ 148 60 [.ref a, v1, v2, v3, v4, v5, v6] (.ref a :: st) M Q := zq_go (i := .aload_n 0) (by decide +kernel) rfl
theorem q148_60 : zQ 148 60 L st M Q ↔ zQ 148 61 L (.int 2 :: st) M Q := zq_con (n := 2) (by decide +kernel) (by decide +kernel) rfl
theorem q148_61 : zQ 148 61 L (.int x1 :: .ref a :: st) M Q ↔ (zcs st ≤ 8 ∧ a < zNC ∧ zk a = 6) ∧ zQ 90 0 [.ref a, .int x1] [] M (fun r M1 => zQ 148 64 L (zpush r st) M1 Q) := zq_callV (n := 111) (j := 90) (b := false) (As := [.int x1]) (by decide +kernel) (by decide +kernel) ⟨by decide +kernel, by decide +kernel, rfl, by decide +kernel, by decide +kernel, Nat.le_of_ble_eq_true rfl⟩ rfl
theorem q148_64 : zQ 148 64 L [.int x] M Q ↔ Q (zI x) M := zq_reI (by decide +kernel) (by decide +kernel)
theorem q148_65 : zQ 148 65 [v0, v1, .int x, v3, v4, v5, v6] st M Q ↔ zQ 148 66 [v0, v1, .int x, v3, v4, v5, v6] (.int x :: st) M Q := zq_go (i := .iload_n 2) (by decide +kernel) rfl
theorem q148_66 : zQ 148 66 [v0, v1, v2, v3, v4, .int x, v6] st M Q ↔ zQ 148 68 [v0, v1, v2, v3, v4, .int x, v6] (.int x :: st) M Q := zq_go (i := .iload 5) (by decide +kernel) rfl
theorem q148_68 : zQ 148 68 L (.int x :: st) M Q ↔ zQ 148 69 L (.long x.toInt64 :: st) M Q := zq_go (i := .i2l) (by decide +kernel) rfl
theorem q148_69 : zQ 148 69 [.ref a, v1, v2, v3, v4, v5, v6] st M Q ↔ zQ 148 70 [.ref a, v1, v2, v3, v4, v5, v6] (.ref a :: st) M Q := zq_go (i := .aload_n 0) (by decide +kernel) rfl
theorem q148_70 : zQ 148 70 L (.ref a :: st) M Q ↔ (a < zNC ∧ zk a = 6) ∧ zQ 148 73 L (zfv a 27 M :: st) M Q := zq_getf (n := 64) (b := false) (by decide +kernel) (by decide +kernel)
theorem q148_73 : zQ 148 73 [v0, .int x, v2, v3, v4, v5, v6] st M Q ↔ zQ 148 74 [v0, .int x, v2, v3, v4, v5, v6] (.int x :: st) M Q := zq_go (i := .iload_n 1) (by decide +kernel) rfl
theorem q148_74 : zQ 148 74 L (.int x :: .ref a :: st) M Q ↔ (a < zNC ∧ zk a = 7 ∧ zin x (zn a) = true) ∧ zQ 148 75 L (.int (M a x.toNatClampNeg) :: st) M Q := zq_iald (by decide +kernel)
theorem q148_75 : zQ 148 75 L (.int x2 :: .long l1 :: .int x1 :: st) M Q ↔ zcs st ≤ 8 ∧ zQ 147 0 [.int x1, .long l1, .null, .int x2] [] M (fun r M1 => zQ 148 78 L (zpush r st) M1 Q) := zq_callS (n := 115) (j := 147) (b := false) (As := [.int x1, .long l1, .int x2]) (by decide +kernel) (by decide +kernel) ⟨by decide +kernel, by decide +kernel, rfl, by decide +kernel, by decide +kernel, Nat.le_of_ble_eq_true rfl⟩ rfl
theorem q148_78 : zQ 148 78 L (.int x :: st) M Q ↔ (x = 0 → zQ 148 81 L st M Q) ∧ (¬ x = 0 → zQ 148 98 L st M Q) := zq_bn (i := .ifCond .ne 20) (off := 20) (by decide +kernel) rfl (by decide) rfl
theorem q148_81 : zQ 148 81 [v0, v1, v2, v3, .int x, v5, v6] st M Q ↔ zQ 148 83 [v0, v1, v2, v3, .int x, v5, v6] (.int x :: st) M Q := zq_go (i := .iload 4) (by decide +kernel) rfl
theorem q148_83 : zQ 148 83 [v0, v1, v2, v3, v4, .int x, v6] st M Q ↔ zQ 148 85 [v0, v1, v2, v3, v4, .int x, v6] (.int x :: st) M Q := zq_go (i := .iload 5) (by decide +kernel) rfl
theorem q148_85 : zQ 148 85 L (.int x :: st) M Q ↔ zQ 148 86 L (.long x.toInt64 :: st) M Q := zq_go (i := .i2l) (by decide +kernel) rfl
theorem q148_86 : zQ 148 86 [.ref a, v1, v2, v3, v4, v5, v6] st M Q ↔ zQ 148 87 [.ref a, v1, v2, v3, v4, v5, v6] (.ref a :: st) M Q := zq_go (i := .aload_n 0) (by decide +kernel) rfl
theorem q148_87 : zQ 148 87 L (.ref a :: st) M Q ↔ (a < zNC ∧ zk a = 6) ∧ zQ 148 90 L (zfv a 27 M :: st) M Q := zq_getf (n := 64) (b := false) (by decide +kernel) (by decide +kernel)
theorem q148_90 : zQ 148 90 [v0, v1, v2, .int x, v4, v5, v6] st M Q ↔ zQ 148 91 [v0, v1, v2, .int x, v4, v5, v6] (.int x :: st) M Q := zq_go (i := .iload_n 3) (by decide +kernel) rfl
theorem q148_91 : zQ 148 91 L (.int x :: .ref a :: st) M Q ↔ (a < zNC ∧ zk a = 7 ∧ zin x (zn a) = true) ∧ zQ 148 92 L (.int (M a x.toNatClampNeg) :: st) M Q := zq_iald (by decide +kernel)
theorem q148_92 : zQ 148 92 L (.int x2 :: .long l1 :: .int x1 :: st) M Q ↔ zcs st ≤ 8 ∧ zQ 147 0 [.int x1, .long l1, .null, .int x2] [] M (fun r M1 => zQ 148 95 L (zpush r st) M1 Q) := zq_callS (n := 115) (j := 147) (b := false) (As := [.int x1, .long l1, .int x2]) (by decide +kernel) (by decide +kernel) ⟨by decide +kernel, by decide +kernel, rfl, by decide +kernel, by decide +kernel, Nat.le_of_ble_eq_true rfl⟩ rfl
theorem q148_95 : zQ 148 95 L (.int x :: st) M Q ↔ (x = 0 → zQ 148 104 L st M Q) ∧ (¬ x = 0 → zQ 148 98 L st M Q) := zq_br (i := .ifCond .eq 9) (off := 9) (by decide +kernel) rfl (by decide) rfl
theorem q148_98 : zQ 148 98 [.ref a, v1, v2, v3, v4, v5, v6] st M Q ↔ zQ 148 99 [.ref a, v1, v2, v3, v4, v5, v6] (.ref a :: st) M Q := zq_go (i := .aload_n 0) (by decide +kernel) rfl
theorem q148_99 : zQ 148 99 L st M Q ↔ zQ 148 100 L (.int 3 :: st) M Q := zq_con (n := 3) (by decide +kernel) (by decide +kernel) rfl
theorem q148_100 : zQ 148 100 L (.int x1 :: .ref a :: st) M Q ↔ (zcs st ≤ 8 ∧ a < zNC ∧ zk a = 6) ∧ zQ 90 0 [.ref a, .int x1] [] M (fun r M1 => zQ 148 103 L (zpush r st) M1 Q) := zq_callV (n := 111) (j := 90) (b := false) (As := [.int x1]) (by decide +kernel) (by decide +kernel) ⟨by decide +kernel, by decide +kernel, rfl, by decide +kernel, by decide +kernel, Nat.le_of_ble_eq_true rfl⟩ rfl
theorem q148_103 : zQ 148 103 L [.int x] M Q ↔ Q (zI x) M := zq_reI (by decide +kernel) (by decide +kernel)
theorem q148_104 : zQ 148 104 L st M Q ↔ zQ 148 105 L (.int 0 :: st) M Q := zq_con (n := 0) (by decide +kernel) (by decide +kernel) rfl
theorem q148_105i : zQ 148 105 [v0, v1, v2, v3, v4, .int y, v6] (.int x :: st) M Q ↔ zQ 148 107 [v0, v1, v2, v3, v4, .int y, .int x] st M Q := zq_stI (i := .istore 6) (k := 6) (by decide +kernel) rfl (Nat.le_of_ble_eq_true rfl) rfl rfl
theorem q148_105r : zQ 148 105 [v0, v1, v2, v3, v4, .ref r1, v6] (.int x :: st) M Q ↔ zQ 148 107 [v0, v1, v2, v3, v4, .ref r1, .int x] st M Q := zq_stI (i := .istore 6) (k := 6) (by decide +kernel) rfl (Nat.le_of_ble_eq_true rfl) rfl rfl
theorem q148_105n : zQ 148 105 [v0, v1, v2, v3, v4, .null, v6] (.int x :: st) M Q ↔ zQ 148 107 [v0, v1, v2, v3, v4, .null, .int x] st M Q := zq_stI (i := .istore 6) (k := 6) (by decide +kernel) rfl (Nat.le_of_ble_eq_true rfl) rfl rfl
theorem q148_107 : zQ 148 107 [v0, v1, v2, v3, v4, v5, .int x] st M Q ↔ zQ 148 109 [v0, v1, v2, v3, v4, v5, .int x] (.int x :: st) M Q := zq_go (i := .iload 6) (by decide +kernel) rfl
theorem q148_109 : zQ 148 109 [v0, v1, v2, v3, v4, .int x, v6] st M Q ↔ zQ 148 111 [v0, v1, v2, v3, v4, .int x, v6] (.int x :: st) M Q := zq_go (i := .iload 5) (by decide +kernel) rfl
theorem q148_111 : zQ 148 111 L (.int y :: .int x :: st) M Q ↔ (y ≤ x → zQ 148 141 L st M Q) ∧ (¬ y ≤ x → zQ 148 114 L st M Q) := zq_br (i := .if_icmp .ge 30) (off := 30) (by decide +kernel) rfl (by decide) rfl
theorem q148_114 : zQ 148 114 [.ref a, v1, v2, v3, v4, v5, v6] st M Q ↔ zQ 148 115 [.ref a, v1, v2, v3, v4, v5, v6] (.ref a :: st) M Q := zq_go (i := .aload_n 0) (by decide +kernel) rfl
theorem q148_115 : zQ 148 115 L (.ref a :: st) M Q ↔ (a < zNC ∧ zk a = 6) ∧ zQ 148 118 L (zfv a 30 M :: st) M Q := zq_getf (n := 73) (b := false) (by decide +kernel) (by decide +kernel)
theorem q148_118 : zQ 148 118 [v0, v1, v2, v3, v4, v5, .int x] st M Q ↔ zQ 148 120 [v0, v1, v2, v3, v4, v5, .int x] (.int x :: st) M Q := zq_go (i := .iload 6) (by decide +kernel) rfl
theorem q148_120 : zQ 148 120 [.ref a, v1, v2, v3, v4, v5, v6] st M Q ↔ zQ 148 121 [.ref a, v1, v2, v3, v4, v5, v6] (.ref a :: st) M Q := zq_go (i := .aload_n 0) (by decide +kernel) rfl
theorem q148_121 : zQ 148 121 L (.ref a :: st) M Q ↔ (a < zNC ∧ zk a = 6) ∧ zQ 148 124 L (zfv a 29 M :: st) M Q := zq_getf (n := 70) (b := false) (by decide +kernel) (by decide +kernel)
theorem q148_124 : zQ 148 124 L st M Q ↔ zQ 148 126 L (.int 60 :: st) M Q := zq_bip (n := 60) (by decide +kernel) (by decide +kernel) rfl
theorem q148_126 : zQ 148 126 [v0, .int x, v2, v3, v4, v5, v6] st M Q ↔ zQ 148 127 [v0, .int x, v2, v3, v4, v5, v6] (.int x :: st) M Q := zq_go (i := .iload_n 1) (by decide +kernel) rfl
theorem q148_127 : zQ 148 127 L (.int y :: .int x :: st) M Q ↔ zQ 148 128 L (.int (x * y) :: st) M Q := zq_go (i := .imul) (by decide +kernel) rfl
theorem q148_128 : zQ 148 128 [v0, v1, .int x, v3, v4, v5, v6] st M Q ↔ zQ 148 129 [v0, v1, .int x, v3, v4, v5, v6] (.int x :: st) M Q := zq_go (i := .iload_n 2) (by decide +kernel) rfl
theorem q148_129 : zQ 148 129 L (.int y :: .int x :: st) M Q ↔ zQ 148 130 L (.int (x + y) :: st) M Q := zq_go (i := .iadd) (by decide +kernel) rfl
theorem q148_130 : zQ 148 130 [v0, v1, v2, v3, v4, v5, .int x] st M Q ↔ zQ 148 132 [v0, v1, v2, v3, v4, v5, .int x] (.int x :: st) M Q := zq_go (i := .iload 6) (by decide +kernel) rfl
theorem q148_132 : zQ 148 132 L (.int y :: .int x :: st) M Q ↔ zQ 148 133 L (.int (x + y) :: st) M Q := zq_go (i := .iadd) (by decide +kernel) rfl
theorem q148_133 : zQ 148 133 L (.int x :: .ref a :: st) M Q ↔ (a < zNC ∧ zk a = 7 ∧ zin x (zn a) = true) ∧ zQ 148 134 L (.int (M a x.toNatClampNeg) :: st) M Q := zq_iald (by decide +kernel)
theorem q148_134 : zQ 148 134 L (.int x :: .int y :: .ref a :: st) M Q ↔ (a < zNC ∧ zk a = 7 ∧ zin y (zn a) = true) ∧ zQ 148 135 L st (zup M a y.toNatClampNeg x) Q := zq_iast (by decide +kernel)
theorem q148_135i : zQ 148 135 [v0, v1, v2, v3, v4, .int y, .int x] st M Q ↔ zQ 148 138 [v0, v1, v2, v3, v4, .int y, .int (x + 1)] st M Q := zq_inc (k := 6) (n := 1) (x := x) (v := 1) (by decide +kernel) (by decide +kernel) rfl rfl rfl rfl
theorem q148_135r : zQ 148 135 [v0, v1, v2, v3, v4, .ref r1, .int x] st M Q ↔ zQ 148 138 [v0, v1, v2, v3, v4, .ref r1, .int (x + 1)] st M Q := zq_inc (k := 6) (n := 1) (x := x) (v := 1) (by decide +kernel) (by decide +kernel) rfl rfl rfl rfl
theorem q148_135n : zQ 148 135 [v0, v1, v2, v3, v4, .null, .int x] st M Q ↔ zQ 148 138 [v0, v1, v2, v3, v4, .null, .int (x + 1)] st M Q := zq_inc (k := 6) (n := 1) (x := x) (v := 1) (by decide +kernel) (by decide +kernel) rfl rfl rfl rfl
theorem q148_138 : zQ 148 138 L st M Q ↔ zQ 148 107 L st M Q := zq_jmp (off := (-31)) (by decide +kernel) (by decide)
theorem q148_141 : zQ 148 141 L st M Q ↔ zQ 148 142 L (.int 0 :: st) M Q := zq_con (n := 0) (by decide +kernel) (by decide +kernel) rfl
theorem q148_142i : zQ 148 142 [v0, v1, v2, v3, v4, .int y, v6] (.int x :: st) M Q ↔ zQ 148 144 [v0, v1, v2, v3, v4, .int y, .int x] st M Q := zq_stI (i := .istore 6) (k := 6) (by decide +kernel) rfl (Nat.le_of_ble_eq_true rfl) rfl rfl
theorem q148_142r : zQ 148 142 [v0, v1, v2, v3, v4, .ref r1, v6] (.int x :: st) M Q ↔ zQ 148 144 [v0, v1, v2, v3, v4, .ref r1, .int x] st M Q := zq_stI (i := .istore 6) (k := 6) (by decide +kernel) rfl (Nat.le_of_ble_eq_true rfl) rfl rfl
theorem q148_142n : zQ 148 142 [v0, v1, v2, v3, v4, .null, v6] (.int x :: st) M Q ↔ zQ 148 144 [v0, v1, v2, v3, v4, .null, .int x] st M Q := zq_stI (i := .istore 6) (k := 6) (by decide +kernel) rfl (Nat.le_of_ble_eq_true rfl) rfl rfl
theorem q148_144 : zQ 148 144 [v0, v1, v2, v3, v4, v5, .int x] st M Q ↔ zQ 148 146 [v0, v1, v2, v3, v4, v5, .int x] (.int x :: st) M Q := zq_go (i := .iload 6) (by decide +kernel) rfl
theorem q148_146 : zQ 148 146 [v0, v1, v2, v3, v4, .int x, v6] st M Q ↔ zQ 148 148 [v0, v1, v2, v3, v4, .int x, v6] (.int x :: st) M Q := zq_go (i := .iload 5) (by decide +kernel) rfl
theorem q148_148 : zQ 148 148 L (.int y :: .int x :: st) M Q ↔ (y ≤ x → zQ 148 179 L st M Q) ∧ (¬ y ≤ x → zQ 148 151 L st M Q) := zq_br (i := .if_icmp .ge 31) (off := 31) (by decide +kernel) rfl (by decide) rfl
theorem q148_151 : zQ 148 151 [.ref a, v1, v2, v3, v4, v5, v6] st M Q ↔ zQ 148 152 [.ref a, v1, v2, v3, v4, v5, v6] (.ref a :: st) M Q := zq_go (i := .aload_n 0) (by decide +kernel) rfl
theorem q148_152 : zQ 148 152 L (.ref a :: st) M Q ↔ (a < zNC ∧ zk a = 6) ∧ zQ 148 155 L (zfv a 29 M :: st) M Q := zq_getf (n := 70) (b := false) (by decide +kernel) (by decide +kernel)
theorem q148_155 : zQ 148 155 L st M Q ↔ zQ 148 157 L (.int 60 :: st) M Q := zq_bip (n := 60) (by decide +kernel) (by decide +kernel) rfl
theorem q148_157 : zQ 148 157 [v0, v1, v2, .int x, v4, v5, v6] st M Q ↔ zQ 148 158 [v0, v1, v2, .int x, v4, v5, v6] (.int x :: st) M Q := zq_go (i := .iload_n 3) (by decide +kernel) rfl
theorem q148_158 : zQ 148 158 L (.int y :: .int x :: st) M Q ↔ zQ 148 159 L (.int (x * y) :: st) M Q := zq_go (i := .imul) (by decide +kernel) rfl
theorem q148_159 : zQ 148 159 [v0, v1, v2, v3, .int x, v5, v6] st M Q ↔ zQ 148 161 [v0, v1, v2, v3, .int x, v5, v6] (.int x :: st) M Q := zq_go (i := .iload 4) (by decide +kernel) rfl
theorem q148_161 : zQ 148 161 L (.int y :: .int x :: st) M Q ↔ zQ 148 162 L (.int (x + y) :: st) M Q := zq_go (i := .iadd) (by decide +kernel) rfl
theorem q148_162 : zQ 148 162 [v0, v1, v2, v3, v4, v5, .int x] st M Q ↔ zQ 148 164 [v0, v1, v2, v3, v4, v5, .int x] (.int x :: st) M Q := zq_go (i := .iload 6) (by decide +kernel) rfl
theorem q148_164 : zQ 148 164 L (.int y :: .int x :: st) M Q ↔ zQ 148 165 L (.int (x + y) :: st) M Q := zq_go (i := .iadd) (by decide +kernel) rfl
theorem q148_165 : zQ 148 165 [.ref a, v1, v2, v3, v4, v5, v6] st M Q ↔ zQ 148 166 [.ref a, v1, v2, v3, v4, v5, v6] (.ref a :: st) M Q := zq_go (i := .aload_n 0) (by decide +kernel) rfl
theorem q148_166 : zQ 148 166 L (.ref a :: st) M Q ↔ (a < zNC ∧ zk a = 6) ∧ zQ 148 169 L (zfv a 30 M :: st) M Q := zq_getf (n := 73) (b := false) (by decide +kernel) (by decide +kernel)
theorem q148_169 : zQ 148 169 [v0, v1, v2, v3, v4, v5, .int x] st M Q ↔ zQ 148 171 [v0, v1, v2, v3, v4, v5, .int x] (.int x :: st) M Q := zq_go (i := .iload 6) (by decide +kernel) rfl
theorem q148_171 : zQ 148 171 L (.int x :: .ref a :: st) M Q ↔ (a < zNC ∧ zk a = 7 ∧ zin x (zn a) = true) ∧ zQ 148 172 L (.int (M a x.toNatClampNeg) :: st) M Q := zq_iald (by decide +kernel)
theorem q148_172 : zQ 148 172 L (.int x :: .int y :: .ref a :: st) M Q ↔ (a < zNC ∧ zk a = 7 ∧ zin y (zn a) = true) ∧ zQ 148 173 L st (zup M a y.toNatClampNeg x) Q := zq_iast (by decide +kernel)
theorem q148_173i : zQ 148 173 [v0, v1, v2, v3, v4, .int y, .int x] st M Q ↔ zQ 148 176 [v0, v1, v2, v3, v4, .int y, .int (x + 1)] st M Q := zq_inc (k := 6) (n := 1) (x := x) (v := 1) (by decide +kernel) (by decide +kernel) rfl rfl rfl rfl
theorem q148_173r : zQ 148 173 [v0, v1, v2, v3, v4, .ref r1, .int x] st M Q ↔ zQ 148 176 [v0, v1, v2, v3, v4, .ref r1, .int (x + 1)] st M Q := zq_inc (k := 6) (n := 1) (x := x) (v := 1) (by decide +kernel) (by decide +kernel) rfl rfl rfl rfl
theorem q148_173n : zQ 148 173 [v0, v1, v2, v3, v4, .null, .int x] st M Q ↔ zQ 148 176 [v0, v1, v2, v3, v4, .null, .int (x + 1)] st M Q := zq_inc (k := 6) (n := 1) (x := x) (v := 1) (by decide +kernel) (by decide +kernel) rfl rfl rfl rfl
theorem q148_176 : zQ 148 176 L st M Q ↔ zQ 148 144 L st M Q := zq_jmp (off := (-32)) (by decide +kernel) (by decide)
theorem q148_179 : zQ 148 179 [.ref a, v1, v2, v3, v4, v5, v6] st M Q ↔ zQ 148 180 [.ref a, v1, v2, v3, v4, v5, v6] (.ref a :: st) M Q := zq_go (i := .aload_n 0) (by decide +kernel) rfl
theorem q148_180 : zQ 148 180 [v0, v1, v2, v3, v4, .int x, v6] st M Q ↔ zQ 148 182 [v0, v1, v2, v3, v4, .int x, v6] (.int x :: st) M Q := zq_go (i := .iload 5) (by decide +kernel) rfl
theorem q148_182 : zQ 148 182 L (.int x1 :: .ref a :: st) M Q ↔ (zcs st ≤ 8 ∧ a < zNC ∧ zk a = 6) ∧ zQ 89 0 [.ref a, .int x1] [] M (fun r M1 => zQ 148 185 L (zpush r st) M1 Q) := zq_callV (n := 123) (j := 89) (b := false) (As := [.int x1]) (by decide +kernel) (by decide +kernel) ⟨by decide +kernel, by decide +kernel, rfl, by decide +kernel, by decide +kernel, Nat.le_of_ble_eq_true rfl⟩ rfl
theorem q148_185 : zQ 148 185 L [.int x] M Q ↔ Q (zI x) M := zq_reI (by decide +kernel) (by decide +kernel)
-- 149 SandKeepersModel.traced(I)V
theorem q149_0 : zQ 149 0 [.ref a, v1] st M Q ↔ zQ 149 1 [.ref a, v1] (.ref a :: st) M Q := zq_go (i := .aload_n 0) (by decide +kernel) rfl
theorem q149_1 : zQ 149 1 L st M Q ↔ zQ 149 3 L (.int 31 :: st) M Q := zq_bip (n := 31) (by decide +kernel) (by decide +kernel) rfl
theorem q149_3 : zQ 149 3 [.ref a, v1] st M Q ↔ zQ 149 4 [.ref a, v1] (.ref a :: st) M Q := zq_go (i := .aload_n 0) (by decide +kernel) rfl
theorem q149_4 : zQ 149 4 L (.ref a :: st) M Q ↔ (a < zNC ∧ zk a = 6) ∧ zQ 149 7 L (zfv a 31 M :: st) M Q := zq_getf (n := 252) (b := false) (by decide +kernel) (by decide +kernel)
theorem q149_7 : zQ 149 7 L (.int y :: .int x :: st) M Q ↔ zQ 149 8 L (.int (x * y) :: st) M Q := zq_go (i := .imul) (by decide +kernel) rfl
theorem q149_8 : zQ 149 8 [v0, .int x] st M Q ↔ zQ 149 9 [v0, .int x] (.int x :: st) M Q := zq_go (i := .iload_n 1) (by decide +kernel) rfl
theorem q149_9 : zQ 149 9 L (.int y :: .int x :: st) M Q ↔ zQ 149 10 L (.int (x + y) :: st) M Q := zq_go (i := .iadd) (by decide +kernel) rfl
theorem q149_10 : zQ 149 10 L (.int x :: .ref a :: st) M Q ↔ (a < zNC ∧ zk a = 6 ∧ zf a 31 = none) ∧ zQ 149 13 L st (zup M a 31 x) Q := zq_putf (n := 252) (b := false) (by decide +kernel) (by decide +kernel) (by decide +kernel)
theorem q149_13 : zQ 149 13 L [] M Q ↔ Q none M := zq_reV (by decide +kernel) (by decide +kernel)
-- 150 SandKeepersModel.tell(I)I
theorem q150_0 : zQ 150 0 [.ref a, v1, v2, v3] st M Q ↔ zQ 150 1 [.ref a, v1, v2, v3] (.ref a :: st) M Q := zq_go (i := .aload_n 0) (by decide +kernel) rfl
theorem q150_1 : zQ 150 1 [v0, .int x, v2, v3] st M Q ↔ zQ 150 2 [v0, .int x, v2, v3] (.int x :: st) M Q := zq_go (i := .iload_n 1) (by decide +kernel) rfl
theorem q150_2 : zQ 150 2 L (.int x1 :: .ref a :: st) M Q ↔ (zcs st ≤ 8 ∧ a < zNC ∧ zk a = 6) ∧ zQ 92 0 [.ref a, .int x1] [] M (fun r M1 => zQ 150 5 L (zpush r st) M1 Q) := zq_callV (n := 145) (j := 92) (b := false) (As := [.int x1]) (by decide +kernel) (by decide +kernel) ⟨by decide +kernel, by decide +kernel, rfl, by decide +kernel, by decide +kernel, Nat.le_of_ble_eq_true rfl⟩ rfl
theorem q150_5 : zQ 150 5 L (.int x :: st) M Q ↔ (x = 0 → zQ 150 10 L st M Q) ∧ (¬ x = 0 → zQ 150 8 L st M Q) := zq_br (i := .ifCond .eq 5) (off := 5) (by decide +kernel) rfl (by decide) rfl
theorem q150_8 : zQ 150 8 L st M Q ↔ zQ 150 9 L (.int (-1) :: st) M Q := zq_con (n := (-1)) (by decide +kernel) (by decide +kernel) rfl
theorem q150_9 : zQ 150 9 L [.int x] M Q ↔ Q (zI x) M := zq_reI (by decide +kernel) (by decide +kernel)
theorem q150_10 : zQ 150 10 [.ref a, v1, v2, v3] st M Q ↔ zQ 150 11 [.ref a, v1, v2, v3] (.ref a :: st) M Q := zq_go (i := .aload_n 0) (by decide +kernel) rfl
theorem q150_11 : zQ 150 11 L (.ref a :: st) M Q ↔ (a < zNC ∧ zk a = 6) ∧ zQ 150 14 L (zfv a 3 M :: st) M Q := zq_getf (n := 7) (b := false) (by decide +kernel) (by decide +kernel)
theorem q150_14 : zQ 150 14 [v0, .int x, v2, v3] st M Q ↔ zQ 150 15 [v0, .int x, v2, v3] (.int x :: st) M Q := zq_go (i := .iload_n 1) (by decide +kernel) rfl
theorem q150_15 : zQ 150 15 L (.int x :: .ref a :: st) M Q ↔ (a < zNC ∧ zk a = 7 ∧ zin x (zn a) = true) ∧ zQ 150 16 L (.int (M a x.toNatClampNeg) :: st) M Q := zq_iald (by decide +kernel)
theorem q150_16i : zQ 150 16 [v0, .int y, v2, v3] (.int x :: st) M Q ↔ zQ 150 17 [v0, .int y, .int x, v3] st M Q := zq_stI (i := .istore_n 2) (k := 2) (by decide +kernel) rfl (Nat.le_of_ble_eq_true rfl) rfl rfl
theorem q150_16r : zQ 150 16 [v0, .ref r1, v2, v3] (.int x :: st) M Q ↔ zQ 150 17 [v0, .ref r1, .int x, v3] st M Q := zq_stI (i := .istore_n 2) (k := 2) (by decide +kernel) rfl (Nat.le_of_ble_eq_true rfl) rfl rfl
theorem q150_16n : zQ 150 16 [v0, .null, v2, v3] (.int x :: st) M Q ↔ zQ 150 17 [v0, .null, .int x, v3] st M Q := zq_stI (i := .istore_n 2) (k := 2) (by decide +kernel) rfl (Nat.le_of_ble_eq_true rfl) rfl rfl
theorem q150_17 : zQ 150 17 [v0, v1, .int x, v3] st M Q ↔ zQ 150 18 [v0, v1, .int x, v3] (.int x :: st) M Q := zq_go (i := .iload_n 2) (by decide +kernel) rfl
theorem q150_18 : zQ 150 18 L st M Q ↔ zQ 150 19 L (.int 2 :: st) M Q := zq_con (n := 2) (by decide +kernel) (by decide +kernel) rfl
theorem q150_19 : zQ 150 19 L (.int y :: .int x :: st) M Q ↔ (x = y → zQ 150 22 L st M Q) ∧ (¬ x = y → zQ 150 27 L st M Q) := zq_bn (i := .if_icmp .ne 8) (off := 8) (by decide +kernel) rfl (by decide) rfl
theorem q150_22 : zQ 150 22 [.ref a, v1, v2, v3] st M Q ↔ zQ 150 23 [.ref a, v1, v2, v3] (.ref a :: st) M Q := zq_go (i := .aload_n 0) (by decide +kernel) rfl
theorem q150_23 : zQ 150 23 L st M Q ↔ zQ 150 24 L (.int 3 :: st) M Q := zq_con (n := 3) (by decide +kernel) (by decide +kernel) rfl
theorem q150_24 : zQ 150 24 L (.int x1 :: .ref a :: st) M Q ↔ (zcs st ≤ 8 ∧ a < zNC ∧ zk a = 6) ∧ zQ 149 0 [.ref a, .int x1] [] M (fun r M1 => zQ 150 27 L (zpush r st) M1 Q) := zq_callV (n := 255) (j := 149) (b := false) (As := [.int x1]) (by decide +kernel) (by decide +kernel) ⟨by decide +kernel, by decide +kernel, rfl, by decide +kernel, by decide +kernel, Nat.le_of_ble_eq_true rfl⟩ rfl
theorem q150_27 : zQ 150 27 [v0, v1, .int x, v3] st M Q ↔ zQ 150 28 [v0, v1, .int x, v3] (.int x :: st) M Q := zq_go (i := .iload_n 2) (by decide +kernel) rfl
theorem q150_28 : zQ 150 28 L (.int x :: st) M Q ↔ (x ≤ 0 → zQ 150 36 L st M Q) ∧ (¬ x ≤ 0 → zQ 150 31 L st M Q) := zq_br (i := .ifCond .le 8) (off := 8) (by decide +kernel) rfl (by decide) rfl
theorem q150_31 : zQ 150 31 [.ref a, v1, v2, v3] st M Q ↔ zQ 150 32 [.ref a, v1, v2, v3] (.ref a :: st) M Q := zq_go (i := .aload_n 0) (by decide +kernel) rfl
theorem q150_32 : zQ 150 32 L st M Q ↔ zQ 150 33 L (.int 2 :: st) M Q := zq_con (n := 2) (by decide +kernel) (by decide +kernel) rfl
theorem q150_33 : zQ 150 33 L (.int x1 :: .ref a :: st) M Q ↔ (zcs st ≤ 8 ∧ a < zNC ∧ zk a = 6) ∧ zQ 149 0 [.ref a, .int x1] [] M (fun r M1 => zQ 150 36 L (zpush r st) M1 Q) := zq_callV (n := 255) (j := 149) (b := false) (As := [.int x1]) (by decide +kernel) (by decide +kernel) ⟨by decide +kernel, by decide +kernel, rfl, by decide +kernel, by decide +kernel, Nat.le_of_ble_eq_true rfl⟩ rfl
theorem q150_36 : zQ 150 36 [.ref a, v1, v2, v3] st M Q ↔ zQ 150 37 [.ref a, v1, v2, v3] (.ref a :: st) M Q := zq_go (i := .aload_n 0) (by decide +kernel) rfl
theorem q150_37 : zQ 150 37 L st M Q ↔ zQ 150 38 L (.int 1 :: st) M Q := zq_con (n := 1) (by decide +kernel) (by decide +kernel) rfl
theorem q150_38 : zQ 150 38 L (.int x1 :: .ref a :: st) M Q ↔ (zcs st ≤ 8 ∧ a < zNC ∧ zk a = 6) ∧ zQ 149 0 [.ref a, .int x1] [] M (fun r M1 => zQ 150 41 L (zpush r st) M1 Q) := zq_callV (n := 255) (j := 149) (b := false) (As := [.int x1]) (by decide +kernel) (by decide +kernel) ⟨by decide +kernel, by decide +kernel, rfl, by decide +kernel, by decide +kernel, Nat.le_of_ble_eq_true rfl⟩ rfl
theorem q150_41 : zQ 150 41 [v0, v1, .int x, v3] st M Q ↔ zQ 150 42 [v0, v1, .int x, v3] (.int x :: st) M Q := zq_go (i := .iload_n 2) (by decide +kernel) rfl
theorem q150_42 : zQ 150 42 L st M Q ↔ zQ 150 43 L (.int 2 :: st) M Q := zq_con (n := 2) (by decide +kernel) (by decide +kernel) rfl
theorem q150_43 : zQ 150 43 L (.int y :: .int x :: st) M Q ↔ (x = y → zQ 150 46 L st M Q) ∧ (¬ x = y → zQ 150 51 L st M Q) := zq_bn (i := .if_icmp .ne 8) (off := 8) (by decide +kernel) rfl (by decide) rfl
theorem q150_46 : zQ 150 46 [.ref a, v1, v2, v3] st M Q ↔ zQ 150 47 [.ref a, v1, v2, v3] (.ref a :: st) M Q := zq_go (i := .aload_n 0) (by decide +kernel) rfl
theorem q150_47 : zQ 150 47 L st M Q ↔ zQ 150 48 L (.int 1 :: st) M Q := zq_con (n := 1) (by decide +kernel) (by decide +kernel) rfl
theorem q150_48 : zQ 150 48 L (.int x1 :: .ref a :: st) M Q ↔ (zcs st ≤ 8 ∧ a < zNC ∧ zk a = 6) ∧ zQ 149 0 [.ref a, .int x1] [] M (fun r M1 => zQ 150 51 L (zpush r st) M1 Q) := zq_callV (n := 255) (j := 149) (b := false) (As := [.int x1]) (by decide +kernel) (by decide +kernel) ⟨by decide +kernel, by decide +kernel, rfl, by decide +kernel, by decide +kernel, Nat.le_of_ble_eq_true rfl⟩ rfl
theorem q150_51 : zQ 150 51 [.ref a, v1, v2, v3] st M Q ↔ zQ 150 52 [.ref a, v1, v2, v3] (.ref a :: st) M Q := zq_go (i := .aload_n 0) (by decide +kernel) rfl
theorem q150_52 : zQ 150 52 L (.ref a :: st) M Q ↔ (a < zNC ∧ zk a = 6) ∧ zQ 150 55 L (zfv a 6 M :: st) M Q := zq_getf (n := 19) (b := false) (by decide +kernel) (by decide +kernel)
theorem q150_55 : zQ 150 55 [v0, .int x, v2, v3] st M Q ↔ zQ 150 56 [v0, .int x, v2, v3] (.int x :: st) M Q := zq_go (i := .iload_n 1) (by decide +kernel) rfl
theorem q150_56 : zQ 150 56 L (.int x :: .ref a :: st) M Q ↔ (a < zNC ∧ zk a = 7 ∧ zin x (zn a) = true) ∧ zQ 150 57 L (.int (M a x.toNatClampNeg) :: st) M Q := zq_iald (by decide +kernel)
theorem q150_57i : zQ 150 57 [v0, v1, .int y, v3] (.int x :: st) M Q ↔ zQ 150 58 [v0, v1, .int y, .int x] st M Q := zq_stI (i := .istore_n 3) (k := 3) (by decide +kernel) rfl (Nat.le_of_ble_eq_true rfl) rfl rfl
theorem q150_57r : zQ 150 57 [v0, v1, .ref r1, v3] (.int x :: st) M Q ↔ zQ 150 58 [v0, v1, .ref r1, .int x] st M Q := zq_stI (i := .istore_n 3) (k := 3) (by decide +kernel) rfl (Nat.le_of_ble_eq_true rfl) rfl rfl
theorem q150_57n : zQ 150 57 [v0, v1, .null, v3] (.int x :: st) M Q ↔ zQ 150 58 [v0, v1, .null, .int x] st M Q := zq_stI (i := .istore_n 3) (k := 3) (by decide +kernel) rfl (Nat.le_of_ble_eq_true rfl) rfl rfl
theorem q150_58 : zQ 150 58 [v0, v1, .int x, v3] st M Q ↔ zQ 150 59 [v0, v1, .int x, v3] (.int x :: st) M Q := zq_go (i := .iload_n 2) (by decide +kernel) rfl
theorem q150_59 : zQ 150 59 L (.int x :: st) M Q ↔ (x = 0 → zQ 150 62 L st M Q) ∧ (¬ x = 0 → zQ 150 66 L st M Q) := zq_bn (i := .ifCond .ne 7) (off := 7) (by decide +kernel) rfl (by decide) rfl
theorem q150_62 : zQ 150 62 [v0, v1, v2, .int x] st M Q ↔ zQ 150 63 [v0, v1, v2, .int x] (.int x :: st) M Q := zq_go (i := .iload_n 3) (by decide +kernel) rfl
theorem q150_63 : zQ 150 63 L st M Q ↔ zQ 150 84 L st M Q := zq_jmp (off := 21) (by decide +kernel) (by decide)
theorem q150_66 : zQ 150 66 [v0, v1, .int x, v3] st M Q ↔ zQ 150 67 [v0, v1, .int x, v3] (.int x :: st) M Q := zq_go (i := .iload_n 2) (by decide +kernel) rfl
theorem q150_67 : zQ 150 67 L st M Q ↔ zQ 150 68 L (.int 1 :: st) M Q := zq_con (n := 1) (by decide +kernel) (by decide +kernel) rfl
theorem q150_68 : zQ 150 68 L (.int y :: .int x :: st) M Q ↔ (x = y → zQ 150 71 L st M Q) ∧ (¬ x = y → zQ 150 78 L st M Q) := zq_bn (i := .if_icmp .ne 10) (off := 10) (by decide +kernel) rfl (by decide) rfl
theorem q150_71 : zQ 150 71 [v0, v1, v2, .int x] st M Q ↔ zQ 150 72 [v0, v1, v2, .int x] (.int x :: st) M Q := zq_go (i := .iload_n 3) (by decide +kernel) rfl
theorem q150_72 : zQ 150 72 L st M Q ↔ zQ 150 74 L (.int 100 :: st) M Q := zq_bip (n := 100) (by decide +kernel) (by decide +kernel) rfl
theorem q150_74 : zQ 150 74 L (.int y :: .int x :: st) M Q ↔ zQ 150 75 L (.int (x + y) :: st) M Q := zq_go (i := .iadd) (by decide +kernel) rfl
theorem q150_75 : zQ 150 75 L st M Q ↔ zQ 150 84 L st M Q := zq_jmp (off := 9) (by decide +kernel) (by decide)
theorem q150_78 : zQ 150 78 L st M Q ↔ zQ 150 79 L (.int 2 :: st) M Q := zq_con (n := 2) (by decide +kernel) (by decide +kernel) rfl
theorem q150_79 : zQ 150 79 [v0, v1, v2, .int x] st M Q ↔ zQ 150 80 [v0, v1, v2, .int x] (.int x :: st) M Q := zq_go (i := .iload_n 3) (by decide +kernel) rfl
theorem q150_80 : zQ 150 80 L (.int y :: .int x :: st) M Q ↔ zQ 150 81 L (.int (x * y) :: st) M Q := zq_go (i := .imul) (by decide +kernel) rfl
theorem q150_81 : zQ 150 81 L st M Q ↔ zQ 150 83 L (.int 100 :: st) M Q := zq_bip (n := 100) (by decide +kernel) (by decide +kernel) rfl
theorem q150_83 : zQ 150 83 L (.int y :: .int x :: st) M Q ↔ zQ 150 84 L (.int (x + y) :: st) M Q := zq_go (i := .iadd) (by decide +kernel) rfl
theorem q150_84 : zQ 150 84 L [.int x] M Q ↔ Q (zI x) M := zq_reI (by decide +kernel) (by decide +kernel)
-- 151 SandKeepersModel.dust(I)I
theorem q151_0 : zQ 151 0 [.ref a, v1] st M Q ↔ zQ 151 1 [.ref a, v1] (.ref a :: st) M Q := zq_go (i := .aload_n 0) (by decide +kernel) rfl
theorem q151_1 : zQ 151 1 [v0, .int x] st M Q ↔ zQ 151 2 [v0, .int x] (.int x :: st) M Q := zq_go (i := .iload_n 1) (by decide +kernel) rfl
theorem q151_2 : zQ 151 2 L (.int x1 :: .ref a :: st) M Q ↔ (zcs st ≤ 8 ∧ a < zNC ∧ zk a = 6) ∧ zQ 92 0 [.ref a, .int x1] [] M (fun r M1 => zQ 151 5 L (zpush r st) M1 Q) := zq_callV (n := 145) (j := 92) (b := false) (As := [.int x1]) (by decide +kernel) (by decide +kernel) ⟨by decide +kernel, by decide +kernel, rfl, by decide +kernel, by decide +kernel, Nat.le_of_ble_eq_true rfl⟩ rfl
theorem q151_5 : zQ 151 5 L (.int x :: st) M Q ↔ (x = 0 → zQ 151 10 L st M Q) ∧ (¬ x = 0 → zQ 151 8 L st M Q) := zq_br (i := .ifCond .eq 5) (off := 5) (by decide +kernel) rfl (by decide) rfl
theorem q151_8 : zQ 151 8 L st M Q ↔ zQ 151 9 L (.int (-1) :: st) M Q := zq_con (n := (-1)) (by decide +kernel) (by decide +kernel) rfl
theorem q151_9 : zQ 151 9 L [.int x] M Q ↔ Q (zI x) M := zq_reI (by decide +kernel) (by decide +kernel)
theorem q151_10 : zQ 151 10 [.ref a, v1] st M Q ↔ zQ 151 11 [.ref a, v1] (.ref a :: st) M Q := zq_go (i := .aload_n 0) (by decide +kernel) rfl
theorem q151_11 : zQ 151 11 [.ref a, v1] st M Q ↔ zQ 151 12 [.ref a, v1] (.ref a :: st) M Q := zq_go (i := .aload_n 0) (by decide +kernel) rfl
theorem q151_12 : zQ 151 12 L (.ref a :: st) M Q ↔ (a < zNC ∧ zk a = 6) ∧ zQ 151 15 L (zfv a 3 M :: st) M Q := zq_getf (n := 7) (b := false) (by decide +kernel) (by decide +kernel)
theorem q151_15 : zQ 151 15 [v0, .int x] st M Q ↔ zQ 151 16 [v0, .int x] (.int x :: st) M Q := zq_go (i := .iload_n 1) (by decide +kernel) rfl
theorem q151_16 : zQ 151 16 L (.int x :: .ref a :: st) M Q ↔ (a < zNC ∧ zk a = 7 ∧ zin x (zn a) = true) ∧ zQ 151 17 L (.int (M a x.toNatClampNeg) :: st) M Q := zq_iald (by decide +kernel)
theorem q151_17 : zQ 151 17 L st M Q ↔ zQ 151 18 L (.int 2 :: st) M Q := zq_con (n := 2) (by decide +kernel) (by decide +kernel) rfl
theorem q151_18 : zQ 151 18 L (.int y :: .int x :: st) M Q ↔ (x = y → zQ 151 21 L st M Q) ∧ (¬ x = y → zQ 151 25 L st M Q) := zq_bn (i := .if_icmp .ne 7) (off := 7) (by decide +kernel) rfl (by decide) rfl
theorem q151_21 : zQ 151 21 L st M Q ↔ zQ 151 22 L (.int 5 :: st) M Q := zq_con (n := 5) (by decide +kernel) (by decide +kernel) rfl
theorem q151_22 : zQ 151 22 L st M Q ↔ zQ 151 26 L st M Q := zq_jmp (off := 4) (by decide +kernel) (by decide)
theorem q151_25 : zQ 151 25 L st M Q ↔ zQ 151 26 L (.int 4 :: st) M Q := zq_con (n := 4) (by decide +kernel) (by decide +kernel) rfl
theorem q151_26 : zQ 151 26 L (.int x1 :: .ref a :: st) M Q ↔ (zcs st ≤ 8 ∧ a < zNC ∧ zk a = 6) ∧ zQ 149 0 [.ref a, .int x1] [] M (fun r M1 => zQ 151 29 L (zpush r st) M1 Q) := zq_callV (n := 255) (j := 149) (b := false) (As := [.int x1]) (by decide +kernel) (by decide +kernel) ⟨by decide +kernel, by decide +kernel, rfl, by decide +kernel, by decide +kernel, Nat.le_of_ble_eq_true rfl⟩ rfl
theorem q151_29 : zQ 151 29 [.ref a, v1] st M Q ↔ zQ 151 30 [.ref a, v1] (.ref a :: st) M Q := zq_go (i := .aload_n 0) (by decide +kernel) rfl
theorem q151_30 : zQ 151 30 L (.ref a :: st) M Q ↔ (a < zNC ∧ zk a = 6) ∧ zQ 151 33 L (zfv a 3 M :: st) M Q := zq_getf (n := 7) (b := false) (by decide +kernel) (by decide +kernel)
theorem q151_33 : zQ 151 33 [v0, .int x] st M Q ↔ zQ 151 34 [v0, .int x] (.int x :: st) M Q := zq_go (i := .iload_n 1) (by decide +kernel) rfl
theorem q151_34 : zQ 151 34 L (.int x :: .ref a :: st) M Q ↔ (a < zNC ∧ zk a = 7 ∧ zin x (zn a) = true) ∧ zQ 151 35 L (.int (M a x.toNatClampNeg) :: st) M Q := zq_iald (by decide +kernel)
theorem q151_35 : zQ 151 35 L st M Q ↔ zQ 151 36 L (.int 2 :: st) M Q := zq_con (n := 2) (by decide +kernel) (by decide +kernel) rfl
theorem q151_36 : zQ 151 36 L (.int y :: .int x :: st) M Q ↔ (x = y → zQ 151 39 L st M Q) ∧ (¬ x = y → zQ 151 44 L st M Q) := zq_bn (i := .if_icmp .ne 8) (off := 8) (by decide +kernel) rfl (by decide) rfl
theorem q151_39 : zQ 151 39 L st M Q ↔ zQ 151 41 L (.int 50 :: st) M Q := zq_bip (n := 50) (by decide +kernel) (by decide +kernel) rfl
theorem q151_41 : zQ 151 41 L st M Q ↔ zQ 151 45 L st M Q := zq_jmp (off := 4) (by decide +kernel) (by decide)
theorem q151_44 : zQ 151 44 [v0, .int x] st M Q ↔ zQ 151 45 [v0, .int x] (.int x :: st) M Q := zq_go (i := .iload_n 1) (by decide +kernel) rfl
theorem q151_45 : zQ 151 45 L [.int x] M Q ↔ Q (zI x) M := zq_reI (by decide +kernel) (by decide +kernel)
-- 152 SandKeepersModel.as(II)I
theorem q152_0 : zQ 152 0 [.ref a, v1, v2] st M Q ↔ zQ 152 1 [.ref a, v1, v2] (.ref a :: st) M Q := zq_go (i := .aload_n 0) (by decide +kernel) rfl
theorem q152_1 : zQ 152 1 [v0, .int x, v2] st M Q ↔ zQ 152 2 [v0, .int x, v2] (.int x :: st) M Q := zq_go (i := .iload_n 1) (by decide +kernel) rfl
theorem q152_2 : zQ 152 2 L (.int x1 :: .ref a :: st) M Q ↔ (zcs st ≤ 8 ∧ a < zNC ∧ zk a = 6) ∧ zQ 92 0 [.ref a, .int x1] [] M (fun r M1 => zQ 152 5 L (zpush r st) M1 Q) := zq_callV (n := 145) (j := 92) (b := false) (As := [.int x1]) (by decide +kernel) (by decide +kernel) ⟨by decide +kernel, by decide +kernel, rfl, by decide +kernel, by decide +kernel, Nat.le_of_ble_eq_true rfl⟩ rfl
theorem q152_5 : zQ 152 5 L (.int x :: st) M Q ↔ (x = 0 → zQ 152 14 L st M Q) ∧ (¬ x = 0 → zQ 152 8 L st M Q) := zq_br (i := .ifCond .eq 9) (off := 9) (by decide +kernel) rfl (by decide) rfl
theorem q152_8 : zQ 152 8 [.ref a, v1, v2] st M Q ↔ zQ 152 9 [.ref a, v1, v2] (.ref a :: st) M Q := zq_go (i := .aload_n 0) (by decide +kernel) rfl
theorem q152_9 : zQ 152 9 L st M Q ↔ zQ 152 10 L (.int (-1) :: st) M Q := zq_con (n := (-1)) (by decide +kernel) (by decide +kernel) rfl
theorem q152_10 : zQ 152 10 L (.int x1 :: .ref a :: st) M Q ↔ (zcs st ≤ 8 ∧ a < zNC ∧ zk a = 6) ∧ zQ 89 0 [.ref a, .int x1] [] M (fun r M1 => zQ 152 13 L (zpush r st) M1 Q) := zq_callV (n := 123) (j := 89) (b := false) (As := [.int x1]) (by decide +kernel) (by decide +kernel) ⟨by decide +kernel, by decide +kernel, rfl, by decide +kernel, by decide +kernel, Nat.le_of_ble_eq_true rfl⟩ rfl
theorem q152_13 : zQ 152 13 L [.int x] M Q ↔ Q (zI x) M := zq_reI (by decide +kernel) (by decide +kernel)
theorem q152_14 : zQ 152 14 [v0, v1, .int x] st M Q ↔ zQ 152 15 [v0, v1, .int x] (.int x :: st) M Q := zq_go (i := .iload_n 2) (by decide +kernel) rfl
theorem q152_15 : zQ 152 15 L (.int x :: st) M Q ↔ zQ 152 16 L (.long x.toInt64 :: st) M Q := zq_go (i := .i2l) (by decide +kernel) rfl
theorem q152_16 : zQ 152 16 L st M Q ↔ zQ 152 17 L (.long 0 :: st) M Q := zq_lco (n := 0) (by decide +kernel) (by decide +kernel) rfl
theorem q152_17 : zQ 152 17 L st M Q ↔ zQ 152 20 L (.long 2 :: st) M Q := zq_ld2 (n := 126) (by decide +kernel) (by decide +kernel) rfl
theorem q152_20 : zQ 152 20 L (.long l3 :: .long l2 :: .long l1 :: st) M Q ↔ zcs st ≤ 8 ∧ zQ 84 0 [.long l1, .null, .long l2, .null, .long l3, .null] [] M (fun r M1 => zQ 152 23 L (zpush r st) M1 Q) := zq_callS (n := 89) (j := 84) (b := false) (As := [.long l1, .long l2, .long l3]) (by decide +kernel) (by decide +kernel) ⟨by decide +kernel, by decide +kernel, rfl, by decide +kernel, by decide +kernel, Nat.le_of_ble_eq_true rfl⟩ rfl
theorem q152_23 : zQ 152 23 L (.int x :: st) M Q ↔ (x = 0 → zQ 152 26 L st M Q) ∧ (¬ x = 0 → zQ 152 33 L st M Q) := zq_bn (i := .ifCond .ne 10) (off := 10) (by decide +kernel) rfl (by decide) rfl
theorem q152_26 : zQ 152 26 [.ref a, v1, v2] st M Q ↔ zQ 152 27 [.ref a, v1, v2] (.ref a :: st) M Q := zq_go (i := .aload_n 0) (by decide +kernel) rfl
theorem q152_27 : zQ 152 27 L st M Q ↔ zQ 152 29 L (.int (-2) :: st) M Q := zq_bip (n := (-2)) (by decide +kernel) (by decide +kernel) rfl
theorem q152_29 : zQ 152 29 L (.int x1 :: .ref a :: st) M Q ↔ (zcs st ≤ 8 ∧ a < zNC ∧ zk a = 6) ∧ zQ 89 0 [.ref a, .int x1] [] M (fun r M1 => zQ 152 32 L (zpush r st) M1 Q) := zq_callV (n := 123) (j := 89) (b := false) (As := [.int x1]) (by decide +kernel) (by decide +kernel) ⟨by decide +kernel, by decide +kernel, rfl, by decide +kernel, by decide +kernel, Nat.le_of_ble_eq_true rfl⟩ rfl
theorem q152_32 : zQ 152 32 L [.int x] M Q ↔ Q (zI x) M := zq_reI (by decide +kernel) (by decide +kernel)
theorem q152_33 : zQ 152 33 [.ref a, v1, v2] st M Q ↔ zQ 152 34 [.ref a, v1, v2] (.ref a :: st) M Q := zq_go (i := .aload_n 0) (by decide +kernel) rfl
theorem q152_34 : zQ 152 34 L (.ref a :: st) M Q ↔ (a < zNC ∧ zk a = 6) ∧ zQ 152 37 L (zfv a 3 M :: st) M Q := zq_getf (n := 7) (b := false) (by decide +kernel) (by decide +kernel)
theorem q152_37 : zQ 152 37 [v0, .int x, v2] st M Q ↔ zQ 152 38 [v0, .int x, v2] (.int x :: st) M Q := zq_go (i := .iload_n 1) (by decide +kernel) rfl
theorem q152_38 : zQ 152 38 L (.int x :: .ref a :: st) M Q ↔ (a < zNC ∧ zk a = 7 ∧ zin x (zn a) = true) ∧ zQ 152 39 L (.int (M a x.toNatClampNeg) :: st) M Q := zq_iald (by decide +kernel)
theorem q152_39 : zQ 152 39 [v0, v1, .int x] st M Q ↔ zQ 152 40 [v0, v1, .int x] (.int x :: st) M Q := zq_go (i := .iload_n 2) (by decide +kernel) rfl
theorem q152_40 : zQ 152 40 L (.int y :: .int x :: st) M Q ↔ (x < y → zQ 152 51 L st M Q) ∧ (¬ x < y → zQ 152 43 L st M Q) := zq_br (i := .if_icmp .lt 11) (off := 11) (by decide +kernel) rfl (by decide) rfl
theorem q152_43 : zQ 152 43 [.ref a, v1, v2] st M Q ↔ zQ 152 44 [.ref a, v1, v2] (.ref a :: st) M Q := zq_go (i := .aload_n 0) (by decide +kernel) rfl
theorem q152_44 : zQ 152 44 L st M Q ↔ zQ 152 45 L (.int 1 :: st) M Q := zq_con (n := 1) (by decide +kernel) (by decide +kernel) rfl
theorem q152_45 : zQ 152 45 L (.int x1 :: .ref a :: st) M Q ↔ (zcs st ≤ 8 ∧ a < zNC ∧ zk a = 6) ∧ zQ 89 0 [.ref a, .int x1] [] M (fun r M1 => zQ 152 48 L (zpush r st) M1 Q) := zq_callV (n := 123) (j := 89) (b := false) (As := [.int x1]) (by decide +kernel) (by decide +kernel) ⟨by decide +kernel, by decide +kernel, rfl, by decide +kernel, by decide +kernel, Nat.le_of_ble_eq_true rfl⟩ rfl
theorem q152_48 : zQ 152 48 L st M Q ↔ zQ 152 56 L st M Q := zq_jmp (off := 8) (by decide +kernel) (by decide)
theorem q152_51 : zQ 152 51 [.ref a, v1, v2] st M Q ↔ zQ 152 52 [.ref a, v1, v2] (.ref a :: st) M Q := zq_go (i := .aload_n 0) (by decide +kernel) rfl
theorem q152_52 : zQ 152 52 L st M Q ↔ zQ 152 53 L (.int 2 :: st) M Q := zq_con (n := 2) (by decide +kernel) (by decide +kernel) rfl
theorem q152_53 : zQ 152 53 L (.int x1 :: .ref a :: st) M Q ↔ (zcs st ≤ 8 ∧ a < zNC ∧ zk a = 6) ∧ zQ 90 0 [.ref a, .int x1] [] M (fun r M1 => zQ 152 56 L (zpush r st) M1 Q) := zq_callV (n := 111) (j := 90) (b := false) (As := [.int x1]) (by decide +kernel) (by decide +kernel) ⟨by decide +kernel, by decide +kernel, rfl, by decide +kernel, by decide +kernel, Nat.le_of_ble_eq_true rfl⟩ rfl
theorem q152_56 : zQ 152 56 L [.int x] M Q ↔ Q (zI x) M := zq_reI (by decide +kernel) (by decide +kernel)
-- 153 SandKeepersModel.trace()I
theorem q153_0 : zQ 153 0 [.ref a] st M Q ↔ zQ 153 1 [.ref a] (.ref a :: st) M Q := zq_go (i := .aload_n 0) (by decide +kernel) rfl
theorem q153_1 : zQ 153 1 L (.ref a :: st) M Q ↔ (a < zNC ∧ zk a = 6) ∧ zQ 153 4 L (zfv a 31 M :: st) M Q := zq_getf (n := 252) (b := false) (by decide +kernel) (by decide +kernel)
theorem q153_4 : zQ 153 4 L [.int x] M Q ↔ Q (zI x) M := zq_reI (by decide +kernel) (by decide +kernel)
-- 154 SandKeepersModel.fault()I
theorem q154_0 : zQ 154 0 [.ref a] st M Q ↔ zQ 154 1 [.ref a] (.ref a :: st) M Q := zq_go (i := .aload_n 0) (by decide +kernel) rfl
theorem q154_1 : zQ 154 1 L (.ref a :: st) M Q ↔ (a < zNC ∧ zk a = 6) ∧ zQ 154 4 L (zfv a 0 M :: st) M Q := zq_getf (n := 78) (b := false) (by decide +kernel) (by decide +kernel)
theorem q154_4 : zQ 154 4 L [.int x] M Q ↔ Q (zI x) M := zq_reI (by decide +kernel) (by decide +kernel)
-- 155 SandKeepersModel.many(I)I
theorem q155_0 : zQ 155 0 [v0, .int x] st M Q ↔ zQ 155 1 [v0, .int x] (.int x :: st) M Q := zq_go (i := .iload_n 1) (by decide +kernel) rfl
theorem q155_1 : zQ 155 1 L (.int x :: st) M Q ↔ zQ 155 (ztgt 1 (ztabo 54 0 3 #[31, 36, 44, 49] x.toInt)) L st M Q := zq_tab (by decide +kernel) (by decide) (by decide)
theorem q155_32 : zQ 155 32 [.ref a, v1] st M Q ↔ zQ 155 33 [.ref a, v1] (.ref a :: st) M Q := zq_go (i := .aload_n 0) (by decide +kernel) rfl
theorem q155_33 : zQ 155 33 L (.ref a :: st) M Q ↔ (a < zNC ∧ zk a = 6) ∧ zQ 155 36 L (zfv a 1 M :: st) M Q := zq_getf (n := 86) (b := false) (by decide +kernel) (by decide +kernel)
theorem q155_36 : zQ 155 36 L [.int x] M Q ↔ Q (zI x) M := zq_reI (by decide +kernel) (by decide +kernel)
theorem q155_37 : zQ 155 37 [.ref a, v1] st M Q ↔ zQ 155 38 [.ref a, v1] (.ref a :: st) M Q := zq_go (i := .aload_n 0) (by decide +kernel) rfl
theorem q155_38 : zQ 155 38 L (.ref a :: st) M Q ↔ (zcs st ≤ 8 ∧ a < zNC ∧ zk a = 6) ∧ zQ 106 0 [.ref a, .null, .null] [] M (fun r M1 => zQ 155 41 L (zpush r st) M1 Q) := zq_callV (n := 158) (j := 106) (b := false) (As := []) (by decide +kernel) (by decide +kernel) ⟨by decide +kernel, by decide +kernel, rfl, by decide +kernel, by decide +kernel, Nat.le_of_ble_eq_true rfl⟩ rfl
theorem q155_41 : zQ 155 41 L (.int x1 :: st) M Q ↔ zcs st ≤ 8 ∧ zQ 87 0 [.int x1, .null, .null] [] M (fun r M1 => zQ 155 44 L (zpush r st) M1 Q) := zq_callS (n := 176) (j := 87) (b := false) (As := [.int x1]) (by decide +kernel) (by decide +kernel) ⟨by decide +kernel, by decide +kernel, rfl, by decide +kernel, by decide +kernel, Nat.le_of_ble_eq_true rfl⟩ rfl
theorem q155_44 : zQ 155 44 L [.int x] M Q ↔ Q (zI x) M := zq_reI (by decide +kernel) (by decide +kernel)
theorem q155_45 : zQ 155 45 [.ref a, v1] st M Q ↔ zQ 155 46 [.ref a, v1] (.ref a :: st) M Q := zq_go (i := .aload_n 0) (by decide +kernel) rfl
theorem q155_46 : zQ 155 46 L (.ref a :: st) M Q ↔ (a < zNC ∧ zk a = 6) ∧ zQ 155 49 L (zfv a 2 M :: st) M Q := zq_getf (n := 136) (b := false) (by decide +kernel) (by decide +kernel)
theorem q155_49 : zQ 155 49 L [.int x] M Q ↔ Q (zI x) M := zq_reI (by decide +kernel) (by decide +kernel)
theorem q155_50 : zQ 155 50 [.ref a, v1] st M Q ↔ zQ 155 51 [.ref a, v1] (.ref a :: st) M Q := zq_go (i := .aload_n 0) (by decide +kernel) rfl
theorem q155_51 : zQ 155 51 L (.ref a :: st) M Q ↔ (a < zNC ∧ zk a = 6) ∧ zQ 155 54 L (zfv a 23 M :: st) M Q := zq_getf (n := 142) (b := false) (by decide +kernel) (by decide +kernel)
theorem q155_54 : zQ 155 54 L [.int x] M Q ↔ Q (zI x) M := zq_reI (by decide +kernel) (by decide +kernel)
theorem q155_55 : zQ 155 55 L st M Q ↔ zQ 155 57 L (.int (-2) :: st) M Q := zq_bip (n := (-2)) (by decide +kernel) (by decide +kernel) rfl
theorem q155_57 : zQ 155 57 L [.int x] M Q ↔ Q (zI x) M := zq_reI (by decide +kernel) (by decide +kernel)
-- 156 java/lang/Integer.bitCount(I)I
theorem q156_0 : zQ 156 0 [.int x] st M Q ↔ zQ 156 1 [.int x] (.int x :: st) M Q := zq_go (i := .iload_n 0) (by decide +kernel) rfl
theorem q156_1 : zQ 156 1 [.int x] st M Q ↔ zQ 156 2 [.int x] (.int x :: st) M Q := zq_go (i := .iload_n 0) (by decide +kernel) rfl
theorem q156_2 : zQ 156 2 L st M Q ↔ zQ 156 3 L (.int 1 :: st) M Q := zq_con (n := 1) (by decide +kernel) (by decide +kernel) rfl
theorem q156_3 : zQ 156 3 L (.int y :: .int x :: st) M Q ↔ zQ 156 4 L (.int ((x.toUInt32 >>> (y.toUInt32 &&& Int32.toUInt32 31)).toInt32) :: st) M Q := zq_go (i := .iushr) (by decide +kernel) rfl
theorem q156_4 : zQ 156 4 L st M Q ↔ zQ 156 7 L (.int 1431655765 :: st) M Q := zq_ldw (n := 265) (by decide +kernel) (by decide +kernel) rfl
theorem q156_7 : zQ 156 7 L (.int y :: .int x :: st) M Q ↔ zQ 156 8 L (.int (x &&& y) :: st) M Q := zq_go (i := .iand) (by decide +kernel) rfl
theorem q156_8 : zQ 156 8 L (.int y :: .int x :: st) M Q ↔ zQ 156 9 L (.int (x - y) :: st) M Q := zq_go (i := .isub) (by decide +kernel) rfl
theorem q156_9 : zQ 156 9 [v0] (.int x :: st) M Q ↔ zQ 156 10 [.int x] st M Q := zq_stI (i := .istore_n 0) (k := 0) (by decide +kernel) rfl (Nat.le_of_ble_eq_true rfl) rfl rfl
theorem q156_10 : zQ 156 10 [.int x] st M Q ↔ zQ 156 11 [.int x] (.int x :: st) M Q := zq_go (i := .iload_n 0) (by decide +kernel) rfl
theorem q156_11 : zQ 156 11 L st M Q ↔ zQ 156 14 L (.int 858993459 :: st) M Q := zq_ldw (n := 266) (by decide +kernel) (by decide +kernel) rfl
theorem q156_14 : zQ 156 14 L (.int y :: .int x :: st) M Q ↔ zQ 156 15 L (.int (x &&& y) :: st) M Q := zq_go (i := .iand) (by decide +kernel) rfl
theorem q156_15 : zQ 156 15 [.int x] st M Q ↔ zQ 156 16 [.int x] (.int x :: st) M Q := zq_go (i := .iload_n 0) (by decide +kernel) rfl
theorem q156_16 : zQ 156 16 L st M Q ↔ zQ 156 17 L (.int 2 :: st) M Q := zq_con (n := 2) (by decide +kernel) (by decide +kernel) rfl
theorem q156_17 : zQ 156 17 L (.int y :: .int x :: st) M Q ↔ zQ 156 18 L (.int ((x.toUInt32 >>> (y.toUInt32 &&& Int32.toUInt32 31)).toInt32) :: st) M Q := zq_go (i := .iushr) (by decide +kernel) rfl
theorem q156_18 : zQ 156 18 L st M Q ↔ zQ 156 21 L (.int 858993459 :: st) M Q := zq_ldw (n := 266) (by decide +kernel) (by decide +kernel) rfl
theorem q156_21 : zQ 156 21 L (.int y :: .int x :: st) M Q ↔ zQ 156 22 L (.int (x &&& y) :: st) M Q := zq_go (i := .iand) (by decide +kernel) rfl
theorem q156_22 : zQ 156 22 L (.int y :: .int x :: st) M Q ↔ zQ 156 23 L (.int (x + y) :: st) M Q := zq_go (i := .iadd) (by decide +kernel) rfl
theorem q156_23 : zQ 156 23 [v0] (.int x :: st) M Q ↔ zQ 156 24 [.int x] st M Q := zq_stI (i := .istore_n 0) (k := 0) (by decide +kernel) rfl (Nat.le_of_ble_eq_true rfl) rfl rfl
theorem q156_24 : zQ 156 24 [.int x] st M Q ↔ zQ 156 25 [.int x] (.int x :: st) M Q := zq_go (i := .iload_n 0) (by decide +kernel) rfl
theorem q156_25 : zQ 156 25 [.int x] st M Q ↔ zQ 156 26 [.int x] (.int x :: st) M Q := zq_go (i := .iload_n 0) (by decide +kernel) rfl
theorem q156_26 : zQ 156 26 L st M Q ↔ zQ 156 27 L (.int 4 :: st) M Q := zq_con (n := 4) (by decide +kernel) (by decide +kernel) rfl
theorem q156_27 : zQ 156 27 L (.int y :: .int x :: st) M Q ↔ zQ 156 28 L (.int ((x.toUInt32 >>> (y.toUInt32 &&& Int32.toUInt32 31)).toInt32) :: st) M Q := zq_go (i := .iushr) (by decide +kernel) rfl
theorem q156_28 : zQ 156 28 L (.int y :: .int x :: st) M Q ↔ zQ 156 29 L (.int (x + y) :: st) M Q := zq_go (i := .iadd) (by decide +kernel) rfl
theorem q156_29 : zQ 156 29 L st M Q ↔ zQ 156 32 L (.int 252645135 :: st) M Q := zq_ldw (n := 267) (by decide +kernel) (by decide +kernel) rfl
theorem q156_32 : zQ 156 32 L (.int y :: .int x :: st) M Q ↔ zQ 156 33 L (.int (x &&& y) :: st) M Q := zq_go (i := .iand) (by decide +kernel) rfl
theorem q156_33 : zQ 156 33 [v0] (.int x :: st) M Q ↔ zQ 156 34 [.int x] st M Q := zq_stI (i := .istore_n 0) (k := 0) (by decide +kernel) rfl (Nat.le_of_ble_eq_true rfl) rfl rfl
theorem q156_34 : zQ 156 34 [.int x] st M Q ↔ zQ 156 35 [.int x] (.int x :: st) M Q := zq_go (i := .iload_n 0) (by decide +kernel) rfl
theorem q156_35 : zQ 156 35 [.int x] st M Q ↔ zQ 156 36 [.int x] (.int x :: st) M Q := zq_go (i := .iload_n 0) (by decide +kernel) rfl
theorem q156_36 : zQ 156 36 L st M Q ↔ zQ 156 38 L (.int 8 :: st) M Q := zq_bip (n := 8) (by decide +kernel) (by decide +kernel) rfl
theorem q156_38 : zQ 156 38 L (.int y :: .int x :: st) M Q ↔ zQ 156 39 L (.int ((x.toUInt32 >>> (y.toUInt32 &&& Int32.toUInt32 31)).toInt32) :: st) M Q := zq_go (i := .iushr) (by decide +kernel) rfl
theorem q156_39 : zQ 156 39 L (.int y :: .int x :: st) M Q ↔ zQ 156 40 L (.int (x + y) :: st) M Q := zq_go (i := .iadd) (by decide +kernel) rfl
theorem q156_40 : zQ 156 40 [v0] (.int x :: st) M Q ↔ zQ 156 41 [.int x] st M Q := zq_stI (i := .istore_n 0) (k := 0) (by decide +kernel) rfl (Nat.le_of_ble_eq_true rfl) rfl rfl
theorem q156_41 : zQ 156 41 [.int x] st M Q ↔ zQ 156 42 [.int x] (.int x :: st) M Q := zq_go (i := .iload_n 0) (by decide +kernel) rfl
theorem q156_42 : zQ 156 42 [.int x] st M Q ↔ zQ 156 43 [.int x] (.int x :: st) M Q := zq_go (i := .iload_n 0) (by decide +kernel) rfl
theorem q156_43 : zQ 156 43 L st M Q ↔ zQ 156 45 L (.int 16 :: st) M Q := zq_bip (n := 16) (by decide +kernel) (by decide +kernel) rfl
theorem q156_45 : zQ 156 45 L (.int y :: .int x :: st) M Q ↔ zQ 156 46 L (.int ((x.toUInt32 >>> (y.toUInt32 &&& Int32.toUInt32 31)).toInt32) :: st) M Q := zq_go (i := .iushr) (by decide +kernel) rfl
theorem q156_46 : zQ 156 46 L (.int y :: .int x :: st) M Q ↔ zQ 156 47 L (.int (x + y) :: st) M Q := zq_go (i := .iadd) (by decide +kernel) rfl
theorem q156_47 : zQ 156 47 [v0] (.int x :: st) M Q ↔ zQ 156 48 [.int x] st M Q := zq_stI (i := .istore_n 0) (k := 0) (by decide +kernel) rfl (Nat.le_of_ble_eq_true rfl) rfl rfl
theorem q156_48 : zQ 156 48 [.int x] st M Q ↔ zQ 156 49 [.int x] (.int x :: st) M Q := zq_go (i := .iload_n 0) (by decide +kernel) rfl
theorem q156_49 : zQ 156 49 L st M Q ↔ zQ 156 51 L (.int 63 :: st) M Q := zq_bip (n := 63) (by decide +kernel) (by decide +kernel) rfl
theorem q156_51 : zQ 156 51 L (.int y :: .int x :: st) M Q ↔ zQ 156 52 L (.int (x &&& y) :: st) M Q := zq_go (i := .iand) (by decide +kernel) rfl
theorem q156_52 : zQ 156 52 L [.int x] M Q ↔ Q (zI x) M := zq_reI (by decide +kernel) (by decide +kernel)
end QI
