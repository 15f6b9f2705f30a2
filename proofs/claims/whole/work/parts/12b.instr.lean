section QI
variable {L st : List Value} {M : zM} {Q : zR → zM → Prop} {v0 v1 v2 v3 v4 v5 v6 v7 v8 v9 : Value} {x y : Int32} {xl yl : Int64} {a : Nat} {x1 x2 x3 x4 x5 : Int32} {r1 r2 : Nat} {l1 l2 l3 : Int64}
-- 38 SandKeepers.see(IIII)I
theorem q38_0 : zQ 38 0 [.ref a, v1, v2, v3, v4, v5, v6, v7] st M Q ↔ zQ 38 1 [.ref a, v1, v2, v3, v4, v5, v6, v7] (.ref a :: st) M Q := zq_go (i := .aload_n 0) (by decide +kernel) rfl
theorem q38_1 : zQ 38 1 L st M Q ↔ zQ 38 2 L (.int 0 :: st) M Q := zq_con (n := 0) (by decide +kernel) (by decide +kernel) rfl
theorem q38_2 : zQ 38 2 L (.int x :: .ref a :: st) M Q ↔ (a < zNC ∧ zk a = 5 ∧ zf a 7 = none) ∧ zQ 38 5 L st (zup M a 7 x) Q := zq_putf (n := 49) (b := false) (by decide +kernel) (by decide +kernel) (by decide +kernel)
theorem q38_5 : zQ 38 5 [v0, .int x, v2, v3, v4, v5, v6, v7] st M Q ↔ zQ 38 6 [v0, .int x, v2, v3, v4, v5, v6, v7] (.int x :: st) M Q := zq_go (i := .iload_n 1) (by decide +kernel) rfl
theorem q38_6 : zQ 38 6 L st M Q ↔ zQ 38 7 L (.int 4 :: st) M Q := zq_con (n := 4) (by decide +kernel) (by decide +kernel) rfl
theorem q38_7 : zQ 38 7 L (.int x2 :: .int x1 :: st) M Q ↔ zcs st ≤ 8 ∧ zQ 74 0 [.int x1, .int x2] [] M (fun r M1 => zQ 38 10 L (zpush r st) M1 Q) := zq_callS (n := 53) (j := 74) (b := false) (As := [.int x1, .int x2]) (by decide +kernel) (by decide +kernel) ⟨by decide +kernel, by decide +kernel, rfl, by decide +kernel, by decide +kernel, Nat.le_of_ble_eq_true rfl⟩ rfl
theorem q38_10 : zQ 38 10 L (.int x :: st) M Q ↔ (x = 0 → zQ 38 13 L st M Q) ∧ (¬ x = 0 → zQ 38 15 L st M Q) := zq_bn (i := .ifCond .ne 5) (off := 5) (by decide +kernel) rfl (by decide) rfl
theorem q38_13 : zQ 38 13 L st M Q ↔ zQ 38 14 L (.int (-1) :: st) M Q := zq_con (n := (-1)) (by decide +kernel) (by decide +kernel) rfl
theorem q38_14 : zQ 38 14 L [.int x] M Q ↔ Q (zI x) M := zq_reI (by decide +kernel) (by decide +kernel)
theorem q38_15 : zQ 38 15 [v0, v1, .int x, v3, v4, v5, v6, v7] st M Q ↔ zQ 38 16 [v0, v1, .int x, v3, v4, v5, v6, v7] (.int x :: st) M Q := zq_go (i := .iload_n 2) (by decide +kernel) rfl
theorem q38_16 : zQ 38 16 L st M Q ↔ zQ 38 17 L (.int 3 :: st) M Q := zq_con (n := 3) (by decide +kernel) (by decide +kernel) rfl
theorem q38_17 : zQ 38 17 L (.int x2 :: .int x1 :: st) M Q ↔ zcs st ≤ 8 ∧ zQ 74 0 [.int x1, .int x2] [] M (fun r M1 => zQ 38 20 L (zpush r st) M1 Q) := zq_callS (n := 53) (j := 74) (b := false) (As := [.int x1, .int x2]) (by decide +kernel) (by decide +kernel) ⟨by decide +kernel, by decide +kernel, rfl, by decide +kernel, by decide +kernel, Nat.le_of_ble_eq_true rfl⟩ rfl
theorem q38_20 : zQ 38 20 L (.int x :: st) M Q ↔ (x = 0 → zQ 38 23 L st M Q) ∧ (¬ x = 0 → zQ 38 26 L st M Q) := zq_bn (i := .ifCond .ne 6) (off := 6) (by decide +kernel) rfl (by decide) rfl
theorem q38_23 : zQ 38 23 L st M Q ↔ zQ 38 25 L (.int (-2) :: st) M Q := zq_bip (n := (-2)) (by decide +kernel) (by decide +kernel) rfl
theorem q38_25 : zQ 38 25 L [.int x] M Q ↔ Q (zI x) M := zq_reI (by decide +kernel) (by decide +kernel)
theorem q38_26 : zQ 38 26 [.ref a, v1, v2, v3, v4, v5, v6, v7] st M Q ↔ zQ 38 27 [.ref a, v1, v2, v3, v4, v5, v6, v7] (.ref a :: st) M Q := zq_go (i := .aload_n 0) (by decide +kernel) rfl
theorem q38_27 : zQ 38 27 L (.ref a :: st) M Q ↔ (a < zNC ∧ zk a = 5) ∧ zQ 38 30 L (zfv a 5 M :: st) M Q := zq_getf (n := 44) (b := false) (by decide +kernel) (by decide +kernel)
theorem q38_30 : zQ 38 30 [v0, .int x, v2, v3, v4, v5, v6, v7] st M Q ↔ zQ 38 31 [v0, .int x, v2, v3, v4, v5, v6, v7] (.int x :: st) M Q := zq_go (i := .iload_n 1) (by decide +kernel) rfl
theorem q38_31 {z : Nat} (hz : z < 4) : zQ 38 31 L (.int (nI z) :: .ref 33 :: st) M Q ↔ zQ 38 32 L (.ref (34 + 2 * z) :: st) M Q := zq_aald hz (by decide +kernel)
theorem q38_32i : zQ 38 32 [v0, v1, v2, v3, .int y, v5, v6, v7] (.ref a :: st) M Q ↔ zQ 38 34 [v0, v1, v2, v3, .int y, .ref a, v6, v7] st M Q := zq_stA (i := .astore 5) (k := 5) (by decide +kernel) rfl (Nat.le_of_ble_eq_true rfl) rfl rfl
theorem q38_32r : zQ 38 32 [v0, v1, v2, v3, .ref r1, v5, v6, v7] (.ref a :: st) M Q ↔ zQ 38 34 [v0, v1, v2, v3, .ref r1, .ref a, v6, v7] st M Q := zq_stA (i := .astore 5) (k := 5) (by decide +kernel) rfl (Nat.le_of_ble_eq_true rfl) rfl rfl
theorem q38_32n : zQ 38 32 [v0, v1, v2, v3, .null, v5, v6, v7] (.ref a :: st) M Q ↔ zQ 38 34 [v0, v1, v2, v3, .null, .ref a, v6, v7] st M Q := zq_stA (i := .astore 5) (k := 5) (by decide +kernel) rfl (Nat.le_of_ble_eq_true rfl) rfl rfl
theorem q38_34 : zQ 38 34 [v0, v1, v2, v3, v4, .ref a, v6, v7] st M Q ↔ zQ 38 36 [v0, v1, v2, v3, v4, .ref a, v6, v7] (.ref a :: st) M Q := zq_go (i := .aload 5) (by decide +kernel) rfl
theorem q38_36 : zQ 38 36 [v0, v1, .int x, v3, v4, v5, v6, v7] st M Q ↔ zQ 38 37 [v0, v1, .int x, v3, v4, v5, v6, v7] (.int x :: st) M Q := zq_go (i := .iload_n 2) (by decide +kernel) rfl
theorem q38_37 : zQ 38 37 [v0, v1, v2, .int x, v4, v5, v6, v7] st M Q ↔ zQ 38 38 [v0, v1, v2, .int x, v4, v5, v6, v7] (.int x :: st) M Q := zq_go (i := .iload_n 3) (by decide +kernel) rfl
theorem q38_38 : zQ 38 38 [v0, v1, v2, v3, .int x, v5, v6, v7] st M Q ↔ zQ 38 40 [v0, v1, v2, v3, .int x, v5, v6, v7] (.int x :: st) M Q := zq_go (i := .iload 4) (by decide +kernel) rfl
theorem q38_40 : zQ 38 40 L (.int x3 :: .int x2 :: .int x1 :: .ref a :: st) M Q ↔ (zcs st ≤ 8 ∧ a < zNC ∧ zk a = 2) ∧ zQ 11 0 [.ref a, .int x1, .int x2, .int x3, .null] [] M (fun r M1 => zQ 38 43 L (zpush r st) M1 Q) := zq_callV (n := 57) (j := 11) (b := true) (As := [.int x1, .int x2, .int x3]) (by decide +kernel) (by decide +kernel) ⟨by decide +kernel, by decide +kernel, rfl, by decide +kernel, by decide +kernel, Nat.le_of_ble_eq_true rfl⟩ rfl
theorem q38_43i : zQ 38 43 [v0, v1, v2, v3, v4, .int y, v6, v7] (.int x :: st) M Q ↔ zQ 38 45 [v0, v1, v2, v3, v4, .int y, .int x, v7] st M Q := zq_stI (i := .istore 6) (k := 6) (by decide +kernel) rfl (Nat.le_of_ble_eq_true rfl) rfl rfl
theorem q38_43r : zQ 38 43 [v0, v1, v2, v3, v4, .ref r1, v6, v7] (.int x :: st) M Q ↔ zQ 38 45 [v0, v1, v2, v3, v4, .ref r1, .int x, v7] st M Q := zq_stI (i := .istore 6) (k := 6) (by decide +kernel) rfl (Nat.le_of_ble_eq_true rfl) rfl rfl
theorem q38_43n : zQ 38 43 [v0, v1, v2, v3, v4, .null, v6, v7] (.int x :: st) M Q ↔ zQ 38 45 [v0, v1, v2, v3, v4, .null, .int x, v7] st M Q := zq_stI (i := .istore 6) (k := 6) (by decide +kernel) rfl (Nat.le_of_ble_eq_true rfl) rfl rfl
theorem q38_45 : zQ 38 45 [v0, v1, v2, v3, v4, v5, .int x, v7] st M Q ↔ zQ 38 47 [v0, v1, v2, v3, v4, v5, .int x, v7] (.int x :: st) M Q := zq_go (i := .iload 6) (by decide +kernel) rfl
theorem q38_47 : zQ 38 47 L (.int x :: st) M Q ↔ (x = 0 → zQ 38 57 L st M Q) ∧ (¬ x = 0 → zQ 38 50 L st M Q) := zq_br (i := .ifCond .eq 10) (off := 10) (by decide +kernel) rfl (by decide) rfl
theorem q38_50 : zQ 38 50 [.ref a, v1, v2, v3, v4, v5, v6, v7] st M Q ↔ zQ 38 51 [.ref a, v1, v2, v3, v4, v5, v6, v7] (.ref a :: st) M Q := zq_go (i := .aload_n 0) (by decide +kernel) rfl
theorem q38_51 : zQ 38 51 [v0, v1, v2, v3, v4, v5, .int x, v7] st M Q ↔ zQ 38 53 [v0, v1, v2, v3, v4, v5, .int x, v7] (.int x :: st) M Q := zq_go (i := .iload 6) (by decide +kernel) rfl
theorem q38_53 : zQ 38 53 L (.int x1 :: .ref a :: st) M Q ↔ (zcs st ≤ 8 ∧ a < zNC ∧ zk a = 5) ∧ zQ 76 0 [.ref a, .int x1] [] M (fun r M1 => zQ 38 56 L (zpush r st) M1 Q) := zq_callV (n := 61) (j := 76) (b := false) (As := [.int x1]) (by decide +kernel) (by decide +kernel) ⟨by decide +kernel, by decide +kernel, rfl, by decide +kernel, by decide +kernel, Nat.le_of_ble_eq_true rfl⟩ rfl
theorem q38_56 : zQ 38 56 L [.int x] M Q ↔ Q (zI x) M := zq_reI (by decide +kernel) (by decide +kernel)
theorem q38_57 : zQ 38 57 [.ref a, v1, v2, v3, v4, v5, v6, v7] st M Q ↔ zQ 38 58 [.ref a, v1, v2, v3, v4, v5, v6, v7] (.ref a :: st) M Q := zq_go (i := .aload_n 0) (by decide +kernel) rfl
theorem q38_58 : zQ 38 58 L (.ref a :: st) M Q ↔ (a < zNC ∧ zk a = 5) ∧ zQ 38 61 L (zfv a 1 M :: st) M Q := zq_getf (n := 18) (b := false) (by decide +kernel) (by decide +kernel)
theorem q38_61 : zQ 38 61 [v0, v1, v2, v3, v4, .ref a, v6, v7] st M Q ↔ zQ 38 63 [v0, v1, v2, v3, v4, .ref a, v6, v7] (.ref a :: st) M Q := zq_go (i := .aload 5) (by decide +kernel) rfl
theorem q38_63 : zQ 38 63 [v0, v1, v2, .int x, v4, v5, v6, v7] st M Q ↔ zQ 38 64 [v0, v1, v2, .int x, v4, v5, v6, v7] (.int x :: st) M Q := zq_go (i := .iload_n 3) (by decide +kernel) rfl
theorem q38_64 : zQ 38 64 [v0, v1, v2, v3, .int x, v5, v6, v7] st M Q ↔ zQ 38 66 [v0, v1, v2, v3, .int x, v5, v6, v7] (.int x :: st) M Q := zq_go (i := .iload 4) (by decide +kernel) rfl
theorem q38_66 : zQ 38 66 L (.int x2 :: .int x1 :: .ref r1 :: .ref a :: st) M Q ↔ (zcs st ≤ 8 ∧ a < zNC ∧ zk a = 4) ∧ zQ 19 0 [.ref a, .ref r1, .int x1, .int x2, .null] [] M (fun r M1 => zQ 38 69 L (zpush r st) M1 Q) := zq_callV (n := 65) (j := 19) (b := true) (As := [.ref r1, .int x1, .int x2]) (by decide +kernel) (by decide +kernel) ⟨by decide +kernel, by decide +kernel, rfl, by decide +kernel, by decide +kernel, Nat.le_of_ble_eq_true rfl⟩ rfl
theorem q38_69i : zQ 38 69 [v0, v1, v2, v3, v4, v5, .int y, v7] (.int x :: st) M Q ↔ zQ 38 71 [v0, v1, v2, v3, v4, v5, .int y, .int x] st M Q := zq_stI (i := .istore 7) (k := 7) (by decide +kernel) rfl (Nat.le_of_ble_eq_true rfl) rfl rfl
theorem q38_69r : zQ 38 69 [v0, v1, v2, v3, v4, v5, .ref r1, v7] (.int x :: st) M Q ↔ zQ 38 71 [v0, v1, v2, v3, v4, v5, .ref r1, .int x] st M Q := zq_stI (i := .istore 7) (k := 7) (by decide +kernel) rfl (Nat.le_of_ble_eq_true rfl) rfl rfl
theorem q38_69n : zQ 38 69 [v0, v1, v2, v3, v4, v5, .null, v7] (.int x :: st) M Q ↔ zQ 38 71 [v0, v1, v2, v3, v4, v5, .null, .int x] st M Q := zq_stI (i := .istore 7) (k := 7) (by decide +kernel) rfl (Nat.le_of_ble_eq_true rfl) rfl rfl
theorem q38_71 : zQ 38 71 [v0, v1, v2, v3, v4, v5, v6, .int x] st M Q ↔ zQ 38 73 [v0, v1, v2, v3, v4, v5, v6, .int x] (.int x :: st) M Q := zq_go (i := .iload 7) (by decide +kernel) rfl
theorem q38_73 : zQ 38 73 L st M Q ↔ zQ 38 74 L (.int (-1) :: st) M Q := zq_con (n := (-1)) (by decide +kernel) (by decide +kernel) rfl
theorem q38_74 : zQ 38 74 L (.int y :: .int x :: st) M Q ↔ (x = y → zQ 38 83 L st M Q) ∧ (¬ x = y → zQ 38 77 L st M Q) := zq_br (i := .if_icmp .eq 9) (off := 9) (by decide +kernel) rfl (by decide) rfl
theorem q38_77 : zQ 38 77 L st M Q ↔ zQ 38 79 L (.int (-100) :: st) M Q := zq_bip (n := (-100)) (by decide +kernel) (by decide +kernel) rfl
theorem q38_79 : zQ 38 79 [v0, v1, v2, v3, v4, v5, v6, .int x] st M Q ↔ zQ 38 81 [v0, v1, v2, v3, v4, v5, v6, .int x] (.int x :: st) M Q := zq_go (i := .iload 7) (by decide +kernel) rfl
theorem q38_81 : zQ 38 81 L (.int y :: .int x :: st) M Q ↔ zQ 38 82 L (.int (x - y) :: st) M Q := zq_go (i := .isub) (by decide +kernel) rfl
theorem q38_82 : zQ 38 82 L [.int x] M Q ↔ Q (zI x) M := zq_reI (by decide +kernel) (by decide +kernel)
theorem q38_83 : zQ 38 83 [.ref a, v1, v2, v3, v4, v5, v6, v7] st M Q ↔ zQ 38 84 [.ref a, v1, v2, v3, v4, v5, v6, v7] (.ref a :: st) M Q := zq_go (i := .aload_n 0) (by decide +kernel) rfl
theorem q38_84 : zQ 38 84 L (.ref a :: st) M Q ↔ (a < zNC ∧ zk a = 5) ∧ zQ 38 87 L (zfv a 0 M :: st) M Q := zq_getf (n := 12) (b := false) (by decide +kernel) (by decide +kernel)
theorem q38_87 : zQ 38 87 [.ref a, v1, v2, v3, v4, v5, v6, v7] st M Q ↔ zQ 38 88 [.ref a, v1, v2, v3, v4, v5, v6, v7] (.ref a :: st) M Q := zq_go (i := .aload_n 0) (by decide +kernel) rfl
theorem q38_88 : zQ 38 88 L (.ref a :: st) M Q ↔ (a < zNC ∧ zk a = 5) ∧ zQ 38 91 L (zfv a 1 M :: st) M Q := zq_getf (n := 18) (b := false) (by decide +kernel) (by decide +kernel)
theorem q38_91 : zQ 38 91 L (.ref r1 :: .ref a :: st) M Q ↔ (zcs st ≤ 8 ∧ a < zNC ∧ zk a = 4) ∧ zQ 18 0 [.ref a, .ref r1, .null] [] M (fun r M1 => zQ 38 94 L (zpush r st) M1 Q) := zq_callV (n := 69) (j := 18) (b := true) (As := [.ref r1]) (by decide +kernel) (by decide +kernel) ⟨by decide +kernel, by decide +kernel, rfl, by decide +kernel, by decide +kernel, Nat.le_of_ble_eq_true rfl⟩ rfl
theorem q38_94 : zQ 38 94 [.ref a, v1, v2, v3, v4, v5, v6, v7] st M Q ↔ zQ 38 95 [.ref a, v1, v2, v3, v4, v5, v6, v7] (.ref a :: st) M Q := zq_go (i := .aload_n 0) (by decide +kernel) rfl
theorem q38_95 : zQ 38 95 L (.ref a :: st) M Q ↔ (a < zNC ∧ zk a = 5) ∧ zQ 38 98 L (zfv a 4 M :: st) M Q := zq_getf (n := 38) (b := false) (by decide +kernel) (by decide +kernel)
theorem q38_98 : zQ 38 98 L st M Q ↔ zQ 38 99 L (.int 0 :: st) M Q := zq_con (n := 0) (by decide +kernel) (by decide +kernel) rfl
theorem q38_99 : zQ 38 99 L (.int x :: .ref a :: st) M Q ↔ (a < zNC ∧ zk a = 0 ∧ zf a 3 = none) ∧ zQ 38 102 L st (zup M a 3 x) Q := zq_putf (n := 73) (b := true) (by decide +kernel) (by decide +kernel) (by decide +kernel)
theorem q38_102 : zQ 38 102 [.ref a, v1, v2, v3, v4, v5, v6, v7] st M Q ↔ zQ 38 103 [.ref a, v1, v2, v3, v4, v5, v6, v7] (.ref a :: st) M Q := zq_go (i := .aload_n 0) (by decide +kernel) rfl
theorem q38_103 : zQ 38 103 L (.ref a :: st) M Q ↔ (a < zNC ∧ zk a = 5) ∧ zQ 38 106 L (zfv a 0 M :: st) M Q := zq_getf (n := 12) (b := false) (by decide +kernel) (by decide +kernel)
theorem q38_106 : zQ 38 106 L (.ref a :: st) M Q ↔ (a < zNC ∧ zk a = 4) ∧ zQ 38 109 L (zfv a 7 M :: st) M Q := zq_getf (n := 76) (b := true) (by decide +kernel) (by decide +kernel)
theorem q38_109 : zQ 38 109 L [.int x] M Q ↔ Q (zI x) M := zq_reI (by decide +kernel) (by decide +kernel)
-- 39 SandKeepers.ofGlass(II)I
theorem q39_0 : zQ 39 0 [.ref a, v1, v2] st M Q ↔ zQ 39 1 [.ref a, v1, v2] (.ref a :: st) M Q := zq_go (i := .aload_n 0) (by decide +kernel) rfl
theorem q39_1 : zQ 39 1 L (.ref a :: st) M Q ↔ (a < zNC ∧ zk a = 5) ∧ zQ 39 4 L (zfv a 0 M :: st) M Q := zq_getf (n := 12) (b := false) (by decide +kernel) (by decide +kernel)
theorem q39_4 : zQ 39 4 [v0, .int x, v2] st M Q ↔ zQ 39 5 [v0, .int x, v2] (.int x :: st) M Q := zq_go (i := .iload_n 1) (by decide +kernel) rfl
theorem q39_5 : zQ 39 5 L (.int x1 :: .ref a :: st) M Q ↔ (zcs st ≤ 8 ∧ a < zNC ∧ zk a = 4) ∧ zQ 17 0 [.ref a, .int x1] [] M (fun r M1 => zQ 39 8 L (zpush r st) M1 Q) := zq_callV (n := 79) (j := 17) (b := true) (As := [.int x1]) (by decide +kernel) (by decide +kernel) ⟨by decide +kernel, by decide +kernel, rfl, by decide +kernel, by decide +kernel, Nat.le_of_ble_eq_true rfl⟩ rfl
theorem q39_8 : zQ 39 8 L (.int x :: st) M Q ↔ (x = 0 → zQ 39 11 L st M Q) ∧ (¬ x = 0 → zQ 39 13 L st M Q) := zq_bn (i := .ifCond .ne 5) (off := 5) (by decide +kernel) rfl (by decide) rfl
theorem q39_11 : zQ 39 11 L st M Q ↔ zQ 39 12 L (.int (-1) :: st) M Q := zq_con (n := (-1)) (by decide +kernel) (by decide +kernel) rfl
theorem q39_12 : zQ 39 12 L [.int x] M Q ↔ Q (zI x) M := zq_reI (by decide +kernel) (by decide +kernel)
theorem q39_13 : zQ 39 13 [v0, v1, .int x] st M Q ↔ zQ 39 14 [v0, v1, .int x] (.int x :: st) M Q := zq_go (i := .iload_n 2) (by decide +kernel) rfl
theorem q39_14 : zQ 39 14 L (.int x :: st) M Q ↔ zQ 39 (ztgt 14 (ztabo 142 0 7 #[46, 56, 66, 76, 86, 96, 114, 132] x.toInt)) L st M Q := zq_tab (by decide +kernel) (by decide) (by decide)
theorem q39_60 : zQ 39 60 [.ref a, v1, v2] st M Q ↔ zQ 39 61 [.ref a, v1, v2] (.ref a :: st) M Q := zq_go (i := .aload_n 0) (by decide +kernel) rfl
theorem q39_61 : zQ 39 61 L (.ref a :: st) M Q ↔ (a < zNC ∧ zk a = 5) ∧ zQ 39 64 L (zfv a 0 M :: st) M Q := zq_getf (n := 12) (b := false) (by decide +kernel) (by decide +kernel)
theorem q39_64 : zQ 39 64 L (.ref a :: st) M Q ↔ (a < zNC ∧ zk a = 4) ∧ zQ 39 67 L (zfv a 0 M :: st) M Q := zq_getf (n := 83) (b := true) (by decide +kernel) (by decide +kernel)
theorem q39_67 : zQ 39 67 [v0, .int x, v2] st M Q ↔ zQ 39 68 [v0, .int x, v2] (.int x :: st) M Q := zq_go (i := .iload_n 1) (by decide +kernel) rfl
theorem q39_68 : zQ 39 68 L (.int x :: .ref a :: st) M Q ↔ (a < zNC ∧ zk a = 7 ∧ zin x (zn a) = true) ∧ zQ 39 69 L (.int (M a x.toNatClampNeg) :: st) M Q := zq_iald (by decide +kernel)
theorem q39_69 : zQ 39 69 L [.int x] M Q ↔ Q (zI x) M := zq_reI (by decide +kernel) (by decide +kernel)
theorem q39_70 : zQ 39 70 [.ref a, v1, v2] st M Q ↔ zQ 39 71 [.ref a, v1, v2] (.ref a :: st) M Q := zq_go (i := .aload_n 0) (by decide +kernel) rfl
theorem q39_71 : zQ 39 71 L (.ref a :: st) M Q ↔ (a < zNC ∧ zk a = 5) ∧ zQ 39 74 L (zfv a 0 M :: st) M Q := zq_getf (n := 12) (b := false) (by decide +kernel) (by decide +kernel)
theorem q39_74 : zQ 39 74 L (.ref a :: st) M Q ↔ (a < zNC ∧ zk a = 4) ∧ zQ 39 77 L (zfv a 1 M :: st) M Q := zq_getf (n := 87) (b := true) (by decide +kernel) (by decide +kernel)
theorem q39_77 : zQ 39 77 [v0, .int x, v2] st M Q ↔ zQ 39 78 [v0, .int x, v2] (.int x :: st) M Q := zq_go (i := .iload_n 1) (by decide +kernel) rfl
theorem q39_78 : zQ 39 78 L (.int x :: .ref a :: st) M Q ↔ (a < zNC ∧ zk a = 7 ∧ zin x (zn a) = true) ∧ zQ 39 79 L (.int (M a x.toNatClampNeg) :: st) M Q := zq_iald (by decide +kernel)
theorem q39_79 : zQ 39 79 L [.int x] M Q ↔ Q (zI x) M := zq_reI (by decide +kernel) (by decide +kernel)
theorem q39_80 : zQ 39 80 [.ref a, v1, v2] st M Q ↔ zQ 39 81 [.ref a, v1, v2] (.ref a :: st) M Q := zq_go (i := .aload_n 0) (by decide +kernel) rfl
theorem q39_81 : zQ 39 81 L (.ref a :: st) M Q ↔ (a < zNC ∧ zk a = 5) ∧ zQ 39 84 L (zfv a 0 M :: st) M Q := zq_getf (n := 12) (b := false) (by decide +kernel) (by decide +kernel)
theorem q39_84 : zQ 39 84 L (.ref a :: st) M Q ↔ (a < zNC ∧ zk a = 4) ∧ zQ 39 87 L (zfv a 3 M :: st) M Q := zq_getf (n := 90) (b := true) (by decide +kernel) (by decide +kernel)
theorem q39_87 : zQ 39 87 [v0, .int x, v2] st M Q ↔ zQ 39 88 [v0, .int x, v2] (.int x :: st) M Q := zq_go (i := .iload_n 1) (by decide +kernel) rfl
theorem q39_88 : zQ 39 88 L (.int x :: .ref a :: st) M Q ↔ (a < zNC ∧ zk a = 7 ∧ zin x (zn a) = true) ∧ zQ 39 89 L (.int (M a x.toNatClampNeg) :: st) M Q := zq_iald (by decide +kernel)
theorem q39_89 : zQ 39 89 L [.int x] M Q ↔ Q (zI x) M := zq_reI (by decide +kernel) (by decide +kernel)
theorem q39_90 : zQ 39 90 [.ref a, v1, v2] st M Q ↔ zQ 39 91 [.ref a, v1, v2] (.ref a :: st) M Q := zq_go (i := .aload_n 0) (by decide +kernel) rfl
theorem q39_91 : zQ 39 91 L (.ref a :: st) M Q ↔ (a < zNC ∧ zk a = 5) ∧ zQ 39 94 L (zfv a 0 M :: st) M Q := zq_getf (n := 12) (b := false) (by decide +kernel) (by decide +kernel)
theorem q39_94 : zQ 39 94 L (.ref a :: st) M Q ↔ (a < zNC ∧ zk a = 4) ∧ zQ 39 97 L (zfv a 4 M :: st) M Q := zq_getf (n := 93) (b := true) (by decide +kernel) (by decide +kernel)
theorem q39_97 : zQ 39 97 [v0, .int x, v2] st M Q ↔ zQ 39 98 [v0, .int x, v2] (.int x :: st) M Q := zq_go (i := .iload_n 1) (by decide +kernel) rfl
theorem q39_98 : zQ 39 98 L (.int x :: .ref a :: st) M Q ↔ (a < zNC ∧ zk a = 7 ∧ zin x (zn a) = true) ∧ zQ 39 99 L (.int (M a x.toNatClampNeg) :: st) M Q := zq_iald (by decide +kernel)
theorem q39_99 : zQ 39 99 L [.int x] M Q ↔ Q (zI x) M := zq_reI (by decide +kernel) (by decide +kernel)
theorem q39_100 : zQ 39 100 [.ref a, v1, v2] st M Q ↔ zQ 39 101 [.ref a, v1, v2] (.ref a :: st) M Q := zq_go (i := .aload_n 0) (by decide +kernel) rfl
theorem q39_101 : zQ 39 101 L (.ref a :: st) M Q ↔ (a < zNC ∧ zk a = 5) ∧ zQ 39 104 L (zfv a 0 M :: st) M Q := zq_getf (n := 12) (b := false) (by decide +kernel) (by decide +kernel)
theorem q39_104 : zQ 39 104 L (.ref a :: st) M Q ↔ (a < zNC ∧ zk a = 4) ∧ zQ 39 107 L (zfv a 5 M :: st) M Q := zq_getf (n := 96) (b := true) (by decide +kernel) (by decide +kernel)
theorem q39_107 : zQ 39 107 [v0, .int x, v2] st M Q ↔ zQ 39 108 [v0, .int x, v2] (.int x :: st) M Q := zq_go (i := .iload_n 1) (by decide +kernel) rfl
theorem q39_108 : zQ 39 108 L (.int x :: .ref a :: st) M Q ↔ (a < zNC ∧ zk a = 7 ∧ zin x (zn a) = true) ∧ zQ 39 109 L (.int (M a x.toNatClampNeg) :: st) M Q := zq_iald (by decide +kernel)
theorem q39_109 : zQ 39 109 L [.int x] M Q ↔ Q (zI x) M := zq_reI (by decide +kernel) (by decide +kernel)
theorem q39_110 : zQ 39 110 [.ref a, v1, v2] st M Q ↔ zQ 39 111 [.ref a, v1, v2] (.ref a :: st) M Q := zq_go (i := .aload_n 0) (by decide +kernel) rfl
theorem q39_111 : zQ 39 111 L (.ref a :: st) M Q ↔ (a < zNC ∧ zk a = 5) ∧ zQ 39 114 L (zfv a 0 M :: st) M Q := zq_getf (n := 12) (b := false) (by decide +kernel) (by decide +kernel)
theorem q39_114 : zQ 39 114 [v0, .int x, v2] st M Q ↔ zQ 39 115 [v0, .int x, v2] (.int x :: st) M Q := zq_go (i := .iload_n 1) (by decide +kernel) rfl
theorem q39_115 : zQ 39 115 [.ref a, v1, v2] st M Q ↔ zQ 39 116 [.ref a, v1, v2] (.ref a :: st) M Q := zq_go (i := .aload_n 0) (by decide +kernel) rfl
theorem q39_116 : zQ 39 116 L (.ref a :: st) M Q ↔ (a < zNC ∧ zk a = 5) ∧ zQ 39 119 L (zfv a 0 M :: st) M Q := zq_getf (n := 12) (b := false) (by decide +kernel) (by decide +kernel)
theorem q39_119 : zQ 39 119 L (.ref a :: st) M Q ↔ (a < zNC ∧ zk a = 4) ∧ zQ 39 122 L (zfv a 5 M :: st) M Q := zq_getf (n := 96) (b := true) (by decide +kernel) (by decide +kernel)
theorem q39_122 : zQ 39 122 [v0, .int x, v2] st M Q ↔ zQ 39 123 [v0, .int x, v2] (.int x :: st) M Q := zq_go (i := .iload_n 1) (by decide +kernel) rfl
theorem q39_123 : zQ 39 123 L (.int x :: .ref a :: st) M Q ↔ (a < zNC ∧ zk a = 7 ∧ zin x (zn a) = true) ∧ zQ 39 124 L (.int (M a x.toNatClampNeg) :: st) M Q := zq_iald (by decide +kernel)
theorem q39_124 : zQ 39 124 L (.int x2 :: .int x1 :: .ref a :: st) M Q ↔ (zcs st ≤ 8 ∧ a < zNC ∧ zk a = 4) ∧ zQ 24 0 [.ref a, .int x1, .int x2, .null] [] M (fun r M1 => zQ 39 127 L (zpush r st) M1 Q) := zq_callV (n := 99) (j := 24) (b := true) (As := [.int x1, .int x2]) (by decide +kernel) (by decide +kernel) ⟨by decide +kernel, by decide +kernel, rfl, by decide +kernel, by decide +kernel, Nat.le_of_ble_eq_true rfl⟩ rfl
theorem q39_127 : zQ 39 127 L [.int x] M Q ↔ Q (zI x) M := zq_reI (by decide +kernel) (by decide +kernel)
theorem q39_128 : zQ 39 128 [.ref a, v1, v2] st M Q ↔ zQ 39 129 [.ref a, v1, v2] (.ref a :: st) M Q := zq_go (i := .aload_n 0) (by decide +kernel) rfl
theorem q39_129 : zQ 39 129 L (.ref a :: st) M Q ↔ (a < zNC ∧ zk a = 5) ∧ zQ 39 132 L (zfv a 0 M :: st) M Q := zq_getf (n := 12) (b := false) (by decide +kernel) (by decide +kernel)
theorem q39_132 : zQ 39 132 L (.ref a :: st) M Q ↔ (a < zNC ∧ zk a = 4) ∧ zQ 39 135 L (zfv a 6 M :: st) M Q := zq_getf (n := 103) (b := true) (by decide +kernel) (by decide +kernel)
theorem q39_135 : zQ 39 135 [v0, .int x, v2] st M Q ↔ zQ 39 136 [v0, .int x, v2] (.int x :: st) M Q := zq_go (i := .iload_n 1) (by decide +kernel) rfl
theorem q39_136 : zQ 39 136 L (.int x :: .ref a :: st) M Q ↔ (a < zNC ∧ zk a = 8 ∧ zin x (zn a) = true) ∧ zQ 39 137 L (.int (M a x.toNatClampNeg) :: st) M Q := zq_bald (by decide +kernel)
theorem q39_137 : zQ 39 137 L (.int x :: st) M Q ↔ (x = 0 → zQ 39 144 L st M Q) ∧ (¬ x = 0 → zQ 39 140 L st M Q) := zq_br (i := .ifCond .eq 7) (off := 7) (by decide +kernel) rfl (by decide) rfl
theorem q39_140 : zQ 39 140 L st M Q ↔ zQ 39 141 L (.int 1 :: st) M Q := zq_con (n := 1) (by decide +kernel) (by decide +kernel) rfl
theorem q39_141 : zQ 39 141 L st M Q ↔ zQ 39 145 L st M Q := zq_jmp (off := 4) (by decide +kernel) (by decide)
theorem q39_144 : zQ 39 144 L st M Q ↔ zQ 39 145 L (.int 0 :: st) M Q := zq_con (n := 0) (by decide +kernel) (by decide +kernel) rfl
theorem q39_145 : zQ 39 145 L [.int x] M Q ↔ Q (zI x) M := zq_reI (by decide +kernel) (by decide +kernel)
theorem q39_146 : zQ 39 146 [.ref a, v1, v2] st M Q ↔ zQ 39 147 [.ref a, v1, v2] (.ref a :: st) M Q := zq_go (i := .aload_n 0) (by decide +kernel) rfl
theorem q39_147 : zQ 39 147 L (.ref a :: st) M Q ↔ (a < zNC ∧ zk a = 5) ∧ zQ 39 150 L (zfv a 0 M :: st) M Q := zq_getf (n := 12) (b := false) (by decide +kernel) (by decide +kernel)
theorem q39_150 : zQ 39 150 L (.ref a :: st) M Q ↔ (a < zNC ∧ zk a = 4) ∧ zQ 39 153 L (zfv a 2 M :: st) M Q := zq_getf (n := 107) (b := true) (by decide +kernel) (by decide +kernel)
theorem q39_153 : zQ 39 153 [v0, .int x, v2] st M Q ↔ zQ 39 154 [v0, .int x, v2] (.int x :: st) M Q := zq_go (i := .iload_n 1) (by decide +kernel) rfl
theorem q39_154 : zQ 39 154 L (.int x :: .ref a :: st) M Q ↔ (a < zNC ∧ zk a = 7 ∧ zin x (zn a) = true) ∧ zQ 39 155 L (.int (M a x.toNatClampNeg) :: st) M Q := zq_iald (by decide +kernel)
theorem q39_155 : zQ 39 155 L [.int x] M Q ↔ Q (zI x) M := zq_reI (by decide +kernel) (by decide +kernel)
theorem q39_156 : zQ 39 156 L st M Q ↔ zQ 39 158 L (.int (-2) :: st) M Q := zq_bip (n := (-2)) (by decide +kernel) (by decide +kernel) rfl
theorem q39_158 : zQ 39 158 L [.int x] M Q ↔ Q (zI x) M := zq_reI (by decide +kernel) (by decide +kernel)
-- 40 SandKeepers.keeps(I)I
theorem q40_0 : zQ 40 0 [.ref a, v1] st M Q ↔ zQ 40 1 [.ref a, v1] (.ref a :: st) M Q := zq_go (i := .aload_n 0) (by decide +kernel) rfl
theorem q40_1 : zQ 40 1 L (.ref a :: st) M Q ↔ (a < zNC ∧ zk a = 5) ∧ zQ 40 4 L (zfv a 0 M :: st) M Q := zq_getf (n := 12) (b := false) (by decide +kernel) (by decide +kernel)
theorem q40_4 : zQ 40 4 [v0, .int x] st M Q ↔ zQ 40 5 [v0, .int x] (.int x :: st) M Q := zq_go (i := .iload_n 1) (by decide +kernel) rfl
theorem q40_5 : zQ 40 5 L (.int x1 :: .ref a :: st) M Q ↔ (zcs st ≤ 8 ∧ a < zNC ∧ zk a = 4) ∧ zQ 17 0 [.ref a, .int x1] [] M (fun r M1 => zQ 40 8 L (zpush r st) M1 Q) := zq_callV (n := 79) (j := 17) (b := true) (As := [.int x1]) (by decide +kernel) (by decide +kernel) ⟨by decide +kernel, by decide +kernel, rfl, by decide +kernel, by decide +kernel, Nat.le_of_ble_eq_true rfl⟩ rfl
theorem q40_8 : zQ 40 8 L (.int x :: st) M Q ↔ (x = 0 → zQ 40 22 L st M Q) ∧ (¬ x = 0 → zQ 40 11 L st M Q) := zq_br (i := .ifCond .eq 14) (off := 14) (by decide +kernel) rfl (by decide) rfl
theorem q40_11 : zQ 40 11 [.ref a, v1] st M Q ↔ zQ 40 12 [.ref a, v1] (.ref a :: st) M Q := zq_go (i := .aload_n 0) (by decide +kernel) rfl
theorem q40_12 : zQ 40 12 L (.ref a :: st) M Q ↔ (a < zNC ∧ zk a = 5) ∧ zQ 40 15 L (zfv a 0 M :: st) M Q := zq_getf (n := 12) (b := false) (by decide +kernel) (by decide +kernel)
theorem q40_15 : zQ 40 15 [v0, .int x] st M Q ↔ zQ 40 16 [v0, .int x] (.int x :: st) M Q := zq_go (i := .iload_n 1) (by decide +kernel) rfl
theorem q40_16 : zQ 40 16 L (.int x1 :: .ref a :: st) M Q ↔ (zcs st ≤ 8 ∧ a < zNC ∧ zk a = 4) ∧ zQ 29 0 [.ref a, .int x1, .null, .null] [] M (fun r M1 => zQ 40 19 L (zpush r st) M1 Q) := zq_callV (n := 110) (j := 29) (b := true) (As := [.int x1]) (by decide +kernel) (by decide +kernel) ⟨by decide +kernel, by decide +kernel, rfl, by decide +kernel, by decide +kernel, Nat.le_of_ble_eq_true rfl⟩ rfl
theorem q40_19 : zQ 40 19 L st M Q ↔ zQ 40 23 L st M Q := zq_jmp (off := 4) (by decide +kernel) (by decide)
theorem q40_22 : zQ 40 22 L st M Q ↔ zQ 40 23 L (.int (-1) :: st) M Q := zq_con (n := (-1)) (by decide +kernel) (by decide +kernel) rfl
theorem q40_23 : zQ 40 23 L [.int x] M Q ↔ Q (zI x) M := zq_reI (by decide +kernel) (by decide +kernel)
-- 41 SandKeepers.chafe(II)I
theorem q41_0 : zQ 41 0 [.ref a, v1, v2, v3] st M Q ↔ zQ 41 1 [.ref a, v1, v2, v3] (.ref a :: st) M Q := zq_go (i := .aload_n 0) (by decide +kernel) rfl
theorem q41_1 : zQ 41 1 L (.ref a :: st) M Q ↔ (a < zNC ∧ zk a = 5) ∧ zQ 41 4 L (zfv a 0 M :: st) M Q := zq_getf (n := 12) (b := false) (by decide +kernel) (by decide +kernel)
theorem q41_4 : zQ 41 4 [v0, .int x, v2, v3] st M Q ↔ zQ 41 5 [v0, .int x, v2, v3] (.int x :: st) M Q := zq_go (i := .iload_n 1) (by decide +kernel) rfl
theorem q41_5 : zQ 41 5 L (.int x1 :: .ref a :: st) M Q ↔ (zcs st ≤ 8 ∧ a < zNC ∧ zk a = 4) ∧ zQ 17 0 [.ref a, .int x1] [] M (fun r M1 => zQ 41 8 L (zpush r st) M1 Q) := zq_callV (n := 79) (j := 17) (b := true) (As := [.int x1]) (by decide +kernel) (by decide +kernel) ⟨by decide +kernel, by decide +kernel, rfl, by decide +kernel, by decide +kernel, Nat.le_of_ble_eq_true rfl⟩ rfl
theorem q41_8 : zQ 41 8 L (.int x :: st) M Q ↔ (x = 0 → zQ 41 11 L st M Q) ∧ (¬ x = 0 → zQ 41 13 L st M Q) := zq_bn (i := .ifCond .ne 5) (off := 5) (by decide +kernel) rfl (by decide) rfl
theorem q41_11 : zQ 41 11 L st M Q ↔ zQ 41 12 L (.int (-1) :: st) M Q := zq_con (n := (-1)) (by decide +kernel) (by decide +kernel) rfl
theorem q41_12 : zQ 41 12 L [.int x] M Q ↔ Q (zI x) M := zq_reI (by decide +kernel) (by decide +kernel)
theorem q41_13 : zQ 41 13 [v0, v1, .int x, v3] st M Q ↔ zQ 41 14 [v0, v1, .int x, v3] (.int x :: st) M Q := zq_go (i := .iload_n 2) (by decide +kernel) rfl
theorem q41_14 : zQ 41 14 L st M Q ↔ zQ 41 16 L (.int 10 :: st) M Q := zq_bip (n := 10) (by decide +kernel) (by decide +kernel) rfl
theorem q41_16 : zQ 41 16 L (.int x2 :: .int x1 :: st) M Q ↔ zcs st ≤ 8 ∧ zQ 74 0 [.int x1, .int x2] [] M (fun r M1 => zQ 41 19 L (zpush r st) M1 Q) := zq_callS (n := 53) (j := 74) (b := false) (As := [.int x1, .int x2]) (by decide +kernel) (by decide +kernel) ⟨by decide +kernel, by decide +kernel, rfl, by decide +kernel, by decide +kernel, Nat.le_of_ble_eq_true rfl⟩ rfl
theorem q41_19 : zQ 41 19 L (.int x :: st) M Q ↔ (x = 0 → zQ 41 22 L st M Q) ∧ (¬ x = 0 → zQ 41 25 L st M Q) := zq_bn (i := .ifCond .ne 6) (off := 6) (by decide +kernel) rfl (by decide) rfl
theorem q41_22 : zQ 41 22 L st M Q ↔ zQ 41 24 L (.int (-2) :: st) M Q := zq_bip (n := (-2)) (by decide +kernel) (by decide +kernel) rfl
theorem q41_24 : zQ 41 24 L [.int x] M Q ↔ Q (zI x) M := zq_reI (by decide +kernel) (by decide +kernel)
theorem q41_25 : zQ 41 25 [.ref a, v1, v2, v3] st M Q ↔ zQ 41 26 [.ref a, v1, v2, v3] (.ref a :: st) M Q := zq_go (i := .aload_n 0) (by decide +kernel) rfl
theorem q41_26 : zQ 41 26 L (.ref a :: st) M Q ↔ (a < zNC ∧ zk a = 5) ∧ zQ 41 29 L (zfv a 0 M :: st) M Q := zq_getf (n := 12) (b := false) (by decide +kernel) (by decide +kernel)
theorem q41_29 : zQ 41 29 L (.ref a :: st) M Q ↔ (a < zNC ∧ zk a = 4) ∧ zQ 41 32 L (zfv a 3 M :: st) M Q := zq_getf (n := 90) (b := true) (by decide +kernel) (by decide +kernel)
theorem q41_32 : zQ 41 32 [v0, .int x, v2, v3] st M Q ↔ zQ 41 33 [v0, .int x, v2, v3] (.int x :: st) M Q := zq_go (i := .iload_n 1) (by decide +kernel) rfl
theorem q41_33 : zQ 41 33 L (.int x :: .ref a :: st) M Q ↔ (a < zNC ∧ zk a = 7 ∧ zin x (zn a) = true) ∧ zQ 41 34 L (.int (M a x.toNatClampNeg) :: st) M Q := zq_iald (by decide +kernel)
theorem q41_34i : zQ 41 34 [v0, v1, .int y, v3] (.int x :: st) M Q ↔ zQ 41 35 [v0, v1, .int y, .int x] st M Q := zq_stI (i := .istore_n 3) (k := 3) (by decide +kernel) rfl (Nat.le_of_ble_eq_true rfl) rfl rfl
theorem q41_34r : zQ 41 34 [v0, v1, .ref r1, v3] (.int x :: st) M Q ↔ zQ 41 35 [v0, v1, .ref r1, .int x] st M Q := zq_stI (i := .istore_n 3) (k := 3) (by decide +kernel) rfl (Nat.le_of_ble_eq_true rfl) rfl rfl
theorem q41_34n : zQ 41 34 [v0, v1, .null, v3] (.int x :: st) M Q ↔ zQ 41 35 [v0, v1, .null, .int x] st M Q := zq_stI (i := .istore_n 3) (k := 3) (by decide +kernel) rfl (Nat.le_of_ble_eq_true rfl) rfl rfl
theorem q41_35 : zQ 41 35 [.ref a, v1, v2, v3] st M Q ↔ zQ 41 36 [.ref a, v1, v2, v3] (.ref a :: st) M Q := zq_go (i := .aload_n 0) (by decide +kernel) rfl
theorem q41_36 : zQ 41 36 L (.ref a :: st) M Q ↔ (a < zNC ∧ zk a = 5) ∧ zQ 41 39 L (zfv a 0 M :: st) M Q := zq_getf (n := 12) (b := false) (by decide +kernel) (by decide +kernel)
theorem q41_39 : zQ 41 39 L (.ref a :: st) M Q ↔ (a < zNC ∧ zk a = 4) ∧ zQ 41 42 L (zfv a 3 M :: st) M Q := zq_getf (n := 90) (b := true) (by decide +kernel) (by decide +kernel)
theorem q41_42 : zQ 41 42 [v0, .int x, v2, v3] st M Q ↔ zQ 41 43 [v0, .int x, v2, v3] (.int x :: st) M Q := zq_go (i := .iload_n 1) (by decide +kernel) rfl
theorem q41_43 : zQ 41 43 [v0, v1, .int x, v3] st M Q ↔ zQ 41 44 [v0, v1, .int x, v3] (.int x :: st) M Q := zq_go (i := .iload_n 2) (by decide +kernel) rfl
theorem q41_44 : zQ 41 44 L (.int x :: .int y :: .ref a :: st) M Q ↔ (a < zNC ∧ zk a = 7 ∧ zin y (zn a) = true) ∧ zQ 41 45 L st (zup M a y.toNatClampNeg x) Q := zq_iast (by decide +kernel)
theorem q41_45 : zQ 41 45 [v0, v1, v2, .int x] st M Q ↔ zQ 41 46 [v0, v1, v2, .int x] (.int x :: st) M Q := zq_go (i := .iload_n 3) (by decide +kernel) rfl
theorem q41_46 : zQ 41 46 L [.int x] M Q ↔ Q (zI x) M := zq_reI (by decide +kernel) (by decide +kernel)
-- 42 SandKeepers.warm(II)I
theorem q42_0 : zQ 42 0 [.ref a, v1, v2, v3] st M Q ↔ zQ 42 1 [.ref a, v1, v2, v3] (.ref a :: st) M Q := zq_go (i := .aload_n 0) (by decide +kernel) rfl
theorem q42_1 : zQ 42 1 L (.ref a :: st) M Q ↔ (a < zNC ∧ zk a = 5) ∧ zQ 42 4 L (zfv a 0 M :: st) M Q := zq_getf (n := 12) (b := false) (by decide +kernel) (by decide +kernel)
theorem q42_4 : zQ 42 4 [v0, .int x, v2, v3] st M Q ↔ zQ 42 5 [v0, .int x, v2, v3] (.int x :: st) M Q := zq_go (i := .iload_n 1) (by decide +kernel) rfl
theorem q42_5 : zQ 42 5 L (.int x1 :: .ref a :: st) M Q ↔ (zcs st ≤ 8 ∧ a < zNC ∧ zk a = 4) ∧ zQ 17 0 [.ref a, .int x1] [] M (fun r M1 => zQ 42 8 L (zpush r st) M1 Q) := zq_callV (n := 79) (j := 17) (b := true) (As := [.int x1]) (by decide +kernel) (by decide +kernel) ⟨by decide +kernel, by decide +kernel, rfl, by decide +kernel, by decide +kernel, Nat.le_of_ble_eq_true rfl⟩ rfl
theorem q42_8 : zQ 42 8 L (.int x :: st) M Q ↔ (x = 0 → zQ 42 11 L st M Q) ∧ (¬ x = 0 → zQ 42 13 L st M Q) := zq_bn (i := .ifCond .ne 5) (off := 5) (by decide +kernel) rfl (by decide) rfl
theorem q42_11 : zQ 42 11 L st M Q ↔ zQ 42 12 L (.int (-1) :: st) M Q := zq_con (n := (-1)) (by decide +kernel) (by decide +kernel) rfl
theorem q42_12 : zQ 42 12 L [.int x] M Q ↔ Q (zI x) M := zq_reI (by decide +kernel) (by decide +kernel)
theorem q42_13 : zQ 42 13 [v0, v1, .int x, v3] st M Q ↔ zQ 42 14 [v0, v1, .int x, v3] (.int x :: st) M Q := zq_go (i := .iload_n 2) (by decide +kernel) rfl
theorem q42_14 : zQ 42 14 L st M Q ↔ zQ 42 15 L (.int 4 :: st) M Q := zq_con (n := 4) (by decide +kernel) (by decide +kernel) rfl
theorem q42_15 : zQ 42 15 L (.int x2 :: .int x1 :: st) M Q ↔ zcs st ≤ 8 ∧ zQ 74 0 [.int x1, .int x2] [] M (fun r M1 => zQ 42 18 L (zpush r st) M1 Q) := zq_callS (n := 53) (j := 74) (b := false) (As := [.int x1, .int x2]) (by decide +kernel) (by decide +kernel) ⟨by decide +kernel, by decide +kernel, rfl, by decide +kernel, by decide +kernel, Nat.le_of_ble_eq_true rfl⟩ rfl
theorem q42_18 : zQ 42 18 L (.int x :: st) M Q ↔ (x = 0 → zQ 42 21 L st M Q) ∧ (¬ x = 0 → zQ 42 24 L st M Q) := zq_bn (i := .ifCond .ne 6) (off := 6) (by decide +kernel) rfl (by decide) rfl
theorem q42_21 : zQ 42 21 L st M Q ↔ zQ 42 23 L (.int (-2) :: st) M Q := zq_bip (n := (-2)) (by decide +kernel) (by decide +kernel) rfl
theorem q42_23 : zQ 42 23 L [.int x] M Q ↔ Q (zI x) M := zq_reI (by decide +kernel) (by decide +kernel)
theorem q42_24 : zQ 42 24 [.ref a, v1, v2, v3] st M Q ↔ zQ 42 25 [.ref a, v1, v2, v3] (.ref a :: st) M Q := zq_go (i := .aload_n 0) (by decide +kernel) rfl
theorem q42_25 : zQ 42 25 L (.ref a :: st) M Q ↔ (a < zNC ∧ zk a = 5) ∧ zQ 42 28 L (zfv a 0 M :: st) M Q := zq_getf (n := 12) (b := false) (by decide +kernel) (by decide +kernel)
theorem q42_28 : zQ 42 28 L (.ref a :: st) M Q ↔ (a < zNC ∧ zk a = 4) ∧ zQ 42 31 L (zfv a 4 M :: st) M Q := zq_getf (n := 93) (b := true) (by decide +kernel) (by decide +kernel)
theorem q42_31 : zQ 42 31 [v0, .int x, v2, v3] st M Q ↔ zQ 42 32 [v0, .int x, v2, v3] (.int x :: st) M Q := zq_go (i := .iload_n 1) (by decide +kernel) rfl
theorem q42_32 : zQ 42 32 L (.int x :: .ref a :: st) M Q ↔ (a < zNC ∧ zk a = 7 ∧ zin x (zn a) = true) ∧ zQ 42 33 L (.int (M a x.toNatClampNeg) :: st) M Q := zq_iald (by decide +kernel)
theorem q42_33i : zQ 42 33 [v0, v1, .int y, v3] (.int x :: st) M Q ↔ zQ 42 34 [v0, v1, .int y, .int x] st M Q := zq_stI (i := .istore_n 3) (k := 3) (by decide +kernel) rfl (Nat.le_of_ble_eq_true rfl) rfl rfl
theorem q42_33r : zQ 42 33 [v0, v1, .ref r1, v3] (.int x :: st) M Q ↔ zQ 42 34 [v0, v1, .ref r1, .int x] st M Q := zq_stI (i := .istore_n 3) (k := 3) (by decide +kernel) rfl (Nat.le_of_ble_eq_true rfl) rfl rfl
theorem q42_33n : zQ 42 33 [v0, v1, .null, v3] (.int x :: st) M Q ↔ zQ 42 34 [v0, v1, .null, .int x] st M Q := zq_stI (i := .istore_n 3) (k := 3) (by decide +kernel) rfl (Nat.le_of_ble_eq_true rfl) rfl rfl
theorem q42_34 : zQ 42 34 [.ref a, v1, v2, v3] st M Q ↔ zQ 42 35 [.ref a, v1, v2, v3] (.ref a :: st) M Q := zq_go (i := .aload_n 0) (by decide +kernel) rfl
theorem q42_35 : zQ 42 35 L (.ref a :: st) M Q ↔ (a < zNC ∧ zk a = 5) ∧ zQ 42 38 L (zfv a 0 M :: st) M Q := zq_getf (n := 12) (b := false) (by decide +kernel) (by decide +kernel)
theorem q42_38 : zQ 42 38 L (.ref a :: st) M Q ↔ (a < zNC ∧ zk a = 4) ∧ zQ 42 41 L (zfv a 4 M :: st) M Q := zq_getf (n := 93) (b := true) (by decide +kernel) (by decide +kernel)
theorem q42_41 : zQ 42 41 [v0, .int x, v2, v3] st M Q ↔ zQ 42 42 [v0, .int x, v2, v3] (.int x :: st) M Q := zq_go (i := .iload_n 1) (by decide +kernel) rfl
theorem q42_42 : zQ 42 42 [v0, v1, .int x, v3] st M Q ↔ zQ 42 43 [v0, v1, .int x, v3] (.int x :: st) M Q := zq_go (i := .iload_n 2) (by decide +kernel) rfl
theorem q42_43 : zQ 42 43 L (.int x :: .int y :: .ref a :: st) M Q ↔ (a < zNC ∧ zk a = 7 ∧ zin y (zn a) = true) ∧ zQ 42 44 L st (zup M a y.toNatClampNeg x) Q := zq_iast (by decide +kernel)
theorem q42_44 : zQ 42 44 [v0, v1, v2, .int x] st M Q ↔ zQ 42 45 [v0, v1, v2, .int x] (.int x :: st) M Q := zq_go (i := .iload_n 3) (by decide +kernel) rfl
theorem q42_45 : zQ 42 45 L [.int x] M Q ↔ Q (zI x) M := zq_reI (by decide +kernel) (by decide +kernel)
-- 43 SandKeepers.give(II)I
theorem q43_0 : zQ 43 0 [.ref a, v1, v2, v3] st M Q ↔ zQ 43 1 [.ref a, v1, v2, v3] (.ref a :: st) M Q := zq_go (i := .aload_n 0) (by decide +kernel) rfl
theorem q43_1 : zQ 43 1 L (.ref a :: st) M Q ↔ (a < zNC ∧ zk a = 5) ∧ zQ 43 4 L (zfv a 0 M :: st) M Q := zq_getf (n := 12) (b := false) (by decide +kernel) (by decide +kernel)
theorem q43_4 : zQ 43 4 [v0, .int x, v2, v3] st M Q ↔ zQ 43 5 [v0, .int x, v2, v3] (.int x :: st) M Q := zq_go (i := .iload_n 1) (by decide +kernel) rfl
theorem q43_5 : zQ 43 5 L (.int x1 :: .ref a :: st) M Q ↔ (zcs st ≤ 8 ∧ a < zNC ∧ zk a = 4) ∧ zQ 17 0 [.ref a, .int x1] [] M (fun r M1 => zQ 43 8 L (zpush r st) M1 Q) := zq_callV (n := 79) (j := 17) (b := true) (As := [.int x1]) (by decide +kernel) (by decide +kernel) ⟨by decide +kernel, by decide +kernel, rfl, by decide +kernel, by decide +kernel, Nat.le_of_ble_eq_true rfl⟩ rfl
theorem q43_8 : zQ 43 8 L (.int x :: st) M Q ↔ (x = 0 → zQ 43 22 L st M Q) ∧ (¬ x = 0 → zQ 43 11 L st M Q) := zq_br (i := .ifCond .eq 14) (off := 14) (by decide +kernel) rfl (by decide) rfl
theorem q43_11 : zQ 43 11 [.ref a, v1, v2, v3] st M Q ↔ zQ 43 12 [.ref a, v1, v2, v3] (.ref a :: st) M Q := zq_go (i := .aload_n 0) (by decide +kernel) rfl
theorem q43_12 : zQ 43 12 L (.ref a :: st) M Q ↔ (a < zNC ∧ zk a = 5) ∧ zQ 43 15 L (zfv a 0 M :: st) M Q := zq_getf (n := 12) (b := false) (by decide +kernel) (by decide +kernel)
theorem q43_15 : zQ 43 15 [v0, v1, .int x, v3] st M Q ↔ zQ 43 16 [v0, v1, .int x, v3] (.int x :: st) M Q := zq_go (i := .iload_n 2) (by decide +kernel) rfl
theorem q43_16 : zQ 43 16 L (.int x1 :: .ref a :: st) M Q ↔ (zcs st ≤ 8 ∧ a < zNC ∧ zk a = 4) ∧ zQ 17 0 [.ref a, .int x1] [] M (fun r M1 => zQ 43 19 L (zpush r st) M1 Q) := zq_callV (n := 79) (j := 17) (b := true) (As := [.int x1]) (by decide +kernel) (by decide +kernel) ⟨by decide +kernel, by decide +kernel, rfl, by decide +kernel, by decide +kernel, Nat.le_of_ble_eq_true rfl⟩ rfl
theorem q43_19 : zQ 43 19 L (.int x :: st) M Q ↔ (x = 0 → zQ 43 22 L st M Q) ∧ (¬ x = 0 → zQ 43 24 L st M Q) := zq_bn (i := .ifCond .ne 5) (off := 5) (by decide +kernel) rfl (by decide) rfl
theorem q43_22 : zQ 43 22 L st M Q ↔ zQ 43 23 L (.int (-1) :: st) M Q := zq_con (n := (-1)) (by decide +kernel) (by decide +kernel) rfl
theorem q43_23 : zQ 43 23 L [.int x] M Q ↔ Q (zI x) M := zq_reI (by decide +kernel) (by decide +kernel)
theorem q43_24 : zQ 43 24 [.ref a, v1, v2, v3] st M Q ↔ zQ 43 25 [.ref a, v1, v2, v3] (.ref a :: st) M Q := zq_go (i := .aload_n 0) (by decide +kernel) rfl
theorem q43_25 : zQ 43 25 L (.ref a :: st) M Q ↔ (a < zNC ∧ zk a = 5) ∧ zQ 43 28 L (zfv a 0 M :: st) M Q := zq_getf (n := 12) (b := false) (by decide +kernel) (by decide +kernel)
theorem q43_28 : zQ 43 28 L (.ref a :: st) M Q ↔ (a < zNC ∧ zk a = 4) ∧ zQ 43 31 L (zfv a 5 M :: st) M Q := zq_getf (n := 96) (b := true) (by decide +kernel) (by decide +kernel)
theorem q43_31 : zQ 43 31 [v0, .int x, v2, v3] st M Q ↔ zQ 43 32 [v0, .int x, v2, v3] (.int x :: st) M Q := zq_go (i := .iload_n 1) (by decide +kernel) rfl
theorem q43_32 : zQ 43 32 L (.int x :: .ref a :: st) M Q ↔ (a < zNC ∧ zk a = 7 ∧ zin x (zn a) = true) ∧ zQ 43 33 L (.int (M a x.toNatClampNeg) :: st) M Q := zq_iald (by decide +kernel)
theorem q43_33i : zQ 43 33 [v0, v1, .int y, v3] (.int x :: st) M Q ↔ zQ 43 34 [v0, v1, .int y, .int x] st M Q := zq_stI (i := .istore_n 3) (k := 3) (by decide +kernel) rfl (Nat.le_of_ble_eq_true rfl) rfl rfl
theorem q43_33r : zQ 43 33 [v0, v1, .ref r1, v3] (.int x :: st) M Q ↔ zQ 43 34 [v0, v1, .ref r1, .int x] st M Q := zq_stI (i := .istore_n 3) (k := 3) (by decide +kernel) rfl (Nat.le_of_ble_eq_true rfl) rfl rfl
theorem q43_33n : zQ 43 33 [v0, v1, .null, v3] (.int x :: st) M Q ↔ zQ 43 34 [v0, v1, .null, .int x] st M Q := zq_stI (i := .istore_n 3) (k := 3) (by decide +kernel) rfl (Nat.le_of_ble_eq_true rfl) rfl rfl
theorem q43_34 : zQ 43 34 [.ref a, v1, v2, v3] st M Q ↔ zQ 43 35 [.ref a, v1, v2, v3] (.ref a :: st) M Q := zq_go (i := .aload_n 0) (by decide +kernel) rfl
theorem q43_35 : zQ 43 35 L (.ref a :: st) M Q ↔ (a < zNC ∧ zk a = 5) ∧ zQ 43 38 L (zfv a 0 M :: st) M Q := zq_getf (n := 12) (b := false) (by decide +kernel) (by decide +kernel)
theorem q43_38 : zQ 43 38 L (.ref a :: st) M Q ↔ (a < zNC ∧ zk a = 4) ∧ zQ 43 41 L (zfv a 5 M :: st) M Q := zq_getf (n := 96) (b := true) (by decide +kernel) (by decide +kernel)
theorem q43_41 : zQ 43 41 [v0, .int x, v2, v3] st M Q ↔ zQ 43 42 [v0, .int x, v2, v3] (.int x :: st) M Q := zq_go (i := .iload_n 1) (by decide +kernel) rfl
theorem q43_42 : zQ 43 42 [v0, v1, .int x, v3] st M Q ↔ zQ 43 43 [v0, v1, .int x, v3] (.int x :: st) M Q := zq_go (i := .iload_n 2) (by decide +kernel) rfl
theorem q43_43 : zQ 43 43 L (.int x :: .int y :: .ref a :: st) M Q ↔ (a < zNC ∧ zk a = 7 ∧ zin y (zn a) = true) ∧ zQ 43 44 L st (zup M a y.toNatClampNeg x) Q := zq_iast (by decide +kernel)
theorem q43_44 : zQ 43 44 [v0, v1, v2, .int x] st M Q ↔ zQ 43 45 [v0, v1, v2, .int x] (.int x :: st) M Q := zq_go (i := .iload_n 3) (by decide +kernel) rfl
theorem q43_45 : zQ 43 45 L [.int x] M Q ↔ Q (zI x) M := zq_reI (by decide +kernel) (by decide +kernel)
-- 44 SandKeepers.alive(I)I
theorem q44_0 : zQ 44 0 [.ref a, v1] st M Q ↔ zQ 44 1 [.ref a, v1] (.ref a :: st) M Q := zq_go (i := .aload_n 0) (by decide +kernel) rfl
theorem q44_1 : zQ 44 1 L (.ref a :: st) M Q ↔ (a < zNC ∧ zk a = 5) ∧ zQ 44 4 L (zfv a 0 M :: st) M Q := zq_getf (n := 12) (b := false) (by decide +kernel) (by decide +kernel)
theorem q44_4 : zQ 44 4 L (.ref a :: st) M Q ↔ (a < zNC ∧ zk a = 4) ∧ zQ 44 7 L (zfv a 7 M :: st) M Q := zq_getf (n := 76) (b := true) (by decide +kernel) (by decide +kernel)
theorem q44_7 : zQ 44 7 L (.int x :: st) M Q ↔ (x = 0 → zQ 44 10 L st M Q) ∧ (¬ x = 0 → zQ 44 13 L st M Q) := zq_bn (i := .ifCond .ne 6) (off := 6) (by decide +kernel) rfl (by decide) rfl
theorem q44_10 : zQ 44 10 L st M Q ↔ zQ 44 12 L (.int (-3) :: st) M Q := zq_bip (n := (-3)) (by decide +kernel) (by decide +kernel) rfl
theorem q44_12 : zQ 44 12 L [.int x] M Q ↔ Q (zI x) M := zq_reI (by decide +kernel) (by decide +kernel)
theorem q44_13 : zQ 44 13 [v0, .int x] st M Q ↔ zQ 44 14 [v0, .int x] (.int x :: st) M Q := zq_go (i := .iload_n 1) (by decide +kernel) rfl
theorem q44_14 : zQ 44 14 L st M Q ↔ zQ 44 15 L (.int 2 :: st) M Q := zq_con (n := 2) (by decide +kernel) (by decide +kernel) rfl
theorem q44_15 : zQ 44 15 L (.int x2 :: .int x1 :: st) M Q ↔ zcs st ≤ 8 ∧ zQ 74 0 [.int x1, .int x2] [] M (fun r M1 => zQ 44 18 L (zpush r st) M1 Q) := zq_callS (n := 53) (j := 74) (b := false) (As := [.int x1, .int x2]) (by decide +kernel) (by decide +kernel) ⟨by decide +kernel, by decide +kernel, rfl, by decide +kernel, by decide +kernel, Nat.le_of_ble_eq_true rfl⟩ rfl
theorem q44_18 : zQ 44 18 L (.int x :: st) M Q ↔ (x = 0 → zQ 44 21 L st M Q) ∧ (¬ x = 0 → zQ 44 24 L st M Q) := zq_bn (i := .ifCond .ne 6) (off := 6) (by decide +kernel) rfl (by decide) rfl
theorem q44_21 : zQ 44 21 L st M Q ↔ zQ 44 23 L (.int (-2) :: st) M Q := zq_bip (n := (-2)) (by decide +kernel) (by decide +kernel) rfl
theorem q44_23 : zQ 44 23 L [.int x] M Q ↔ Q (zI x) M := zq_reI (by decide +kernel) (by decide +kernel)
theorem q44_24 : zQ 44 24 [v0, .int x] st M Q ↔ zQ 44 25 [v0, .int x] (.int x :: st) M Q := zq_go (i := .iload_n 1) (by decide +kernel) rfl
theorem q44_25 : zQ 44 25 L (.int x :: st) M Q ↔ (x = 0 → zQ 44 28 L st M Q) ∧ (¬ x = 0 → zQ 44 38 L st M Q) := zq_bn (i := .ifCond .ne 13) (off := 13) (by decide +kernel) rfl (by decide) rfl
theorem q44_28 : zQ 44 28 [.ref a, v1] st M Q ↔ zQ 44 29 [.ref a, v1] (.ref a :: st) M Q := zq_go (i := .aload_n 0) (by decide +kernel) rfl
theorem q44_29 : zQ 44 29 L (.ref a :: st) M Q ↔ (a < zNC ∧ zk a = 5) ∧ zQ 44 32 L (zfv a 0 M :: st) M Q := zq_getf (n := 12) (b := false) (by decide +kernel) (by decide +kernel)
theorem q44_32 : zQ 44 32 L (.ref a :: st) M Q ↔ (zcs st ≤ 8 ∧ a < zNC ∧ zk a = 4) ∧ zQ 27 0 [.ref a, .null, .null] [] M (fun r M1 => zQ 44 35 L (zpush r st) M1 Q) := zq_callV (n := 113) (j := 27) (b := true) (As := []) (by decide +kernel) (by decide +kernel) ⟨by decide +kernel, by decide +kernel, rfl, by decide +kernel, by decide +kernel, Nat.le_of_ble_eq_true rfl⟩ rfl
theorem q44_35 : zQ 44 35 L st M Q ↔ zQ 44 45 L st M Q := zq_jmp (off := 10) (by decide +kernel) (by decide)
theorem q44_38 : zQ 44 38 [.ref a, v1] st M Q ↔ zQ 44 39 [.ref a, v1] (.ref a :: st) M Q := zq_go (i := .aload_n 0) (by decide +kernel) rfl
theorem q44_39 : zQ 44 39 L (.ref a :: st) M Q ↔ (a < zNC ∧ zk a = 5) ∧ zQ 44 42 L (zfv a 0 M :: st) M Q := zq_getf (n := 12) (b := false) (by decide +kernel) (by decide +kernel)
theorem q44_42 : zQ 44 42 L (.ref a :: st) M Q ↔ (zcs st ≤ 8 ∧ a < zNC ∧ zk a = 4) ∧ zQ 28 0 [.ref a, .null, .null] [] M (fun r M1 => zQ 44 45 L (zpush r st) M1 Q) := zq_callV (n := 117) (j := 28) (b := true) (As := []) (by decide +kernel) (by decide +kernel) ⟨by decide +kernel, by decide +kernel, rfl, by decide +kernel, by decide +kernel, Nat.le_of_ble_eq_true rfl⟩ rfl
theorem q44_45 : zQ 44 45 L [.int x] M Q ↔ Q (zI x) M := zq_reI (by decide +kernel) (by decide +kernel)
-- 45 SandKeepers.lay(I)I
theorem q45_0 : zQ 45 0 [.ref a, v1] st M Q ↔ zQ 45 1 [.ref a, v1] (.ref a :: st) M Q := zq_go (i := .aload_n 0) (by decide +kernel) rfl
theorem q45_1 : zQ 45 1 [v0, .int x] st M Q ↔ zQ 45 2 [v0, .int x] (.int x :: st) M Q := zq_go (i := .iload_n 1) (by decide +kernel) rfl
theorem q45_2 : zQ 45 2 L st M Q ↔ zQ 45 3 L (.int 0 :: st) M Q := zq_con (n := 0) (by decide +kernel) (by decide +kernel) rfl
theorem q45_3 : zQ 45 3 L (.int x2 :: .int x1 :: .ref a :: st) M Q ↔ (zcs st ≤ 8 ∧ a < zNC ∧ zk a = 5) ∧ zQ 77 0 [.ref a, .int x1, .int x2] [] M (fun r M1 => zQ 45 6 L (zpush r st) M1 Q) := zq_callV (n := 120) (j := 77) (b := false) (As := [.int x1, .int x2]) (by decide +kernel) (by decide +kernel) ⟨by decide +kernel, by decide +kernel, rfl, by decide +kernel, by decide +kernel, Nat.le_of_ble_eq_true rfl⟩ rfl
theorem q45_6 : zQ 45 6 L [.int x] M Q ↔ Q (zI x) M := zq_reI (by decide +kernel) (by decide +kernel)
-- 46 SandKeepers.raise(I)I
theorem q46_0 : zQ 46 0 [.ref a, v1] st M Q ↔ zQ 46 1 [.ref a, v1] (.ref a :: st) M Q := zq_go (i := .aload_n 0) (by decide +kernel) rfl
theorem q46_1 : zQ 46 1 [v0, .int x] st M Q ↔ zQ 46 2 [v0, .int x] (.int x :: st) M Q := zq_go (i := .iload_n 1) (by decide +kernel) rfl
theorem q46_2 : zQ 46 2 L st M Q ↔ zQ 46 3 L (.int 1 :: st) M Q := zq_con (n := 1) (by decide +kernel) (by decide +kernel) rfl
theorem q46_3 : zQ 46 3 L (.int x2 :: .int x1 :: .ref a :: st) M Q ↔ (zcs st ≤ 8 ∧ a < zNC ∧ zk a = 5) ∧ zQ 77 0 [.ref a, .int x1, .int x2] [] M (fun r M1 => zQ 46 6 L (zpush r st) M1 Q) := zq_callV (n := 120) (j := 77) (b := false) (As := [.int x1, .int x2]) (by decide +kernel) (by decide +kernel) ⟨by decide +kernel, by decide +kernel, rfl, by decide +kernel, by decide +kernel, Nat.le_of_ble_eq_true rfl⟩ rfl
theorem q46_6 : zQ 46 6 L [.int x] M Q ↔ Q (zI x) M := zq_reI (by decide +kernel) (by decide +kernel)
-- 47 SandKeepers.turn(I)I
theorem q47_0 : zQ 47 0 [.ref a, v1] st M Q ↔ zQ 47 1 [.ref a, v1] (.ref a :: st) M Q := zq_go (i := .aload_n 0) (by decide +kernel) rfl
theorem q47_1 : zQ 47 1 [v0, .int x] st M Q ↔ zQ 47 2 [v0, .int x] (.int x :: st) M Q := zq_go (i := .iload_n 1) (by decide +kernel) rfl
theorem q47_2 : zQ 47 2 L st M Q ↔ zQ 47 3 L (.int 2 :: st) M Q := zq_con (n := 2) (by decide +kernel) (by decide +kernel) rfl
theorem q47_3 : zQ 47 3 L (.int x2 :: .int x1 :: .ref a :: st) M Q ↔ (zcs st ≤ 8 ∧ a < zNC ∧ zk a = 5) ∧ zQ 77 0 [.ref a, .int x1, .int x2] [] M (fun r M1 => zQ 47 6 L (zpush r st) M1 Q) := zq_callV (n := 120) (j := 77) (b := false) (As := [.int x1, .int x2]) (by decide +kernel) (by decide +kernel) ⟨by decide +kernel, by decide +kernel, rfl, by decide +kernel, by decide +kernel, Nat.le_of_ble_eq_true rfl⟩ rfl
theorem q47_6 : zQ 47 6 L [.int x] M Q ↔ Q (zI x) M := zq_reI (by decide +kernel) (by decide +kernel)
-- 48 SandKeepers.go(I)I
theorem q48_0 : zQ 48 0 [.ref a, v1, v2, v3] st M Q ↔ zQ 48 1 [.ref a, v1, v2, v3] (.ref a :: st) M Q := zq_go (i := .aload_n 0) (by decide +kernel) rfl
theorem q48_1 : zQ 48 1 L (.ref a :: st) M Q ↔ (a < zNC ∧ zk a = 5) ∧ zQ 48 4 L (zfv a 0 M :: st) M Q := zq_getf (n := 12) (b := false) (by decide +kernel) (by decide +kernel)
theorem q48_4 : zQ 48 4 L (.ref a :: st) M Q ↔ (a < zNC ∧ zk a = 4) ∧ zQ 48 7 L (zfv a 7 M :: st) M Q := zq_getf (n := 76) (b := true) (by decide +kernel) (by decide +kernel)
theorem q48_7 : zQ 48 7 L (.int x :: st) M Q ↔ (x = 0 → zQ 48 10 L st M Q) ∧ (¬ x = 0 → zQ 48 13 L st M Q) := zq_bn (i := .ifCond .ne 6) (off := 6) (by decide +kernel) rfl (by decide) rfl
theorem q48_10 : zQ 48 10 L st M Q ↔ zQ 48 12 L (.int (-3) :: st) M Q := zq_bip (n := (-3)) (by decide +kernel) (by decide +kernel) rfl
theorem q48_12 : zQ 48 12 L [.int x] M Q ↔ Q (zI x) M := zq_reI (by decide +kernel) (by decide +kernel)
theorem q48_13 : zQ 48 13 [v0, .int x, v2, v3] st M Q ↔ zQ 48 14 [v0, .int x, v2, v3] (.int x :: st) M Q := zq_go (i := .iload_n 1) (by decide +kernel) rfl
theorem q48_14 : zQ 48 14 L st M Q ↔ zQ 48 15 L (.int 1 :: st) M Q := zq_con (n := 1) (by decide +kernel) (by decide +kernel) rfl
theorem q48_15 : zQ 48 15 L (.int y :: .int x :: st) M Q ↔ (x < y → zQ 48 24 L st M Q) ∧ (¬ x < y → zQ 48 18 L st M Q) := zq_br (i := .if_icmp .lt 9) (off := 9) (by decide +kernel) rfl (by decide) rfl
theorem q48_18 : zQ 48 18 [v0, .int x, v2, v3] st M Q ↔ zQ 48 19 [v0, .int x, v2, v3] (.int x :: st) M Q := zq_go (i := .iload_n 1) (by decide +kernel) rfl
theorem q48_19 : zQ 48 19 L st M Q ↔ zQ 48 21 L (.int 99 :: st) M Q := zq_bip (n := 99) (by decide +kernel) (by decide +kernel) rfl
theorem q48_21 : zQ 48 21 L (.int y :: .int x :: st) M Q ↔ (x ≤ y → zQ 48 27 L st M Q) ∧ (¬ x ≤ y → zQ 48 24 L st M Q) := zq_br (i := .if_icmp .le 6) (off := 6) (by decide +kernel) rfl (by decide) rfl
theorem q48_24 : zQ 48 24 L st M Q ↔ zQ 48 26 L (.int (-2) :: st) M Q := zq_bip (n := (-2)) (by decide +kernel) (by decide +kernel) rfl
theorem q48_26 : zQ 48 26 L [.int x] M Q ↔ Q (zI x) M := zq_reI (by decide +kernel) (by decide +kernel)
theorem q48_27 : zQ 48 27 [.ref a, v1, v2, v3] st M Q ↔ zQ 48 28 [.ref a, v1, v2, v3] (.ref a :: st) M Q := zq_go (i := .aload_n 0) (by decide +kernel) rfl
theorem q48_28 : zQ 48 28 L (.ref a :: st) M Q ↔ (a < zNC ∧ zk a = 5) ∧ zQ 48 31 L (zfv a 0 M :: st) M Q := zq_getf (n := 12) (b := false) (by decide +kernel) (by decide +kernel)
theorem q48_31 : zQ 48 31 L (.ref a :: st) M Q ↔ (a < zNC ∧ zk a = 4) ∧ zQ 48 34 L (zfv a 8 M :: st) M Q := zq_getf (n := 123) (b := true) (by decide +kernel) (by decide +kernel)
theorem q48_34 : zQ 48 34 [v0, .int x, v2, v3] st M Q ↔ zQ 48 35 [v0, .int x, v2, v3] (.int x :: st) M Q := zq_go (i := .iload_n 1) (by decide +kernel) rfl
theorem q48_35 : zQ 48 35 L (.int y :: .int x :: st) M Q ↔ zQ 48 36 L (.int (x + y) :: st) M Q := zq_go (i := .iadd) (by decide +kernel) rfl
theorem q48_36 : zQ 48 36 L st M Q ↔ zQ 48 39 L (.int 999 :: st) M Q := zq_sip (n := 999) (by decide +kernel) (by decide +kernel) rfl
theorem q48_39 : zQ 48 39 L (.int y :: .int x :: st) M Q ↔ (x ≤ y → zQ 48 45 L st M Q) ∧ (¬ x ≤ y → zQ 48 42 L st M Q) := zq_br (i := .if_icmp .le 6) (off := 6) (by decide +kernel) rfl (by decide) rfl
theorem q48_42 : zQ 48 42 L st M Q ↔ zQ 48 44 L (.int (-3) :: st) M Q := zq_bip (n := (-3)) (by decide +kernel) (by decide +kernel) rfl
theorem q48_44 : zQ 48 44 L [.int x] M Q ↔ Q (zI x) M := zq_reI (by decide +kernel) (by decide +kernel)
theorem q48_45 : zQ 48 45 [.ref a, v1, v2, v3] st M Q ↔ zQ 48 46 [.ref a, v1, v2, v3] (.ref a :: st) M Q := zq_go (i := .aload_n 0) (by decide +kernel) rfl
theorem q48_46 : zQ 48 46 L (.ref a :: st) M Q ↔ (a < zNC ∧ zk a = 5) ∧ zQ 48 49 L (zfv a 0 M :: st) M Q := zq_getf (n := 12) (b := false) (by decide +kernel) (by decide +kernel)
theorem q48_49 : zQ 48 49 L (.ref a :: st) M Q ↔ (zcs st ≤ 8 ∧ a < zNC ∧ zk a = 4) ∧ zQ 27 0 [.ref a, .null, .null] [] M (fun r M1 => zQ 48 52 L (zpush r st) M1 Q) := zq_callV (n := 113) (j := 27) (b := true) (As := []) (by decide +kernel) (by decide +kernel) ⟨by decide +kernel, by decide +kernel, rfl, by decide +kernel, by decide +kernel, Nat.le_of_ble_eq_true rfl⟩ rfl
theorem q48_52 : zQ 48 52 L (.int x1 :: st) M Q ↔ zcs st ≤ 8 ∧ zQ 156 0 [.int x1] [] M (fun r M1 => zQ 48 55 L (zpush r st) M1 Q) := zq_callS (n := 126) (j := 156) (b := false) (As := [.int x1]) (by decide +kernel) (by decide +kernel) ⟨by decide +kernel, by decide +kernel, rfl, by decide +kernel, by decide +kernel, Nat.le_of_ble_eq_true rfl⟩ rfl
theorem q48_55i : zQ 48 55 [v0, .int y, v2, v3] (.int x :: st) M Q ↔ zQ 48 56 [v0, .int y, .int x, v3] st M Q := zq_stI (i := .istore_n 2) (k := 2) (by decide +kernel) rfl (Nat.le_of_ble_eq_true rfl) rfl rfl
theorem q48_55r : zQ 48 55 [v0, .ref r1, v2, v3] (.int x :: st) M Q ↔ zQ 48 56 [v0, .ref r1, .int x, v3] st M Q := zq_stI (i := .istore_n 2) (k := 2) (by decide +kernel) rfl (Nat.le_of_ble_eq_true rfl) rfl rfl
theorem q48_55n : zQ 48 55 [v0, .null, v2, v3] (.int x :: st) M Q ↔ zQ 48 56 [v0, .null, .int x, v3] st M Q := zq_stI (i := .istore_n 2) (k := 2) (by decide +kernel) rfl (Nat.le_of_ble_eq_true rfl) rfl rfl
theorem q48_56 : zQ 48 56 L st M Q ↔ zQ 48 57 L (.int 0 :: st) M Q := zq_con (n := 0) (by decide +kernel) (by decide +kernel) rfl
theorem q48_57i : zQ 48 57 [v0, v1, .int y, v3] (.int x :: st) M Q ↔ zQ 48 58 [v0, v1, .int y, .int x] st M Q := zq_stI (i := .istore_n 3) (k := 3) (by decide +kernel) rfl (Nat.le_of_ble_eq_true rfl) rfl rfl
theorem q48_57r : zQ 48 57 [v0, v1, .ref r1, v3] (.int x :: st) M Q ↔ zQ 48 58 [v0, v1, .ref r1, .int x] st M Q := zq_stI (i := .istore_n 3) (k := 3) (by decide +kernel) rfl (Nat.le_of_ble_eq_true rfl) rfl rfl
theorem q48_57n : zQ 48 57 [v0, v1, .null, v3] (.int x :: st) M Q ↔ zQ 48 58 [v0, v1, .null, .int x] st M Q := zq_stI (i := .istore_n 3) (k := 3) (by decide +kernel) rfl (Nat.le_of_ble_eq_true rfl) rfl rfl
theorem q48_58 : zQ 48 58 [v0, v1, v2, .int x] st M Q ↔ zQ 48 59 [v0, v1, v2, .int x] (.int x :: st) M Q := zq_go (i := .iload_n 3) (by decide +kernel) rfl
theorem q48_59 : zQ 48 59 [v0, .int x, v2, v3] st M Q ↔ zQ 48 60 [v0, .int x, v2, v3] (.int x :: st) M Q := zq_go (i := .iload_n 1) (by decide +kernel) rfl
theorem q48_60 : zQ 48 60 L (.int y :: .int x :: st) M Q ↔ (y ≤ x → zQ 48 76 L st M Q) ∧ (¬ y ≤ x → zQ 48 63 L st M Q) := zq_br (i := .if_icmp .ge 16) (off := 16) (by decide +kernel) rfl (by decide) rfl
theorem q48_63 : zQ 48 63 [.ref a, v1, v2, v3] st M Q ↔ zQ 48 64 [.ref a, v1, v2, v3] (.ref a :: st) M Q := zq_go (i := .aload_n 0) (by decide +kernel) rfl
theorem q48_64 : zQ 48 64 L (.ref a :: st) M Q ↔ (a < zNC ∧ zk a = 5) ∧ zQ 48 67 L (zfv a 0 M :: st) M Q := zq_getf (n := 12) (b := false) (by decide +kernel) (by decide +kernel)
theorem q48_67 : zQ 48 67 L (.ref a :: st) M Q ↔ (zcs st ≤ 8 ∧ a < zNC ∧ zk a = 4) ∧ zQ 31 0 [.ref a, .null] [] M (fun r M1 => zQ 48 70 L (zpush r st) M1 Q) := zq_callV (n := 131) (j := 31) (b := true) (As := []) (by decide +kernel) (by decide +kernel) ⟨by decide +kernel, by decide +kernel, rfl, by decide +kernel, by decide +kernel, Nat.le_of_ble_eq_true rfl⟩ rfl
theorem q48_70i : zQ 48 70 [v0, v1, .int y, .int x] st M Q ↔ zQ 48 73 [v0, v1, .int y, .int (x + 1)] st M Q := zq_inc (k := 3) (n := 1) (x := x) (v := 1) (by decide +kernel) (by decide +kernel) rfl rfl rfl rfl
theorem q48_70r : zQ 48 70 [v0, v1, .ref r1, .int x] st M Q ↔ zQ 48 73 [v0, v1, .ref r1, .int (x + 1)] st M Q := zq_inc (k := 3) (n := 1) (x := x) (v := 1) (by decide +kernel) (by decide +kernel) rfl rfl rfl rfl
theorem q48_70n : zQ 48 70 [v0, v1, .null, .int x] st M Q ↔ zQ 48 73 [v0, v1, .null, .int (x + 1)] st M Q := zq_inc (k := 3) (n := 1) (x := x) (v := 1) (by decide +kernel) (by decide +kernel) rfl rfl rfl rfl
theorem q48_73 : zQ 48 73 L st M Q ↔ zQ 48 58 L st M Q := zq_jmp (off := (-15)) (by decide +kernel) (by decide)
theorem q48_76 : zQ 48 76 [v0, v1, .int x, v3] st M Q ↔ zQ 48 77 [v0, v1, .int x, v3] (.int x :: st) M Q := zq_go (i := .iload_n 2) (by decide +kernel) rfl
theorem q48_77 : zQ 48 77 [.ref a, v1, v2, v3] st M Q ↔ zQ 48 78 [.ref a, v1, v2, v3] (.ref a :: st) M Q := zq_go (i := .aload_n 0) (by decide +kernel) rfl
theorem q48_78 : zQ 48 78 L (.ref a :: st) M Q ↔ (a < zNC ∧ zk a = 5) ∧ zQ 48 81 L (zfv a 0 M :: st) M Q := zq_getf (n := 12) (b := false) (by decide +kernel) (by decide +kernel)
theorem q48_81 : zQ 48 81 L (.ref a :: st) M Q ↔ (zcs st ≤ 8 ∧ a < zNC ∧ zk a = 4) ∧ zQ 27 0 [.ref a, .null, .null] [] M (fun r M1 => zQ 48 84 L (zpush r st) M1 Q) := zq_callV (n := 113) (j := 27) (b := true) (As := []) (by decide +kernel) (by decide +kernel) ⟨by decide +kernel, by decide +kernel, rfl, by decide +kernel, by decide +kernel, Nat.le_of_ble_eq_true rfl⟩ rfl
theorem q48_84 : zQ 48 84 L (.int x1 :: st) M Q ↔ zcs st ≤ 8 ∧ zQ 156 0 [.int x1] [] M (fun r M1 => zQ 48 87 L (zpush r st) M1 Q) := zq_callS (n := 126) (j := 156) (b := false) (As := [.int x1]) (by decide +kernel) (by decide +kernel) ⟨by decide +kernel, by decide +kernel, rfl, by decide +kernel, by decide +kernel, Nat.le_of_ble_eq_true rfl⟩ rfl
theorem q48_87 : zQ 48 87 L (.int y :: .int x :: st) M Q ↔ zQ 48 88 L (.int (x - y) :: st) M Q := zq_go (i := .isub) (by decide +kernel) rfl
theorem q48_88 : zQ 48 88 L [.int x] M Q ↔ Q (zI x) M := zq_reI (by decide +kernel) (by decide +kernel)
-- 49 SandKeepers.life(I)I
theorem q49_0 : zQ 49 0 [.ref a, v1] st M Q ↔ zQ 49 1 [.ref a, v1] (.ref a :: st) M Q := zq_go (i := .aload_n 0) (by decide +kernel) rfl
theorem q49_1 : zQ 49 1 L (.ref a :: st) M Q ↔ (a < zNC ∧ zk a = 5) ∧ zQ 49 4 L (zfv a 0 M :: st) M Q := zq_getf (n := 12) (b := false) (by decide +kernel) (by decide +kernel)
theorem q49_4 : zQ 49 4 [v0, .int x] st M Q ↔ zQ 49 5 [v0, .int x] (.int x :: st) M Q := zq_go (i := .iload_n 1) (by decide +kernel) rfl
theorem q49_5 : zQ 49 5 L (.int x1 :: .ref a :: st) M Q ↔ (zcs st ≤ 8 ∧ a < zNC ∧ zk a = 4) ∧ zQ 17 0 [.ref a, .int x1] [] M (fun r M1 => zQ 49 8 L (zpush r st) M1 Q) := zq_callV (n := 79) (j := 17) (b := true) (As := [.int x1]) (by decide +kernel) (by decide +kernel) ⟨by decide +kernel, by decide +kernel, rfl, by decide +kernel, by decide +kernel, Nat.le_of_ble_eq_true rfl⟩ rfl
theorem q49_8 : zQ 49 8 L (.int x :: st) M Q ↔ (x = 0 → zQ 49 22 L st M Q) ∧ (¬ x = 0 → zQ 49 11 L st M Q) := zq_br (i := .ifCond .eq 14) (off := 14) (by decide +kernel) rfl (by decide) rfl
theorem q49_11 : zQ 49 11 [.ref a, v1] st M Q ↔ zQ 49 12 [.ref a, v1] (.ref a :: st) M Q := zq_go (i := .aload_n 0) (by decide +kernel) rfl
theorem q49_12 : zQ 49 12 L (.ref a :: st) M Q ↔ (a < zNC ∧ zk a = 5) ∧ zQ 49 15 L (zfv a 0 M :: st) M Q := zq_getf (n := 12) (b := false) (by decide +kernel) (by decide +kernel)
theorem q49_15 : zQ 49 15 [v0, .int x] st M Q ↔ zQ 49 16 [v0, .int x] (.int x :: st) M Q := zq_go (i := .iload_n 1) (by decide +kernel) rfl
theorem q49_16 : zQ 49 16 L (.int x1 :: .ref a :: st) M Q ↔ (zcs st ≤ 8 ∧ a < zNC ∧ zk a = 4) ∧ zQ 33 0 [.ref a, .int x1] [] M (fun r M1 => zQ 49 19 L (zpush r st) M1 Q) := zq_callV (n := 134) (j := 33) (b := true) (As := [.int x1]) (by decide +kernel) (by decide +kernel) ⟨by decide +kernel, by decide +kernel, rfl, by decide +kernel, by decide +kernel, Nat.le_of_ble_eq_true rfl⟩ rfl
theorem q49_19 : zQ 49 19 L st M Q ↔ zQ 49 23 L st M Q := zq_jmp (off := 4) (by decide +kernel) (by decide)
theorem q49_22 : zQ 49 22 L st M Q ↔ zQ 49 23 L (.int (-1) :: st) M Q := zq_con (n := (-1)) (by decide +kernel) (by decide +kernel) rfl
theorem q49_23 : zQ 49 23 L [.int x] M Q ↔ Q (zI x) M := zq_reI (by decide +kernel) (by decide +kernel)
-- 50 SandKeepers.chronicle(IIIII)I
theorem q50_0 : zQ 50 0 [.ref a, v1, v2, v3, v4, v5, v6, v7, v8, v9] st M Q ↔ zQ 50 1 [.ref a, v1, v2, v3, v4, v5, v6, v7, v8, v9] (.ref a :: st) M Q := zq_go (i := .aload_n 0) (by decide +kernel) rfl
theorem q50_1 : zQ 50 1 L st M Q ↔ zQ 50 2 L (.int 0 :: st) M Q := zq_con (n := 0) (by decide +kernel) (by decide +kernel) rfl
theorem q50_2 : zQ 50 2 L (.int x :: .ref a :: st) M Q ↔ (a < zNC ∧ zk a = 5 ∧ zf a 7 = none) ∧ zQ 50 5 L st (zup M a 7 x) Q := zq_putf (n := 49) (b := false) (by decide +kernel) (by decide +kernel) (by decide +kernel)
theorem q50_5 : zQ 50 5 [v0, .int x, v2, v3, v4, v5, v6, v7, v8, v9] st M Q ↔ zQ 50 6 [v0, .int x, v2, v3, v4, v5, v6, v7, v8, v9] (.int x :: st) M Q := zq_go (i := .iload_n 1) (by decide +kernel) rfl
theorem q50_6 : zQ 50 6 L st M Q ↔ zQ 50 7 L (.int 4 :: st) M Q := zq_con (n := 4) (by decide +kernel) (by decide +kernel) rfl
theorem q50_7 : zQ 50 7 L (.int x2 :: .int x1 :: st) M Q ↔ zcs st ≤ 8 ∧ zQ 74 0 [.int x1, .int x2] [] M (fun r M1 => zQ 50 10 L (zpush r st) M1 Q) := zq_callS (n := 53) (j := 74) (b := false) (As := [.int x1, .int x2]) (by decide +kernel) (by decide +kernel) ⟨by decide +kernel, by decide +kernel, rfl, by decide +kernel, by decide +kernel, Nat.le_of_ble_eq_true rfl⟩ rfl
theorem q50_10 : zQ 50 10 L (.int x :: st) M Q ↔ (x = 0 → zQ 50 13 L st M Q) ∧ (¬ x = 0 → zQ 50 15 L st M Q) := zq_bn (i := .ifCond .ne 5) (off := 5) (by decide +kernel) rfl (by decide) rfl
theorem q50_13 : zQ 50 13 L st M Q ↔ zQ 50 14 L (.int (-1) :: st) M Q := zq_con (n := (-1)) (by decide +kernel) (by decide +kernel) rfl
theorem q50_14 : zQ 50 14 L [.int x] M Q ↔ Q (zI x) M := zq_reI (by decide +kernel) (by decide +kernel)
theorem q50_15 : zQ 50 15 [v0, v1, .int x, v3, v4, v5, v6, v7, v8, v9] st M Q ↔ zQ 50 16 [v0, v1, .int x, v3, v4, v5, v6, v7, v8, v9] (.int x :: st) M Q := zq_go (i := .iload_n 2) (by decide +kernel) rfl
theorem q50_16 : zQ 50 16 L st M Q ↔ zQ 50 17 L (.int 3 :: st) M Q := zq_con (n := 3) (by decide +kernel) (by decide +kernel) rfl
theorem q50_17 : zQ 50 17 L (.int x2 :: .int x1 :: st) M Q ↔ zcs st ≤ 8 ∧ zQ 74 0 [.int x1, .int x2] [] M (fun r M1 => zQ 50 20 L (zpush r st) M1 Q) := zq_callS (n := 53) (j := 74) (b := false) (As := [.int x1, .int x2]) (by decide +kernel) (by decide +kernel) ⟨by decide +kernel, by decide +kernel, rfl, by decide +kernel, by decide +kernel, Nat.le_of_ble_eq_true rfl⟩ rfl
theorem q50_20 : zQ 50 20 L (.int x :: st) M Q ↔ (x = 0 → zQ 50 41 L st M Q) ∧ (¬ x = 0 → zQ 50 23 L st M Q) := zq_br (i := .ifCond .eq 21) (off := 21) (by decide +kernel) rfl (by decide) rfl
theorem q50_23 : zQ 50 23 [v0, v1, v2, v3, .int x, v5, v6, v7, v8, v9] st M Q ↔ zQ 50 25 [v0, v1, v2, v3, .int x, v5, v6, v7, v8, v9] (.int x :: st) M Q := zq_go (i := .iload 4) (by decide +kernel) rfl
theorem q50_25 : zQ 50 25 L st M Q ↔ zQ 50 27 L (.int 21 :: st) M Q := zq_bip (n := 21) (by decide +kernel) (by decide +kernel) rfl
theorem q50_27 : zQ 50 27 L (.int x2 :: .int x1 :: st) M Q ↔ zcs st ≤ 8 ∧ zQ 74 0 [.int x1, .int x2] [] M (fun r M1 => zQ 50 30 L (zpush r st) M1 Q) := zq_callS (n := 53) (j := 74) (b := false) (As := [.int x1, .int x2]) (by decide +kernel) (by decide +kernel) ⟨by decide +kernel, by decide +kernel, rfl, by decide +kernel, by decide +kernel, Nat.le_of_ble_eq_true rfl⟩ rfl
theorem q50_30 : zQ 50 30 L (.int x :: st) M Q ↔ (x = 0 → zQ 50 41 L st M Q) ∧ (¬ x = 0 → zQ 50 33 L st M Q) := zq_br (i := .ifCond .eq 11) (off := 11) (by decide +kernel) rfl (by decide) rfl
theorem q50_33 : zQ 50 33 [v0, v1, v2, v3, v4, .int x, v6, v7, v8, v9] st M Q ↔ zQ 50 35 [v0, v1, v2, v3, v4, .int x, v6, v7, v8, v9] (.int x :: st) M Q := zq_go (i := .iload 5) (by decide +kernel) rfl
theorem q50_35 : zQ 50 35 L (.int x1 :: st) M Q ↔ zcs st ≤ 8 ∧ zQ 78 0 [.int x1] [] M (fun r M1 => zQ 50 38 L (zpush r st) M1 Q) := zq_callS (n := 137) (j := 78) (b := false) (As := [.int x1]) (by decide +kernel) (by decide +kernel) ⟨by decide +kernel, by decide +kernel, rfl, by decide +kernel, by decide +kernel, Nat.le_of_ble_eq_true rfl⟩ rfl
theorem q50_38 : zQ 50 38 L (.int x :: st) M Q ↔ (x = 0 → zQ 50 41 L st M Q) ∧ (¬ x = 0 → zQ 50 44 L st M Q) := zq_bn (i := .ifCond .ne 6) (off := 6) (by decide +kernel) rfl (by decide) rfl
theorem q50_41 : zQ 50 41 L st M Q ↔ zQ 50 43 L (.int (-2) :: st) M Q := zq_bip (n := (-2)) (by decide +kernel) (by decide +kernel) rfl
theorem q50_43 : zQ 50 43 L [.int x] M Q ↔ Q (zI x) M := zq_reI (by decide +kernel) (by decide +kernel)
theorem q50_44 : zQ 50 44 [.ref a, v1, v2, v3, v4, v5, v6, v7, v8, v9] st M Q ↔ zQ 50 45 [.ref a, v1, v2, v3, v4, v5, v6, v7, v8, v9] (.ref a :: st) M Q := zq_go (i := .aload_n 0) (by decide +kernel) rfl
theorem q50_45 : zQ 50 45 L (.ref a :: st) M Q ↔ (a < zNC ∧ zk a = 5) ∧ zQ 50 48 L (zfv a 0 M :: st) M Q := zq_getf (n := 12) (b := false) (by decide +kernel) (by decide +kernel)
theorem q50_48 : zQ 50 48 L (.ref a :: st) M Q ↔ (a < zNC ∧ zk a = 4) ∧ zQ 50 51 L (zfv a 7 M :: st) M Q := zq_getf (n := 76) (b := true) (by decide +kernel) (by decide +kernel)
theorem q50_51 : zQ 50 51 L (.int x :: st) M Q ↔ (x = 0 → zQ 50 54 L st M Q) ∧ (¬ x = 0 → zQ 50 57 L st M Q) := zq_bn (i := .ifCond .ne 6) (off := 6) (by decide +kernel) rfl (by decide) rfl
theorem q50_54 : zQ 50 54 L st M Q ↔ zQ 50 56 L (.int (-3) :: st) M Q := zq_bip (n := (-3)) (by decide +kernel) (by decide +kernel) rfl
theorem q50_56 : zQ 50 56 L [.int x] M Q ↔ Q (zI x) M := zq_reI (by decide +kernel) (by decide +kernel)
theorem q50_57 : zQ 50 57 [.ref a, v1, v2, v3, v4, v5, v6, v7, v8, v9] st M Q ↔ zQ 50 58 [.ref a, v1, v2, v3, v4, v5, v6, v7, v8, v9] (.ref a :: st) M Q := zq_go (i := .aload_n 0) (by decide +kernel) rfl
theorem q50_58 : zQ 50 58 L (.ref a :: st) M Q ↔ (a < zNC ∧ zk a = 5) ∧ zQ 50 61 L (zfv a 5 M :: st) M Q := zq_getf (n := 44) (b := false) (by decide +kernel) (by decide +kernel)
theorem q50_61 : zQ 50 61 [v0, .int x, v2, v3, v4, v5, v6, v7, v8, v9] st M Q ↔ zQ 50 62 [v0, .int x, v2, v3, v4, v5, v6, v7, v8, v9] (.int x :: st) M Q := zq_go (i := .iload_n 1) (by decide +kernel) rfl
theorem q50_62 {z : Nat} (hz : z < 4) : zQ 50 62 L (.int (nI z) :: .ref 33 :: st) M Q ↔ zQ 50 63 L (.ref (34 + 2 * z) :: st) M Q := zq_aald hz (by decide +kernel)
theorem q50_63i : zQ 50 63 [v0, v1, v2, v3, v4, .int y, v6, v7, v8, v9] (.ref a :: st) M Q ↔ zQ 50 65 [v0, v1, v2, v3, v4, .int y, .ref a, v7, v8, v9] st M Q := zq_stA (i := .astore 6) (k := 6) (by decide +kernel) rfl (Nat.le_of_ble_eq_true rfl) rfl rfl
theorem q50_63r : zQ 50 63 [v0, v1, v2, v3, v4, .ref r1, v6, v7, v8, v9] (.ref a :: st) M Q ↔ zQ 50 65 [v0, v1, v2, v3, v4, .ref r1, .ref a, v7, v8, v9] st M Q := zq_stA (i := .astore 6) (k := 6) (by decide +kernel) rfl (Nat.le_of_ble_eq_true rfl) rfl rfl
theorem q50_63n : zQ 50 63 [v0, v1, v2, v3, v4, .null, v6, v7, v8, v9] (.ref a :: st) M Q ↔ zQ 50 65 [v0, v1, v2, v3, v4, .null, .ref a, v7, v8, v9] st M Q := zq_stA (i := .astore 6) (k := 6) (by decide +kernel) rfl (Nat.le_of_ble_eq_true rfl) rfl rfl
theorem q50_65 : zQ 50 65 [v0, v1, v2, v3, v4, v5, .ref a, v7, v8, v9] st M Q ↔ zQ 50 67 [v0, v1, v2, v3, v4, v5, .ref a, v7, v8, v9] (.ref a :: st) M Q := zq_go (i := .aload 6) (by decide +kernel) rfl
theorem q50_67 : zQ 50 67 [v0, v1, .int x, v3, v4, v5, v6, v7, v8, v9] st M Q ↔ zQ 50 68 [v0, v1, .int x, v3, v4, v5, v6, v7, v8, v9] (.int x :: st) M Q := zq_go (i := .iload_n 2) (by decide +kernel) rfl
theorem q50_68 : zQ 50 68 [v0, v1, v2, .int x, v4, v5, v6, v7, v8, v9] st M Q ↔ zQ 50 69 [v0, v1, v2, .int x, v4, v5, v6, v7, v8, v9] (.int x :: st) M Q := zq_go (i := .iload_n 3) (by decide +kernel) rfl
theorem q50_69 : zQ 50 69 L st M Q ↔ zQ 50 70 L (.int 2 :: st) M Q := zq_con (n := 2) (by decide +kernel) (by decide +kernel) rfl
theorem q50_70 : zQ 50 70 [v0, v1, v2, v3, .int x, v5, v6, v7, v8, v9] st M Q ↔ zQ 50 72 [v0, v1, v2, v3, .int x, v5, v6, v7, v8, v9] (.int x :: st) M Q := zq_go (i := .iload 4) (by decide +kernel) rfl
theorem q50_72 : zQ 50 72 L (.int y :: .int x :: st) M Q ↔ zQ 50 73 L (.int (x * y) :: st) M Q := zq_go (i := .imul) (by decide +kernel) rfl
theorem q50_73 : zQ 50 73 L (.int x3 :: .int x2 :: .int x1 :: .ref a :: st) M Q ↔ (zcs st ≤ 8 ∧ a < zNC ∧ zk a = 2) ∧ zQ 11 0 [.ref a, .int x1, .int x2, .int x3, .null] [] M (fun r M1 => zQ 50 76 L (zpush r st) M1 Q) := zq_callV (n := 57) (j := 11) (b := true) (As := [.int x1, .int x2, .int x3]) (by decide +kernel) (by decide +kernel) ⟨by decide +kernel, by decide +kernel, rfl, by decide +kernel, by decide +kernel, Nat.le_of_ble_eq_true rfl⟩ rfl
theorem q50_76i : zQ 50 76 [v0, v1, v2, v3, v4, v5, .int y, v7, v8, v9] (.int x :: st) M Q ↔ zQ 50 78 [v0, v1, v2, v3, v4, v5, .int y, .int x, v8, v9] st M Q := zq_stI (i := .istore 7) (k := 7) (by decide +kernel) rfl (Nat.le_of_ble_eq_true rfl) rfl rfl
theorem q50_76r : zQ 50 76 [v0, v1, v2, v3, v4, v5, .ref r1, v7, v8, v9] (.int x :: st) M Q ↔ zQ 50 78 [v0, v1, v2, v3, v4, v5, .ref r1, .int x, v8, v9] st M Q := zq_stI (i := .istore 7) (k := 7) (by decide +kernel) rfl (Nat.le_of_ble_eq_true rfl) rfl rfl
theorem q50_76n : zQ 50 76 [v0, v1, v2, v3, v4, v5, .null, v7, v8, v9] (.int x :: st) M Q ↔ zQ 50 78 [v0, v1, v2, v3, v4, v5, .null, .int x, v8, v9] st M Q := zq_stI (i := .istore 7) (k := 7) (by decide +kernel) rfl (Nat.le_of_ble_eq_true rfl) rfl rfl
theorem q50_78 : zQ 50 78 [v0, v1, v2, v3, v4, v5, v6, .int x, v8, v9] st M Q ↔ zQ 50 80 [v0, v1, v2, v3, v4, v5, v6, .int x, v8, v9] (.int x :: st) M Q := zq_go (i := .iload 7) (by decide +kernel) rfl
theorem q50_80 : zQ 50 80 L (.int x :: st) M Q ↔ (x = 0 → zQ 50 90 L st M Q) ∧ (¬ x = 0 → zQ 50 83 L st M Q) := zq_br (i := .ifCond .eq 10) (off := 10) (by decide +kernel) rfl (by decide) rfl
theorem q50_83 : zQ 50 83 [.ref a, v1, v2, v3, v4, v5, v6, v7, v8, v9] st M Q ↔ zQ 50 84 [.ref a, v1, v2, v3, v4, v5, v6, v7, v8, v9] (.ref a :: st) M Q := zq_go (i := .aload_n 0) (by decide +kernel) rfl
theorem q50_84 : zQ 50 84 [v0, v1, v2, v3, v4, v5, v6, .int x, v8, v9] st M Q ↔ zQ 50 86 [v0, v1, v2, v3, v4, v5, v6, .int x, v8, v9] (.int x :: st) M Q := zq_go (i := .iload 7) (by decide +kernel) rfl
theorem q50_86 : zQ 50 86 L (.int x1 :: .ref a :: st) M Q ↔ (zcs st ≤ 8 ∧ a < zNC ∧ zk a = 5) ∧ zQ 76 0 [.ref a, .int x1] [] M (fun r M1 => zQ 50 89 L (zpush r st) M1 Q) := zq_callV (n := 61) (j := 76) (b := false) (As := [.int x1]) (by decide +kernel) (by decide +kernel) ⟨by decide +kernel, by decide +kernel, rfl, by decide +kernel, by decide +kernel, Nat.le_of_ble_eq_true rfl⟩ rfl
theorem q50_89 : zQ 50 89 L [.int x] M Q ↔ Q (zI x) M := zq_reI (by decide +kernel) (by decide +kernel)
theorem q50_90 : zQ 50 90 [.ref a, v1, v2, v3, v4, v5, v6, v7, v8, v9] st M Q ↔ zQ 50 91 [.ref a, v1, v2, v3, v4, v5, v6, v7, v8, v9] (.ref a :: st) M Q := zq_go (i := .aload_n 0) (by decide +kernel) rfl
theorem q50_91 : zQ 50 91 [v0, v1, v2, v3, v4, v5, .ref a, v7, v8, v9] st M Q ↔ zQ 50 93 [v0, v1, v2, v3, v4, v5, .ref a, v7, v8, v9] (.ref a :: st) M Q := zq_go (i := .aload 6) (by decide +kernel) rfl
theorem q50_93 : zQ 50 93 [v0, v1, v2, .int x, v4, v5, v6, v7, v8, v9] st M Q ↔ zQ 50 94 [v0, v1, v2, .int x, v4, v5, v6, v7, v8, v9] (.int x :: st) M Q := zq_go (i := .iload_n 3) (by decide +kernel) rfl
theorem q50_94 : zQ 50 94 [v0, v1, v2, v3, .int x, v5, v6, v7, v8, v9] st M Q ↔ zQ 50 96 [v0, v1, v2, v3, .int x, v5, v6, v7, v8, v9] (.int x :: st) M Q := zq_go (i := .iload 4) (by decide +kernel) rfl
theorem q50_96 : zQ 50 96 L (.int x2 :: .int x1 :: .ref r1 :: .ref a :: st) M Q ↔ (zcs st ≤ 8 ∧ a < zNC ∧ zk a = 5) ∧ zQ 79 0 [.ref a, .ref r1, .int x1, .int x2, .null, .null, .null] [] M (fun r M1 => zQ 50 99 L (zpush r st) M1 Q) := zq_callV (n := 140) (j := 79) (b := false) (As := [.ref r1, .int x1, .int x2]) (by decide +kernel) (by decide +kernel) ⟨by decide +kernel, by decide +kernel, rfl, by decide +kernel, by decide +kernel, Nat.le_of_ble_eq_true rfl⟩ rfl
theorem q50_99i : zQ 50 99 [v0, v1, v2, v3, v4, v5, v6, .int y, v8, v9] (.int x :: st) M Q ↔ zQ 50 101 [v0, v1, v2, v3, v4, v5, v6, .int y, .int x, v9] st M Q := zq_stI (i := .istore 8) (k := 8) (by decide +kernel) rfl (Nat.le_of_ble_eq_true rfl) rfl rfl
theorem q50_99r : zQ 50 99 [v0, v1, v2, v3, v4, v5, v6, .ref r1, v8, v9] (.int x :: st) M Q ↔ zQ 50 101 [v0, v1, v2, v3, v4, v5, v6, .ref r1, .int x, v9] st M Q := zq_stI (i := .istore 8) (k := 8) (by decide +kernel) rfl (Nat.le_of_ble_eq_true rfl) rfl rfl
theorem q50_99n : zQ 50 99 [v0, v1, v2, v3, v4, v5, v6, .null, v8, v9] (.int x :: st) M Q ↔ zQ 50 101 [v0, v1, v2, v3, v4, v5, v6, .null, .int x, v9] st M Q := zq_stI (i := .istore 8) (k := 8) (by decide +kernel) rfl (Nat.le_of_ble_eq_true rfl) rfl rfl
theorem q50_101 : zQ 50 101 [v0, v1, v2, v3, v4, v5, v6, v7, .int x, v9] st M Q ↔ zQ 50 103 [v0, v1, v2, v3, v4, v5, v6, v7, .int x, v9] (.int x :: st) M Q := zq_go (i := .iload 8) (by decide +kernel) rfl
theorem q50_103 : zQ 50 103 L (.int x :: st) M Q ↔ (x = 0 → zQ 50 109 L st M Q) ∧ (¬ x = 0 → zQ 50 106 L st M Q) := zq_br (i := .ifCond .eq 6) (off := 6) (by decide +kernel) rfl (by decide) rfl
theorem q50_106 : zQ 50 106 [v0, v1, v2, v3, v4, v5, v6, v7, .int x, v9] st M Q ↔ zQ 50 108 [v0, v1, v2, v3, v4, v5, v6, v7, .int x, v9] (.int x :: st) M Q := zq_go (i := .iload 8) (by decide +kernel) rfl
theorem q50_108 : zQ 50 108 L [.int x] M Q ↔ Q (zI x) M := zq_reI (by decide +kernel) (by decide +kernel)
theorem q50_109 : zQ 50 109 [.ref a, v1, v2, v3, v4, v5, v6, v7, v8, v9] st M Q ↔ zQ 50 110 [.ref a, v1, v2, v3, v4, v5, v6, v7, v8, v9] (.ref a :: st) M Q := zq_go (i := .aload_n 0) (by decide +kernel) rfl
theorem q50_110 : zQ 50 110 L (.ref a :: st) M Q ↔ (a < zNC ∧ zk a = 5) ∧ zQ 50 113 L (zfv a 2 M :: st) M Q := zq_getf (n := 24) (b := false) (by decide +kernel) (by decide +kernel)
theorem q50_113 : zQ 50 113 [.ref a, v1, v2, v3, v4, v5, v6, v7, v8, v9] st M Q ↔ zQ 50 114 [.ref a, v1, v2, v3, v4, v5, v6, v7, v8, v9] (.ref a :: st) M Q := zq_go (i := .aload_n 0) (by decide +kernel) rfl
theorem q50_114 : zQ 50 114 L (.ref a :: st) M Q ↔ (a < zNC ∧ zk a = 5) ∧ zQ 50 117 L (zfv a 0 M :: st) M Q := zq_getf (n := 12) (b := false) (by decide +kernel) (by decide +kernel)
theorem q50_117 : zQ 50 117 [v0, v1, v2, v3, v4, v5, .ref a, v7, v8, v9] st M Q ↔ zQ 50 119 [v0, v1, v2, v3, v4, v5, .ref a, v7, v8, v9] (.ref a :: st) M Q := zq_go (i := .aload 6) (by decide +kernel) rfl
theorem q50_119 : zQ 50 119 [v0, v1, v2, .int x, v4, v5, v6, v7, v8, v9] st M Q ↔ zQ 50 120 [v0, v1, v2, .int x, v4, v5, v6, v7, v8, v9] (.int x :: st) M Q := zq_go (i := .iload_n 3) (by decide +kernel) rfl
theorem q50_120 : zQ 50 120 [v0, v1, v2, v3, .int x, v5, v6, v7, v8, v9] st M Q ↔ zQ 50 122 [v0, v1, v2, v3, .int x, v5, v6, v7, v8, v9] (.int x :: st) M Q := zq_go (i := .iload 4) (by decide +kernel) rfl
theorem q50_122 : zQ 50 122 L (.int x2 :: .int x1 :: .ref r2 :: .ref r1 :: .ref a :: st) M Q ↔ (zcs st ≤ 8 ∧ a < zNC ∧ zk a = 3) ∧ zQ 12 0 [.ref a, .ref r1, .ref r2, .int x1, .int x2, .null] [] M (fun r M1 => zQ 50 125 L (zpush r st) M1 Q) := zq_callV (n := 143) (j := 12) (b := true) (As := [.ref r1, .ref r2, .int x1, .int x2]) (by decide +kernel) (by decide +kernel) ⟨by decide +kernel, by decide +kernel, rfl, by decide +kernel, by decide +kernel, Nat.le_of_ble_eq_true rfl⟩ rfl
theorem q50_125i : zQ 50 125 [v0, v1, v2, v3, v4, v5, v6, v7, .int y, v9] (.int x :: st) M Q ↔ zQ 50 127 [v0, v1, v2, v3, v4, v5, v6, v7, .int y, .int x] st M Q := zq_stI (i := .istore 9) (k := 9) (by decide +kernel) rfl (Nat.le_of_ble_eq_true rfl) rfl rfl
theorem q50_125r : zQ 50 125 [v0, v1, v2, v3, v4, v5, v6, v7, .ref r1, v9] (.int x :: st) M Q ↔ zQ 50 127 [v0, v1, v2, v3, v4, v5, v6, v7, .ref r1, .int x] st M Q := zq_stI (i := .istore 9) (k := 9) (by decide +kernel) rfl (Nat.le_of_ble_eq_true rfl) rfl rfl
theorem q50_125n : zQ 50 125 [v0, v1, v2, v3, v4, v5, v6, v7, .null, v9] (.int x :: st) M Q ↔ zQ 50 127 [v0, v1, v2, v3, v4, v5, v6, v7, .null, .int x] st M Q := zq_stI (i := .istore 9) (k := 9) (by decide +kernel) rfl (Nat.le_of_ble_eq_true rfl) rfl rfl
theorem q50_127 : zQ 50 127 [v0, v1, v2, v3, v4, .int x, v6, v7, v8, v9] st M Q ↔ zQ 50 129 [v0, v1, v2, v3, v4, .int x, v6, v7, v8, v9] (.int x :: st) M Q := zq_go (i := .iload 5) (by decide +kernel) rfl
theorem q50_129 : zQ 50 129 L st M Q ↔ zQ 50 130 L (.int 1 :: st) M Q := zq_con (n := 1) (by decide +kernel) (by decide +kernel) rfl
theorem q50_130 : zQ 50 130 L (.int y :: .int x :: st) M Q ↔ (x = y → zQ 50 133 L st M Q) ∧ (¬ x = y → zQ 50 136 L st M Q) := zq_bn (i := .if_icmp .ne 6) (off := 6) (by decide +kernel) rfl (by decide) rfl
theorem q50_133 : zQ 50 133 [v0, v1, v2, v3, v4, v5, v6, v7, v8, .int x] st M Q ↔ zQ 50 135 [v0, v1, v2, v3, v4, v5, v6, v7, v8, .int x] (.int x :: st) M Q := zq_go (i := .iload 9) (by decide +kernel) rfl
theorem q50_135 : zQ 50 135 L [.int x] M Q ↔ Q (zI x) M := zq_reI (by decide +kernel) (by decide +kernel)
theorem q50_136 : zQ 50 136 [v0, v1, v2, v3, v4, v5, v6, v7, v8, .int x] st M Q ↔ zQ 50 138 [v0, v1, v2, v3, v4, v5, v6, v7, v8, .int x] (.int x :: st) M Q := zq_go (i := .iload 9) (by decide +kernel) rfl
theorem q50_138 : zQ 50 138 L st M Q ↔ zQ 50 140 L (.int (-9) :: st) M Q := zq_bip (n := (-9)) (by decide +kernel) (by decide +kernel) rfl
theorem q50_140 : zQ 50 140 L (.int y :: .int x :: st) M Q ↔ (x = y → zQ 50 143 L st M Q) ∧ (¬ x = y → zQ 50 155 L st M Q) := zq_bn (i := .if_icmp .ne 15) (off := 15) (by decide +kernel) rfl (by decide) rfl
theorem q50_143 : zQ 50 143 [.ref a, v1, v2, v3, v4, v5, v6, v7, v8, v9] st M Q ↔ zQ 50 144 [.ref a, v1, v2, v3, v4, v5, v6, v7, v8, v9] (.ref a :: st) M Q := zq_go (i := .aload_n 0) (by decide +kernel) rfl
theorem q50_144 : zQ 50 144 L (.ref a :: st) M Q ↔ (a < zNC ∧ zk a = 5) ∧ zQ 50 147 L (zfv a 2 M :: st) M Q := zq_getf (n := 24) (b := false) (by decide +kernel) (by decide +kernel)
theorem q50_147 : zQ 50 147 [v0, v1, v2, v3, v4, .int x, v6, v7, v8, v9] st M Q ↔ zQ 50 149 [v0, v1, v2, v3, v4, .int x, v6, v7, v8, v9] (.int x :: st) M Q := zq_go (i := .iload 5) (by decide +kernel) rfl
theorem q50_149 : zQ 50 149 L (.int x1 :: .ref a :: st) M Q ↔ (zcs st ≤ 8 ∧ a < zNC ∧ zk a = 3) ∧ zQ 16 0 [.ref a, .int x1] [] M (fun r M1 => zQ 50 152 L (zpush r st) M1 Q) := zq_callV (n := 147) (j := 16) (b := true) (As := [.int x1]) (by decide +kernel) (by decide +kernel) ⟨by decide +kernel, by decide +kernel, rfl, by decide +kernel, by decide +kernel, Nat.le_of_ble_eq_true rfl⟩ rfl
theorem q50_152 : zQ 50 152 L st M Q ↔ zQ 50 160 L st M Q := zq_jmp (off := 8) (by decide +kernel) (by decide)
theorem q50_155 : zQ 50 155 L st M Q ↔ zQ 50 157 L (.int (-100) :: st) M Q := zq_bip (n := (-100)) (by decide +kernel) (by decide +kernel) rfl
theorem q50_157 : zQ 50 157 [v0, v1, v2, v3, v4, v5, v6, v7, v8, .int x] st M Q ↔ zQ 50 159 [v0, v1, v2, v3, v4, v5, v6, v7, v8, .int x] (.int x :: st) M Q := zq_go (i := .iload 9) (by decide +kernel) rfl
theorem q50_159 : zQ 50 159 L (.int y :: .int x :: st) M Q ↔ zQ 50 160 L (.int (x - y) :: st) M Q := zq_go (i := .isub) (by decide +kernel) rfl
theorem q50_160 : zQ 50 160 L [.int x] M Q ↔ Q (zI x) M := zq_reI (by decide +kernel) (by decide +kernel)
-- 51 SandKeepers.ring(I)I
theorem q51_0 : zQ 51 0 [.ref a, v1] st M Q ↔ zQ 51 1 [.ref a, v1] (.ref a :: st) M Q := zq_go (i := .aload_n 0) (by decide +kernel) rfl
theorem q51_1 : zQ 51 1 L (.ref a :: st) M Q ↔ (a < zNC ∧ zk a = 5) ∧ zQ 51 4 L (zfv a 0 M :: st) M Q := zq_getf (n := 12) (b := false) (by decide +kernel) (by decide +kernel)
theorem q51_4 : zQ 51 4 [v0, .int x] st M Q ↔ zQ 51 5 [v0, .int x] (.int x :: st) M Q := zq_go (i := .iload_n 1) (by decide +kernel) rfl
theorem q51_5 : zQ 51 5 L (.int x1 :: .ref a :: st) M Q ↔ (zcs st ≤ 8 ∧ a < zNC ∧ zk a = 4) ∧ zQ 17 0 [.ref a, .int x1] [] M (fun r M1 => zQ 51 8 L (zpush r st) M1 Q) := zq_callV (n := 79) (j := 17) (b := true) (As := [.int x1]) (by decide +kernel) (by decide +kernel) ⟨by decide +kernel, by decide +kernel, rfl, by decide +kernel, by decide +kernel, Nat.le_of_ble_eq_true rfl⟩ rfl
theorem q51_8 : zQ 51 8 L (.int x :: st) M Q ↔ (x = 0 → zQ 51 23 L st M Q) ∧ (¬ x = 0 → zQ 51 11 L st M Q) := zq_br (i := .ifCond .eq 15) (off := 15) (by decide +kernel) rfl (by decide) rfl
theorem q51_11 : zQ 51 11 [.ref a, v1] st M Q ↔ zQ 51 12 [.ref a, v1] (.ref a :: st) M Q := zq_go (i := .aload_n 0) (by decide +kernel) rfl
theorem q51_12 : zQ 51 12 L (.ref a :: st) M Q ↔ (a < zNC ∧ zk a = 5) ∧ zQ 51 15 L (zfv a 0 M :: st) M Q := zq_getf (n := 12) (b := false) (by decide +kernel) (by decide +kernel)
theorem q51_15 : zQ 51 15 [v0, .int x] st M Q ↔ zQ 51 16 [v0, .int x] (.int x :: st) M Q := zq_go (i := .iload_n 1) (by decide +kernel) rfl
theorem q51_16 : zQ 51 16 [v0, .int x] st M Q ↔ zQ 51 17 [v0, .int x] (.int x :: st) M Q := zq_go (i := .iload_n 1) (by decide +kernel) rfl
theorem q51_17 : zQ 51 17 L (.int x2 :: .int x1 :: .ref a :: st) M Q ↔ (zcs st ≤ 8 ∧ a < zNC ∧ zk a = 4) ∧ zQ 36 0 [.ref a, .int x1, .int x2, .null, .null] [] M (fun r M1 => zQ 51 20 L (zpush r st) M1 Q) := zq_callV (n := 150) (j := 36) (b := true) (As := [.int x1, .int x2]) (by decide +kernel) (by decide +kernel) ⟨by decide +kernel, by decide +kernel, rfl, by decide +kernel, by decide +kernel, Nat.le_of_ble_eq_true rfl⟩ rfl
theorem q51_20 : zQ 51 20 L st M Q ↔ zQ 51 24 L st M Q := zq_jmp (off := 4) (by decide +kernel) (by decide)
theorem q51_23 : zQ 51 23 L st M Q ↔ zQ 51 24 L (.int (-1) :: st) M Q := zq_con (n := (-1)) (by decide +kernel) (by decide +kernel) rfl
theorem q51_24 : zQ 51 24 L [.int x] M Q ↔ Q (zI x) M := zq_reI (by decide +kernel) (by decide +kernel)
-- 52 SandKeepers.reach(II)I
theorem q52_0 : zQ 52 0 [.ref a, v1, v2] st M Q ↔ zQ 52 1 [.ref a, v1, v2] (.ref a :: st) M Q := zq_go (i := .aload_n 0) (by decide +kernel) rfl
theorem q52_1 : zQ 52 1 L (.ref a :: st) M Q ↔ (a < zNC ∧ zk a = 5) ∧ zQ 52 4 L (zfv a 0 M :: st) M Q := zq_getf (n := 12) (b := false) (by decide +kernel) (by decide +kernel)
theorem q52_4 : zQ 52 4 [v0, .int x, v2] st M Q ↔ zQ 52 5 [v0, .int x, v2] (.int x :: st) M Q := zq_go (i := .iload_n 1) (by decide +kernel) rfl
theorem q52_5 : zQ 52 5 L (.int x1 :: .ref a :: st) M Q ↔ (zcs st ≤ 8 ∧ a < zNC ∧ zk a = 4) ∧ zQ 17 0 [.ref a, .int x1] [] M (fun r M1 => zQ 52 8 L (zpush r st) M1 Q) := zq_callV (n := 79) (j := 17) (b := true) (As := [.int x1]) (by decide +kernel) (by decide +kernel) ⟨by decide +kernel, by decide +kernel, rfl, by decide +kernel, by decide +kernel, Nat.le_of_ble_eq_true rfl⟩ rfl
theorem q52_8 : zQ 52 8 L (.int x :: st) M Q ↔ (x = 0 → zQ 52 34 L st M Q) ∧ (¬ x = 0 → zQ 52 11 L st M Q) := zq_br (i := .ifCond .eq 26) (off := 26) (by decide +kernel) rfl (by decide) rfl
theorem q52_11 : zQ 52 11 [.ref a, v1, v2] st M Q ↔ zQ 52 12 [.ref a, v1, v2] (.ref a :: st) M Q := zq_go (i := .aload_n 0) (by decide +kernel) rfl
theorem q52_12 : zQ 52 12 L (.ref a :: st) M Q ↔ (a < zNC ∧ zk a = 5) ∧ zQ 52 15 L (zfv a 0 M :: st) M Q := zq_getf (n := 12) (b := false) (by decide +kernel) (by decide +kernel)
theorem q52_15 : zQ 52 15 [v0, v1, .int x] st M Q ↔ zQ 52 16 [v0, v1, .int x] (.int x :: st) M Q := zq_go (i := .iload_n 2) (by decide +kernel) rfl
theorem q52_16 : zQ 52 16 L (.int x1 :: .ref a :: st) M Q ↔ (zcs st ≤ 8 ∧ a < zNC ∧ zk a = 4) ∧ zQ 17 0 [.ref a, .int x1] [] M (fun r M1 => zQ 52 19 L (zpush r st) M1 Q) := zq_callV (n := 79) (j := 17) (b := true) (As := [.int x1]) (by decide +kernel) (by decide +kernel) ⟨by decide +kernel, by decide +kernel, rfl, by decide +kernel, by decide +kernel, Nat.le_of_ble_eq_true rfl⟩ rfl
theorem q52_19 : zQ 52 19 L (.int x :: st) M Q ↔ (x = 0 → zQ 52 34 L st M Q) ∧ (¬ x = 0 → zQ 52 22 L st M Q) := zq_br (i := .ifCond .eq 15) (off := 15) (by decide +kernel) rfl (by decide) rfl
theorem q52_22 : zQ 52 22 [.ref a, v1, v2] st M Q ↔ zQ 52 23 [.ref a, v1, v2] (.ref a :: st) M Q := zq_go (i := .aload_n 0) (by decide +kernel) rfl
theorem q52_23 : zQ 52 23 L (.ref a :: st) M Q ↔ (a < zNC ∧ zk a = 5) ∧ zQ 52 26 L (zfv a 0 M :: st) M Q := zq_getf (n := 12) (b := false) (by decide +kernel) (by decide +kernel)
theorem q52_26 : zQ 52 26 [v0, .int x, v2] st M Q ↔ zQ 52 27 [v0, .int x, v2] (.int x :: st) M Q := zq_go (i := .iload_n 1) (by decide +kernel) rfl
theorem q52_27 : zQ 52 27 [v0, v1, .int x] st M Q ↔ zQ 52 28 [v0, v1, .int x] (.int x :: st) M Q := zq_go (i := .iload_n 2) (by decide +kernel) rfl
theorem q52_28 : zQ 52 28 L (.int x2 :: .int x1 :: .ref a :: st) M Q ↔ (zcs st ≤ 8 ∧ a < zNC ∧ zk a = 4) ∧ zQ 36 0 [.ref a, .int x1, .int x2, .null, .null] [] M (fun r M1 => zQ 52 31 L (zpush r st) M1 Q) := zq_callV (n := 150) (j := 36) (b := true) (As := [.int x1, .int x2]) (by decide +kernel) (by decide +kernel) ⟨by decide +kernel, by decide +kernel, rfl, by decide +kernel, by decide +kernel, Nat.le_of_ble_eq_true rfl⟩ rfl
theorem q52_31 : zQ 52 31 L st M Q ↔ zQ 52 35 L st M Q := zq_jmp (off := 4) (by decide +kernel) (by decide)
theorem q52_34 : zQ 52 34 L st M Q ↔ zQ 52 35 L (.int (-1) :: st) M Q := zq_con (n := (-1)) (by decide +kernel) (by decide +kernel) rfl
theorem q52_35 : zQ 52 35 L [.int x] M Q ↔ Q (zI x) M := zq_reI (by decide +kernel) (by decide +kernel)
-- 53 SandKeepers.keeping(I)I
theorem q53_0 : zQ 53 0 [v0, .int x] st M Q ↔ zQ 53 1 [v0, .int x] (.int x :: st) M Q := zq_go (i := .iload_n 1) (by decide +kernel) rfl
theorem q53_1 : zQ 53 1 L st M Q ↔ zQ 53 2 L (.int (-1) :: st) M Q := zq_con (n := (-1)) (by decide +kernel) (by decide +kernel) rfl
theorem q53_2 : zQ 53 2 L (.int y :: .int x :: st) M Q ↔ (x < y → zQ 53 11 L st M Q) ∧ (¬ x < y → zQ 53 5 L st M Q) := zq_br (i := .if_icmp .lt 9) (off := 9) (by decide +kernel) rfl (by decide) rfl
theorem q53_5 : zQ 53 5 [v0, .int x] st M Q ↔ zQ 53 6 [v0, .int x] (.int x :: st) M Q := zq_go (i := .iload_n 1) (by decide +kernel) rfl
theorem q53_6 : zQ 53 6 L st M Q ↔ zQ 53 8 L (.int 6 :: st) M Q := zq_bip (n := 6) (by decide +kernel) (by decide +kernel) rfl
theorem q53_8 : zQ 53 8 L (.int y :: .int x :: st) M Q ↔ (x < y → zQ 53 14 L st M Q) ∧ (¬ x < y → zQ 53 11 L st M Q) := zq_br (i := .if_icmp .lt 6) (off := 6) (by decide +kernel) rfl (by decide) rfl
theorem q53_11 : zQ 53 11 L st M Q ↔ zQ 53 13 L (.int (-2) :: st) M Q := zq_bip (n := (-2)) (by decide +kernel) (by decide +kernel) rfl
theorem q53_13 : zQ 53 13 L [.int x] M Q ↔ Q (zI x) M := zq_reI (by decide +kernel) (by decide +kernel)
theorem q53_14 : zQ 53 14 [.ref a, v1] st M Q ↔ zQ 53 15 [.ref a, v1] (.ref a :: st) M Q := zq_go (i := .aload_n 0) (by decide +kernel) rfl
theorem q53_15 : zQ 53 15 L (.ref a :: st) M Q ↔ (a < zNC ∧ zk a = 5) ∧ zQ 53 18 L (zfv a 0 M :: st) M Q := zq_getf (n := 12) (b := false) (by decide +kernel) (by decide +kernel)
theorem q53_18 : zQ 53 18 L (.ref a :: st) M Q ↔ (a < zNC ∧ zk a = 4) ∧ zQ 53 21 L (zfv a 7 M :: st) M Q := zq_getf (n := 76) (b := true) (by decide +kernel) (by decide +kernel)
theorem q53_21 : zQ 53 21 L (.int x :: st) M Q ↔ (x = 0 → zQ 53 24 L st M Q) ∧ (¬ x = 0 → zQ 53 27 L st M Q) := zq_bn (i := .ifCond .ne 6) (off := 6) (by decide +kernel) rfl (by decide) rfl
theorem q53_24 : zQ 53 24 L st M Q ↔ zQ 53 26 L (.int (-3) :: st) M Q := zq_bip (n := (-3)) (by decide +kernel) (by decide +kernel) rfl
theorem q53_26 : zQ 53 26 L [.int x] M Q ↔ Q (zI x) M := zq_reI (by decide +kernel) (by decide +kernel)
theorem q53_27 : zQ 53 27 [v0, .int x] st M Q ↔ zQ 53 28 [v0, .int x] (.int x :: st) M Q := zq_go (i := .iload_n 1) (by decide +kernel) rfl
theorem q53_28 : zQ 53 28 [.ref a, v1] st M Q ↔ zQ 53 29 [.ref a, v1] (.ref a :: st) M Q := zq_go (i := .aload_n 0) (by decide +kernel) rfl
theorem q53_29 : zQ 53 29 L (.ref a :: st) M Q ↔ (a < zNC ∧ zk a = 5) ∧ zQ 53 32 L (zfv a 0 M :: st) M Q := zq_getf (n := 12) (b := false) (by decide +kernel) (by decide +kernel)
theorem q53_32 : zQ 53 32 L (.ref a :: st) M Q ↔ (a < zNC ∧ zk a = 4) ∧ zQ 53 35 L (zfv a 7 M :: st) M Q := zq_getf (n := 76) (b := true) (by decide +kernel) (by decide +kernel)
theorem q53_35 : zQ 53 35 L (.int y :: .int x :: st) M Q ↔ (x < y → zQ 53 41 L st M Q) ∧ (¬ x < y → zQ 53 38 L st M Q) := zq_br (i := .if_icmp .lt 6) (off := 6) (by decide +kernel) rfl (by decide) rfl
theorem q53_38 : zQ 53 38 L st M Q ↔ zQ 53 40 L (.int (-9) :: st) M Q := zq_bip (n := (-9)) (by decide +kernel) (by decide +kernel) rfl
theorem q53_40 : zQ 53 40 L [.int x] M Q ↔ Q (zI x) M := zq_reI (by decide +kernel) (by decide +kernel)
theorem q53_41 : zQ 53 41 [.ref a, v1] st M Q ↔ zQ 53 42 [.ref a, v1] (.ref a :: st) M Q := zq_go (i := .aload_n 0) (by decide +kernel) rfl
theorem q53_42 : zQ 53 42 L (.ref a :: st) M Q ↔ (a < zNC ∧ zk a = 5) ∧ zQ 53 45 L (zfv a 3 M :: st) M Q := zq_getf (n := 31) (b := false) (by decide +kernel) (by decide +kernel)
theorem q53_45 : zQ 53 45 [.ref a, v1] st M Q ↔ zQ 53 46 [.ref a, v1] (.ref a :: st) M Q := zq_go (i := .aload_n 0) (by decide +kernel) rfl
theorem q53_46 : zQ 53 46 L (.ref a :: st) M Q ↔ (a < zNC ∧ zk a = 5) ∧ zQ 53 49 L (zfv a 0 M :: st) M Q := zq_getf (n := 12) (b := false) (by decide +kernel) (by decide +kernel)
theorem q53_49 : zQ 53 49 L (.ref r1 :: .ref a :: st) M Q ↔ (zcs st ≤ 8 ∧ a < zNC ∧ zk a = 1) ∧ zQ 3 0 [.ref a, .ref r1, .null, .null, .null, .null] [] M (fun r M1 => zQ 53 52 L (zpush r st) M1 Q) := zq_callV (n := 153) (j := 3) (b := true) (As := [.ref r1]) (by decide +kernel) (by decide +kernel) ⟨by decide +kernel, by decide +kernel, rfl, by decide +kernel, by decide +kernel, Nat.le_of_ble_eq_true rfl⟩ rfl
theorem q53_52 : zQ 53 52 [v0, .int x] st M Q ↔ zQ 53 53 [v0, .int x] (.int x :: st) M Q := zq_go (i := .iload_n 1) (by decide +kernel) rfl
theorem q53_53 : zQ 53 53 L st M Q ↔ zQ 53 54 L (.int (-1) :: st) M Q := zq_con (n := (-1)) (by decide +kernel) (by decide +kernel) rfl
theorem q53_54 : zQ 53 54 L (.int y :: .int x :: st) M Q ↔ (x = y → zQ 53 57 L st M Q) ∧ (¬ x = y → zQ 53 69 L st M Q) := zq_bn (i := .if_icmp .ne 15) (off := 15) (by decide +kernel) rfl (by decide) rfl
theorem q53_57 : zQ 53 57 [.ref a, v1] st M Q ↔ zQ 53 58 [.ref a, v1] (.ref a :: st) M Q := zq_go (i := .aload_n 0) (by decide +kernel) rfl
theorem q53_58 : zQ 53 58 L (.ref a :: st) M Q ↔ (a < zNC ∧ zk a = 5) ∧ zQ 53 61 L (zfv a 3 M :: st) M Q := zq_getf (n := 31) (b := false) (by decide +kernel) (by decide +kernel)
theorem q53_61 : zQ 53 61 L (.ref a :: st) M Q ↔ (a < zNC ∧ zk a = 1) ∧ zQ 53 64 L (zfv a 0 M :: st) M Q := zq_getf (n := 156) (b := true) (by decide +kernel) (by decide +kernel)
theorem q53_64 : zQ 53 64 L st M Q ↔ zQ 53 65 L (.int 0 :: st) M Q := zq_con (n := 0) (by decide +kernel) (by decide +kernel) rfl
theorem q53_65 : zQ 53 65 L (.int x :: .ref a :: st) M Q ↔ (a < zNC ∧ zk a = 7 ∧ zin x (zn a) = true) ∧ zQ 53 66 L (.int (M a x.toNatClampNeg) :: st) M Q := zq_iald (by decide +kernel)
theorem q53_66 : zQ 53 66 L st M Q ↔ zQ 53 81 L st M Q := zq_jmp (off := 15) (by decide +kernel) (by decide)
theorem q53_69 : zQ 53 69 [.ref a, v1] st M Q ↔ zQ 53 70 [.ref a, v1] (.ref a :: st) M Q := zq_go (i := .aload_n 0) (by decide +kernel) rfl
theorem q53_70 : zQ 53 70 L (.ref a :: st) M Q ↔ (a < zNC ∧ zk a = 5) ∧ zQ 53 73 L (zfv a 3 M :: st) M Q := zq_getf (n := 31) (b := false) (by decide +kernel) (by decide +kernel)
theorem q53_73 : zQ 53 73 [v0, .int x] st M Q ↔ zQ 53 74 [v0, .int x] (.int x :: st) M Q := zq_go (i := .iload_n 1) (by decide +kernel) rfl
theorem q53_74 : zQ 53 74 [.ref a, v1] st M Q ↔ zQ 53 75 [.ref a, v1] (.ref a :: st) M Q := zq_go (i := .aload_n 0) (by decide +kernel) rfl
theorem q53_75 : zQ 53 75 L (.ref a :: st) M Q ↔ (a < zNC ∧ zk a = 5) ∧ zQ 53 78 L (zfv a 0 M :: st) M Q := zq_getf (n := 12) (b := false) (by decide +kernel) (by decide +kernel)
theorem q53_78 : zQ 53 78 L (.ref r1 :: .int x1 :: .ref a :: st) M Q ↔ (zcs st ≤ 8 ∧ a < zNC ∧ zk a = 1) ∧ zQ 5 0 [.ref a, .int x1, .ref r1, .null, .null, .null] [] M (fun r M1 => zQ 53 81 L (zpush r st) M1 Q) := zq_callV (n := 159) (j := 5) (b := true) (As := [.int x1, .ref r1]) (by decide +kernel) (by decide +kernel) ⟨by decide +kernel, by decide +kernel, rfl, by decide +kernel, by decide +kernel, Nat.le_of_ble_eq_true rfl⟩ rfl
theorem q53_81 : zQ 53 81 L [.int x] M Q ↔ Q (zI x) M := zq_reI (by decide +kernel) (by decide +kernel)
-- 54 SandKeepers.trade(I)I
theorem q54_0 : zQ 54 0 [v0, .int x, v2, v3, v4, v5, v6, v7] st M Q ↔ zQ 54 1 [v0, .int x, v2, v3, v4, v5, v6, v7] (.int x :: st) M Q := zq_go (i := .iload_n 1) (by decide +kernel) rfl
theorem q54_1 : zQ 54 1 L st M Q ↔ zQ 54 2 L (.int 3 :: st) M Q := zq_con (n := 3) (by decide +kernel) (by decide +kernel) rfl
theorem q54_2 : zQ 54 2 L (.int x2 :: .int x1 :: st) M Q ↔ zcs st ≤ 8 ∧ zQ 74 0 [.int x1, .int x2] [] M (fun r M1 => zQ 54 5 L (zpush r st) M1 Q) := zq_callS (n := 53) (j := 74) (b := false) (As := [.int x1, .int x2]) (by decide +kernel) (by decide +kernel) ⟨by decide +kernel, by decide +kernel, rfl, by decide +kernel, by decide +kernel, Nat.le_of_ble_eq_true rfl⟩ rfl
theorem q54_5 : zQ 54 5 L (.int x :: st) M Q ↔ (x = 0 → zQ 54 8 L st M Q) ∧ (¬ x = 0 → zQ 54 11 L st M Q) := zq_bn (i := .ifCond .ne 6) (off := 6) (by decide +kernel) rfl (by decide) rfl
theorem q54_8 : zQ 54 8 L st M Q ↔ zQ 54 10 L (.int (-2) :: st) M Q := zq_bip (n := (-2)) (by decide +kernel) (by decide +kernel) rfl
theorem q54_10 : zQ 54 10 L [.int x] M Q ↔ Q (zI x) M := zq_reI (by decide +kernel) (by decide +kernel)
theorem q54_11 : zQ 54 11 [.ref a, v1, v2, v3, v4, v5, v6, v7] st M Q ↔ zQ 54 12 [.ref a, v1, v2, v3, v4, v5, v6, v7] (.ref a :: st) M Q := zq_go (i := .aload_n 0) (by decide +kernel) rfl
theorem q54_12 : zQ 54 12 L (.ref a :: st) M Q ↔ (a < zNC ∧ zk a = 5) ∧ zQ 54 15 L (zfv a 0 M :: st) M Q := zq_getf (n := 12) (b := false) (by decide +kernel) (by decide +kernel)
theorem q54_15 : zQ 54 15 L (.ref a :: st) M Q ↔ (a < zNC ∧ zk a = 4) ∧ zQ 54 18 L (zfv a 7 M :: st) M Q := zq_getf (n := 76) (b := true) (by decide +kernel) (by decide +kernel)
theorem q54_18 : zQ 54 18 L (.int x :: st) M Q ↔ (x = 0 → zQ 54 21 L st M Q) ∧ (¬ x = 0 → zQ 54 24 L st M Q) := zq_bn (i := .ifCond .ne 6) (off := 6) (by decide +kernel) rfl (by decide) rfl
theorem q54_21 : zQ 54 21 L st M Q ↔ zQ 54 23 L (.int (-3) :: st) M Q := zq_bip (n := (-3)) (by decide +kernel) (by decide +kernel) rfl
theorem q54_23 : zQ 54 23 L [.int x] M Q ↔ Q (zI x) M := zq_reI (by decide +kernel) (by decide +kernel)
theorem q54_24 : zQ 54 24 L st M Q ↔ zQ 54 25 L (.int 0 :: st) M Q := zq_con (n := 0) (by decide +kernel) (by decide +kernel) rfl
theorem q54_25i : zQ 54 25 [v0, .int y, v2, v3, v4, v5, v6, v7] (.int x :: st) M Q ↔ zQ 54 26 [v0, .int y, .int x, v3, v4, v5, v6, v7] st M Q := zq_stI (i := .istore_n 2) (k := 2) (by decide +kernel) rfl (Nat.le_of_ble_eq_true rfl) rfl rfl
theorem q54_25r : zQ 54 25 [v0, .ref r1, v2, v3, v4, v5, v6, v7] (.int x :: st) M Q ↔ zQ 54 26 [v0, .ref r1, .int x, v3, v4, v5, v6, v7] st M Q := zq_stI (i := .istore_n 2) (k := 2) (by decide +kernel) rfl (Nat.le_of_ble_eq_true rfl) rfl rfl
theorem q54_25n : zQ 54 25 [v0, .null, v2, v3, v4, v5, v6, v7] (.int x :: st) M Q ↔ zQ 54 26 [v0, .null, .int x, v3, v4, v5, v6, v7] st M Q := zq_stI (i := .istore_n 2) (k := 2) (by decide +kernel) rfl (Nat.le_of_ble_eq_true rfl) rfl rfl
theorem q54_26 : zQ 54 26 L st M Q ↔ zQ 54 28 L (.int (-9) :: st) M Q := zq_bip (n := (-9)) (by decide +kernel) (by decide +kernel) rfl
theorem q54_28i : zQ 54 28 [v0, v1, .int y, v3, v4, v5, v6, v7] (.int x :: st) M Q ↔ zQ 54 29 [v0, v1, .int y, .int x, v4, v5, v6, v7] st M Q := zq_stI (i := .istore_n 3) (k := 3) (by decide +kernel) rfl (Nat.le_of_ble_eq_true rfl) rfl rfl
theorem q54_28r : zQ 54 28 [v0, v1, .ref r1, v3, v4, v5, v6, v7] (.int x :: st) M Q ↔ zQ 54 29 [v0, v1, .ref r1, .int x, v4, v5, v6, v7] st M Q := zq_stI (i := .istore_n 3) (k := 3) (by decide +kernel) rfl (Nat.le_of_ble_eq_true rfl) rfl rfl
theorem q54_28n : zQ 54 28 [v0, v1, .null, v3, v4, v5, v6, v7] (.int x :: st) M Q ↔ zQ 54 29 [v0, v1, .null, .int x, v4, v5, v6, v7] st M Q := zq_stI (i := .istore_n 3) (k := 3) (by decide +kernel) rfl (Nat.le_of_ble_eq_true rfl) rfl rfl
theorem q54_29 : zQ 54 29 L st M Q ↔ zQ 54 31 L (.int (-9) :: st) M Q := zq_bip (n := (-9)) (by decide +kernel) (by decide +kernel) rfl
theorem q54_31i : zQ 54 31 [v0, v1, v2, .int y, v4, v5, v6, v7] (.int x :: st) M Q ↔ zQ 54 33 [v0, v1, v2, .int y, .int x, v5, v6, v7] st M Q := zq_stI (i := .istore 4) (k := 4) (by decide +kernel) rfl (Nat.le_of_ble_eq_true rfl) rfl rfl
theorem q54_31r : zQ 54 31 [v0, v1, v2, .ref r1, v4, v5, v6, v7] (.int x :: st) M Q ↔ zQ 54 33 [v0, v1, v2, .ref r1, .int x, v5, v6, v7] st M Q := zq_stI (i := .istore 4) (k := 4) (by decide +kernel) rfl (Nat.le_of_ble_eq_true rfl) rfl rfl
theorem q54_31n : zQ 54 31 [v0, v1, v2, .null, v4, v5, v6, v7] (.int x :: st) M Q ↔ zQ 54 33 [v0, v1, v2, .null, .int x, v5, v6, v7] st M Q := zq_stI (i := .istore 4) (k := 4) (by decide +kernel) rfl (Nat.le_of_ble_eq_true rfl) rfl rfl
theorem q54_33 : zQ 54 33 L st M Q ↔ zQ 54 34 L (.int 0 :: st) M Q := zq_con (n := 0) (by decide +kernel) (by decide +kernel) rfl
theorem q54_34i : zQ 54 34 [v0, v1, v2, v3, .int y, v5, v6, v7] (.int x :: st) M Q ↔ zQ 54 36 [v0, v1, v2, v3, .int y, .int x, v6, v7] st M Q := zq_stI (i := .istore 5) (k := 5) (by decide +kernel) rfl (Nat.le_of_ble_eq_true rfl) rfl rfl
theorem q54_34r : zQ 54 34 [v0, v1, v2, v3, .ref r1, v5, v6, v7] (.int x :: st) M Q ↔ zQ 54 36 [v0, v1, v2, v3, .ref r1, .int x, v6, v7] st M Q := zq_stI (i := .istore 5) (k := 5) (by decide +kernel) rfl (Nat.le_of_ble_eq_true rfl) rfl rfl
theorem q54_34n : zQ 54 34 [v0, v1, v2, v3, .null, v5, v6, v7] (.int x :: st) M Q ↔ zQ 54 36 [v0, v1, v2, v3, .null, .int x, v6, v7] st M Q := zq_stI (i := .istore 5) (k := 5) (by decide +kernel) rfl (Nat.le_of_ble_eq_true rfl) rfl rfl
theorem q54_36 : zQ 54 36 [v0, v1, v2, v3, v4, .int x, v6, v7] st M Q ↔ zQ 54 38 [v0, v1, v2, v3, v4, .int x, v6, v7] (.int x :: st) M Q := zq_go (i := .iload 5) (by decide +kernel) rfl
theorem q54_38 : zQ 54 38 [.ref a, v1, v2, v3, v4, v5, v6, v7] st M Q ↔ zQ 54 39 [.ref a, v1, v2, v3, v4, v5, v6, v7] (.ref a :: st) M Q := zq_go (i := .aload_n 0) (by decide +kernel) rfl
theorem q54_39 : zQ 54 39 L (.ref a :: st) M Q ↔ (a < zNC ∧ zk a = 5) ∧ zQ 54 42 L (zfv a 0 M :: st) M Q := zq_getf (n := 12) (b := false) (by decide +kernel) (by decide +kernel)
theorem q54_42 : zQ 54 42 L (.ref a :: st) M Q ↔ (a < zNC ∧ zk a = 4) ∧ zQ 54 45 L (zfv a 7 M :: st) M Q := zq_getf (n := 76) (b := true) (by decide +kernel) (by decide +kernel)
theorem q54_45 : zQ 54 45 L (.int y :: .int x :: st) M Q ↔ (y ≤ x → zQ 54 107 L st M Q) ∧ (¬ y ≤ x → zQ 54 48 L st M Q) := zq_br (i := .if_icmp .ge 62) (off := 62) (by decide +kernel) rfl (by decide) rfl
theorem q54_48 : zQ 54 48 [v0, v1, v2, v3, v4, .int x, v6, v7] st M Q ↔ zQ 54 50 [v0, v1, v2, v3, v4, .int x, v6, v7] (.int x :: st) M Q := zq_go (i := .iload 5) (by decide +kernel) rfl
theorem q54_50 : zQ 54 50 L st M Q ↔ zQ 54 51 L (.int 1 :: st) M Q := zq_con (n := 1) (by decide +kernel) (by decide +kernel) rfl
theorem q54_51 : zQ 54 51 L (.int y :: .int x :: st) M Q ↔ zQ 54 52 L (.int (x + y) :: st) M Q := zq_go (i := .iadd) (by decide +kernel) rfl
theorem q54_52i : zQ 54 52 [v0, v1, v2, v3, v4, .int y, v6, v7] (.int x :: st) M Q ↔ zQ 54 54 [v0, v1, v2, v3, v4, .int y, .int x, v7] st M Q := zq_stI (i := .istore 6) (k := 6) (by decide +kernel) rfl (Nat.le_of_ble_eq_true rfl) rfl rfl
theorem q54_52r : zQ 54 52 [v0, v1, v2, v3, v4, .ref r1, v6, v7] (.int x :: st) M Q ↔ zQ 54 54 [v0, v1, v2, v3, v4, .ref r1, .int x, v7] st M Q := zq_stI (i := .istore 6) (k := 6) (by decide +kernel) rfl (Nat.le_of_ble_eq_true rfl) rfl rfl
theorem q54_52n : zQ 54 52 [v0, v1, v2, v3, v4, .null, v6, v7] (.int x :: st) M Q ↔ zQ 54 54 [v0, v1, v2, v3, v4, .null, .int x, v7] st M Q := zq_stI (i := .istore 6) (k := 6) (by decide +kernel) rfl (Nat.le_of_ble_eq_true rfl) rfl rfl
theorem q54_54 : zQ 54 54 [v0, v1, v2, v3, v4, v5, .int x, v7] st M Q ↔ zQ 54 56 [v0, v1, v2, v3, v4, v5, .int x, v7] (.int x :: st) M Q := zq_go (i := .iload 6) (by decide +kernel) rfl
theorem q54_56 : zQ 54 56 [.ref a, v1, v2, v3, v4, v5, v6, v7] st M Q ↔ zQ 54 57 [.ref a, v1, v2, v3, v4, v5, v6, v7] (.ref a :: st) M Q := zq_go (i := .aload_n 0) (by decide +kernel) rfl
theorem q54_57 : zQ 54 57 L (.ref a :: st) M Q ↔ (a < zNC ∧ zk a = 5) ∧ zQ 54 60 L (zfv a 0 M :: st) M Q := zq_getf (n := 12) (b := false) (by decide +kernel) (by decide +kernel)
theorem q54_60 : zQ 54 60 L (.ref a :: st) M Q ↔ (a < zNC ∧ zk a = 4) ∧ zQ 54 63 L (zfv a 7 M :: st) M Q := zq_getf (n := 76) (b := true) (by decide +kernel) (by decide +kernel)
theorem q54_63 : zQ 54 63 L (.int y :: .int x :: st) M Q ↔ (y ≤ x → zQ 54 101 L st M Q) ∧ (¬ y ≤ x → zQ 54 66 L st M Q) := zq_br (i := .if_icmp .ge 38) (off := 38) (by decide +kernel) rfl (by decide) rfl
theorem q54_66 : zQ 54 66 [.ref a, v1, v2, v3, v4, v5, v6, v7] st M Q ↔ zQ 54 67 [.ref a, v1, v2, v3, v4, v5, v6, v7] (.ref a :: st) M Q := zq_go (i := .aload_n 0) (by decide +kernel) rfl
theorem q54_67 : zQ 54 67 L (.ref a :: st) M Q ↔ (a < zNC ∧ zk a = 5) ∧ zQ 54 70 L (zfv a 0 M :: st) M Q := zq_getf (n := 12) (b := false) (by decide +kernel) (by decide +kernel)
theorem q54_70 : zQ 54 70 [v0, v1, v2, v3, v4, .int x, v6, v7] st M Q ↔ zQ 54 72 [v0, v1, v2, v3, v4, .int x, v6, v7] (.int x :: st) M Q := zq_go (i := .iload 5) (by decide +kernel) rfl
theorem q54_72 : zQ 54 72 [v0, v1, v2, v3, v4, v5, .int x, v7] st M Q ↔ zQ 54 74 [v0, v1, v2, v3, v4, v5, .int x, v7] (.int x :: st) M Q := zq_go (i := .iload 6) (by decide +kernel) rfl
theorem q54_74 : zQ 54 74 L (.int x2 :: .int x1 :: .ref a :: st) M Q ↔ (zcs st ≤ 8 ∧ a < zNC ∧ zk a = 4) ∧ zQ 35 0 [.ref a, .int x1, .int x2, .null] [] M (fun r M1 => zQ 54 77 L (zpush r st) M1 Q) := zq_callV (n := 163) (j := 35) (b := true) (As := [.int x1, .int x2]) (by decide +kernel) (by decide +kernel) ⟨by decide +kernel, by decide +kernel, rfl, by decide +kernel, by decide +kernel, Nat.le_of_ble_eq_true rfl⟩ rfl
theorem q54_77i : zQ 54 77 [v0, v1, v2, v3, v4, v5, .int y, v7] (.int x :: st) M Q ↔ zQ 54 79 [v0, v1, v2, v3, v4, v5, .int y, .int x] st M Q := zq_stI (i := .istore 7) (k := 7) (by decide +kernel) rfl (Nat.le_of_ble_eq_true rfl) rfl rfl
theorem q54_77r : zQ 54 77 [v0, v1, v2, v3, v4, v5, .ref r1, v7] (.int x :: st) M Q ↔ zQ 54 79 [v0, v1, v2, v3, v4, v5, .ref r1, .int x] st M Q := zq_stI (i := .istore 7) (k := 7) (by decide +kernel) rfl (Nat.le_of_ble_eq_true rfl) rfl rfl
theorem q54_77n : zQ 54 77 [v0, v1, v2, v3, v4, v5, .null, v7] (.int x :: st) M Q ↔ zQ 54 79 [v0, v1, v2, v3, v4, v5, .null, .int x] st M Q := zq_stI (i := .istore 7) (k := 7) (by decide +kernel) rfl (Nat.le_of_ble_eq_true rfl) rfl rfl
theorem q54_79 : zQ 54 79 [v0, v1, v2, v3, v4, v5, v6, .int x] st M Q ↔ zQ 54 81 [v0, v1, v2, v3, v4, v5, v6, .int x] (.int x :: st) M Q := zq_go (i := .iload 7) (by decide +kernel) rfl
theorem q54_81 : zQ 54 81 [v0, v1, .int x, v3, v4, v5, v6, v7] st M Q ↔ zQ 54 82 [v0, v1, .int x, v3, v4, v5, v6, v7] (.int x :: st) M Q := zq_go (i := .iload_n 2) (by decide +kernel) rfl
theorem q54_82 : zQ 54 82 L (.int y :: .int x :: st) M Q ↔ (x ≤ y → zQ 54 95 L st M Q) ∧ (¬ x ≤ y → zQ 54 85 L st M Q) := zq_br (i := .if_icmp .le 13) (off := 13) (by decide +kernel) rfl (by decide) rfl
theorem q54_85 : zQ 54 85 [v0, v1, v2, v3, v4, v5, v6, .int x] st M Q ↔ zQ 54 87 [v0, v1, v2, v3, v4, v5, v6, .int x] (.int x :: st) M Q := zq_go (i := .iload 7) (by decide +kernel) rfl
theorem q54_87i : zQ 54 87 [v0, .int y, v2, v3, v4, v5, v6, v7] (.int x :: st) M Q ↔ zQ 54 88 [v0, .int y, .int x, v3, v4, v5, v6, v7] st M Q := zq_stI (i := .istore_n 2) (k := 2) (by decide +kernel) rfl (Nat.le_of_ble_eq_true rfl) rfl rfl
theorem q54_87r : zQ 54 87 [v0, .ref r1, v2, v3, v4, v5, v6, v7] (.int x :: st) M Q ↔ zQ 54 88 [v0, .ref r1, .int x, v3, v4, v5, v6, v7] st M Q := zq_stI (i := .istore_n 2) (k := 2) (by decide +kernel) rfl (Nat.le_of_ble_eq_true rfl) rfl rfl
theorem q54_87n : zQ 54 87 [v0, .null, v2, v3, v4, v5, v6, v7] (.int x :: st) M Q ↔ zQ 54 88 [v0, .null, .int x, v3, v4, v5, v6, v7] st M Q := zq_stI (i := .istore_n 2) (k := 2) (by decide +kernel) rfl (Nat.le_of_ble_eq_true rfl) rfl rfl
theorem q54_88 : zQ 54 88 [v0, v1, v2, v3, v4, .int x, v6, v7] st M Q ↔ zQ 54 90 [v0, v1, v2, v3, v4, .int x, v6, v7] (.int x :: st) M Q := zq_go (i := .iload 5) (by decide +kernel) rfl
theorem q54_90i : zQ 54 90 [v0, v1, .int y, v3, v4, v5, v6, v7] (.int x :: st) M Q ↔ zQ 54 91 [v0, v1, .int y, .int x, v4, v5, v6, v7] st M Q := zq_stI (i := .istore_n 3) (k := 3) (by decide +kernel) rfl (Nat.le_of_ble_eq_true rfl) rfl rfl
theorem q54_90r : zQ 54 90 [v0, v1, .ref r1, v3, v4, v5, v6, v7] (.int x :: st) M Q ↔ zQ 54 91 [v0, v1, .ref r1, .int x, v4, v5, v6, v7] st M Q := zq_stI (i := .istore_n 3) (k := 3) (by decide +kernel) rfl (Nat.le_of_ble_eq_true rfl) rfl rfl
theorem q54_90n : zQ 54 90 [v0, v1, .null, v3, v4, v5, v6, v7] (.int x :: st) M Q ↔ zQ 54 91 [v0, v1, .null, .int x, v4, v5, v6, v7] st M Q := zq_stI (i := .istore_n 3) (k := 3) (by decide +kernel) rfl (Nat.le_of_ble_eq_true rfl) rfl rfl
theorem q54_91 : zQ 54 91 [v0, v1, v2, v3, v4, v5, .int x, v7] st M Q ↔ zQ 54 93 [v0, v1, v2, v3, v4, v5, .int x, v7] (.int x :: st) M Q := zq_go (i := .iload 6) (by decide +kernel) rfl
theorem q54_93i : zQ 54 93 [v0, v1, v2, .int y, v4, v5, v6, v7] (.int x :: st) M Q ↔ zQ 54 95 [v0, v1, v2, .int y, .int x, v5, v6, v7] st M Q := zq_stI (i := .istore 4) (k := 4) (by decide +kernel) rfl (Nat.le_of_ble_eq_true rfl) rfl rfl
theorem q54_93r : zQ 54 93 [v0, v1, v2, .ref r1, v4, v5, v6, v7] (.int x :: st) M Q ↔ zQ 54 95 [v0, v1, v2, .ref r1, .int x, v5, v6, v7] st M Q := zq_stI (i := .istore 4) (k := 4) (by decide +kernel) rfl (Nat.le_of_ble_eq_true rfl) rfl rfl
theorem q54_93n : zQ 54 93 [v0, v1, v2, .null, v4, v5, v6, v7] (.int x :: st) M Q ↔ zQ 54 95 [v0, v1, v2, .null, .int x, v5, v6, v7] st M Q := zq_stI (i := .istore 4) (k := 4) (by decide +kernel) rfl (Nat.le_of_ble_eq_true rfl) rfl rfl
theorem q54_95i : zQ 54 95 [v0, v1, v2, v3, v4, .int y, .int x, v7] st M Q ↔ zQ 54 98 [v0, v1, v2, v3, v4, .int y, .int (x + 1), v7] st M Q := zq_inc (k := 6) (n := 1) (x := x) (v := 1) (by decide +kernel) (by decide +kernel) rfl rfl rfl rfl
theorem q54_95r : zQ 54 95 [v0, v1, v2, v3, v4, .ref r1, .int x, v7] st M Q ↔ zQ 54 98 [v0, v1, v2, v3, v4, .ref r1, .int (x + 1), v7] st M Q := zq_inc (k := 6) (n := 1) (x := x) (v := 1) (by decide +kernel) (by decide +kernel) rfl rfl rfl rfl
theorem q54_95n : zQ 54 95 [v0, v1, v2, v3, v4, .null, .int x, v7] st M Q ↔ zQ 54 98 [v0, v1, v2, v3, v4, .null, .int (x + 1), v7] st M Q := zq_inc (k := 6) (n := 1) (x := x) (v := 1) (by decide +kernel) (by decide +kernel) rfl rfl rfl rfl
theorem q54_98 : zQ 54 98 L st M Q ↔ zQ 54 54 L st M Q := zq_jmp (off := (-44)) (by decide +kernel) (by decide)
theorem q54_101i : zQ 54 101 [v0, v1, v2, v3, .int y, .int x, v6, v7] st M Q ↔ zQ 54 104 [v0, v1, v2, v3, .int y, .int (x + 1), v6, v7] st M Q := zq_inc (k := 5) (n := 1) (x := x) (v := 1) (by decide +kernel) (by decide +kernel) rfl rfl rfl rfl
theorem q54_101r : zQ 54 101 [v0, v1, v2, v3, .ref r1, .int x, v6, v7] st M Q ↔ zQ 54 104 [v0, v1, v2, v3, .ref r1, .int (x + 1), v6, v7] st M Q := zq_inc (k := 5) (n := 1) (x := x) (v := 1) (by decide +kernel) (by decide +kernel) rfl rfl rfl rfl
theorem q54_101n : zQ 54 101 [v0, v1, v2, v3, .null, .int x, v6, v7] st M Q ↔ zQ 54 104 [v0, v1, v2, v3, .null, .int (x + 1), v6, v7] st M Q := zq_inc (k := 5) (n := 1) (x := x) (v := 1) (by decide +kernel) (by decide +kernel) rfl rfl rfl rfl
theorem q54_104 : zQ 54 104 L st M Q ↔ zQ 54 36 L st M Q := zq_jmp (off := (-68)) (by decide +kernel) (by decide)
theorem q54_107 : zQ 54 107 [v0, .int x, v2, v3, v4, v5, v6, v7] st M Q ↔ zQ 54 108 [v0, .int x, v2, v3, v4, v5, v6, v7] (.int x :: st) M Q := zq_go (i := .iload_n 1) (by decide +kernel) rfl
theorem q54_108 : zQ 54 108 L (.int x :: st) M Q ↔ (x = 0 → zQ 54 111 L st M Q) ∧ (¬ x = 0 → zQ 54 122 L st M Q) := zq_bn (i := .ifCond .ne 14) (off := 14) (by decide +kernel) rfl (by decide) rfl
theorem q54_111 : zQ 54 111 [v0, v1, .int x, v3, v4, v5, v6, v7] st M Q ↔ zQ 54 112 [v0, v1, .int x, v3, v4, v5, v6, v7] (.int x :: st) M Q := zq_go (i := .iload_n 2) (by decide +kernel) rfl
theorem q54_112 : zQ 54 112 L (.int x :: st) M Q ↔ (x ≤ 0 → zQ 54 119 L st M Q) ∧ (¬ x ≤ 0 → zQ 54 115 L st M Q) := zq_br (i := .ifCond .le 7) (off := 7) (by decide +kernel) rfl (by decide) rfl
theorem q54_115 : zQ 54 115 [v0, v1, .int x, v3, v4, v5, v6, v7] st M Q ↔ zQ 54 116 [v0, v1, .int x, v3, v4, v5, v6, v7] (.int x :: st) M Q := zq_go (i := .iload_n 2) (by decide +kernel) rfl
theorem q54_116 : zQ 54 116 L st M Q ↔ zQ 54 121 L st M Q := zq_jmp (off := 5) (by decide +kernel) (by decide)
theorem q54_119 : zQ 54 119 L st M Q ↔ zQ 54 121 L (.int (-9) :: st) M Q := zq_bip (n := (-9)) (by decide +kernel) (by decide +kernel) rfl
theorem q54_121 : zQ 54 121 L [.int x] M Q ↔ Q (zI x) M := zq_reI (by decide +kernel) (by decide +kernel)
theorem q54_122 : zQ 54 122 [v0, .int x, v2, v3, v4, v5, v6, v7] st M Q ↔ zQ 54 123 [v0, .int x, v2, v3, v4, v5, v6, v7] (.int x :: st) M Q := zq_go (i := .iload_n 1) (by decide +kernel) rfl
theorem q54_123 : zQ 54 123 L st M Q ↔ zQ 54 124 L (.int 1 :: st) M Q := zq_con (n := 1) (by decide +kernel) (by decide +kernel) rfl
theorem q54_124 : zQ 54 124 L (.int y :: .int x :: st) M Q ↔ (x = y → zQ 54 127 L st M Q) ∧ (¬ x = y → zQ 54 131 L st M Q) := zq_bn (i := .if_icmp .ne 7) (off := 7) (by decide +kernel) rfl (by decide) rfl
theorem q54_127 : zQ 54 127 [v0, v1, v2, .int x, v4, v5, v6, v7] st M Q ↔ zQ 54 128 [v0, v1, v2, .int x, v4, v5, v6, v7] (.int x :: st) M Q := zq_go (i := .iload_n 3) (by decide +kernel) rfl
theorem q54_128 : zQ 54 128 L st M Q ↔ zQ 54 133 L st M Q := zq_jmp (off := 5) (by decide +kernel) (by decide)
theorem q54_131 : zQ 54 131 [v0, v1, v2, v3, .int x, v5, v6, v7] st M Q ↔ zQ 54 133 [v0, v1, v2, v3, .int x, v5, v6, v7] (.int x :: st) M Q := zq_go (i := .iload 4) (by decide +kernel) rfl
theorem q54_133 : zQ 54 133 L [.int x] M Q ↔ Q (zI x) M := zq_reI (by decide +kernel) (by decide +kernel)
-- 55 SandKeepers.first(I)I
theorem q55_0 : zQ 55 0 [v0, .int x, v2, v3, v4] st M Q ↔ zQ 55 1 [v0, .int x, v2, v3, v4] (.int x :: st) M Q := zq_go (i := .iload_n 1) (by decide +kernel) rfl
theorem q55_1 : zQ 55 1 L st M Q ↔ zQ 55 2 L (.int 2 :: st) M Q := zq_con (n := 2) (by decide +kernel) (by decide +kernel) rfl
theorem q55_2 : zQ 55 2 L (.int x2 :: .int x1 :: st) M Q ↔ zcs st ≤ 8 ∧ zQ 74 0 [.int x1, .int x2] [] M (fun r M1 => zQ 55 5 L (zpush r st) M1 Q) := zq_callS (n := 53) (j := 74) (b := false) (As := [.int x1, .int x2]) (by decide +kernel) (by decide +kernel) ⟨by decide +kernel, by decide +kernel, rfl, by decide +kernel, by decide +kernel, Nat.le_of_ble_eq_true rfl⟩ rfl
theorem q55_5 : zQ 55 5 L (.int x :: st) M Q ↔ (x = 0 → zQ 55 8 L st M Q) ∧ (¬ x = 0 → zQ 55 11 L st M Q) := zq_bn (i := .ifCond .ne 6) (off := 6) (by decide +kernel) rfl (by decide) rfl
theorem q55_8 : zQ 55 8 L st M Q ↔ zQ 55 10 L (.int (-2) :: st) M Q := zq_bip (n := (-2)) (by decide +kernel) (by decide +kernel) rfl
theorem q55_10 : zQ 55 10 L [.int x] M Q ↔ Q (zI x) M := zq_reI (by decide +kernel) (by decide +kernel)
theorem q55_11 : zQ 55 11 [.ref a, v1, v2, v3, v4] st M Q ↔ zQ 55 12 [.ref a, v1, v2, v3, v4] (.ref a :: st) M Q := zq_go (i := .aload_n 0) (by decide +kernel) rfl
theorem q55_12 : zQ 55 12 L (.ref a :: st) M Q ↔ (a < zNC ∧ zk a = 5) ∧ zQ 55 15 L (zfv a 0 M :: st) M Q := zq_getf (n := 12) (b := false) (by decide +kernel) (by decide +kernel)
theorem q55_15 : zQ 55 15 L (.ref a :: st) M Q ↔ (a < zNC ∧ zk a = 4) ∧ zQ 55 18 L (zfv a 7 M :: st) M Q := zq_getf (n := 76) (b := true) (by decide +kernel) (by decide +kernel)
theorem q55_18 : zQ 55 18 L (.int x :: st) M Q ↔ (x = 0 → zQ 55 21 L st M Q) ∧ (¬ x = 0 → zQ 55 24 L st M Q) := zq_bn (i := .ifCond .ne 6) (off := 6) (by decide +kernel) rfl (by decide) rfl
theorem q55_21 : zQ 55 21 L st M Q ↔ zQ 55 23 L (.int (-3) :: st) M Q := zq_bip (n := (-3)) (by decide +kernel) (by decide +kernel) rfl
theorem q55_23 : zQ 55 23 L [.int x] M Q ↔ Q (zI x) M := zq_reI (by decide +kernel) (by decide +kernel)
theorem q55_24 : zQ 55 24 L st M Q ↔ zQ 55 26 L (.int (-9) :: st) M Q := zq_bip (n := (-9)) (by decide +kernel) (by decide +kernel) rfl
theorem q55_26i : zQ 55 26 [v0, .int y, v2, v3, v4] (.int x :: st) M Q ↔ zQ 55 27 [v0, .int y, .int x, v3, v4] st M Q := zq_stI (i := .istore_n 2) (k := 2) (by decide +kernel) rfl (Nat.le_of_ble_eq_true rfl) rfl rfl
theorem q55_26r : zQ 55 26 [v0, .ref r1, v2, v3, v4] (.int x :: st) M Q ↔ zQ 55 27 [v0, .ref r1, .int x, v3, v4] st M Q := zq_stI (i := .istore_n 2) (k := 2) (by decide +kernel) rfl (Nat.le_of_ble_eq_true rfl) rfl rfl
theorem q55_26n : zQ 55 26 [v0, .null, v2, v3, v4] (.int x :: st) M Q ↔ zQ 55 27 [v0, .null, .int x, v3, v4] st M Q := zq_stI (i := .istore_n 2) (k := 2) (by decide +kernel) rfl (Nat.le_of_ble_eq_true rfl) rfl rfl
theorem q55_27 : zQ 55 27 L st M Q ↔ zQ 55 29 L (.int 99 :: st) M Q := zq_bip (n := 99) (by decide +kernel) (by decide +kernel) rfl
theorem q55_29i : zQ 55 29 [v0, v1, .int y, v3, v4] (.int x :: st) M Q ↔ zQ 55 30 [v0, v1, .int y, .int x, v4] st M Q := zq_stI (i := .istore_n 3) (k := 3) (by decide +kernel) rfl (Nat.le_of_ble_eq_true rfl) rfl rfl
theorem q55_29r : zQ 55 29 [v0, v1, .ref r1, v3, v4] (.int x :: st) M Q ↔ zQ 55 30 [v0, v1, .ref r1, .int x, v4] st M Q := zq_stI (i := .istore_n 3) (k := 3) (by decide +kernel) rfl (Nat.le_of_ble_eq_true rfl) rfl rfl
theorem q55_29n : zQ 55 29 [v0, v1, .null, v3, v4] (.int x :: st) M Q ↔ zQ 55 30 [v0, v1, .null, .int x, v4] st M Q := zq_stI (i := .istore_n 3) (k := 3) (by decide +kernel) rfl (Nat.le_of_ble_eq_true rfl) rfl rfl
theorem q55_30 : zQ 55 30 L st M Q ↔ zQ 55 31 L (.int 0 :: st) M Q := zq_con (n := 0) (by decide +kernel) (by decide +kernel) rfl
theorem q55_31i : zQ 55 31 [v0, v1, v2, .int y, v4] (.int x :: st) M Q ↔ zQ 55 33 [v0, v1, v2, .int y, .int x] st M Q := zq_stI (i := .istore 4) (k := 4) (by decide +kernel) rfl (Nat.le_of_ble_eq_true rfl) rfl rfl
theorem q55_31r : zQ 55 31 [v0, v1, v2, .ref r1, v4] (.int x :: st) M Q ↔ zQ 55 33 [v0, v1, v2, .ref r1, .int x] st M Q := zq_stI (i := .istore 4) (k := 4) (by decide +kernel) rfl (Nat.le_of_ble_eq_true rfl) rfl rfl
theorem q55_31n : zQ 55 31 [v0, v1, v2, .null, v4] (.int x :: st) M Q ↔ zQ 55 33 [v0, v1, v2, .null, .int x] st M Q := zq_stI (i := .istore 4) (k := 4) (by decide +kernel) rfl (Nat.le_of_ble_eq_true rfl) rfl rfl
theorem q55_33 : zQ 55 33 [v0, v1, v2, v3, .int x] st M Q ↔ zQ 55 35 [v0, v1, v2, v3, .int x] (.int x :: st) M Q := zq_go (i := .iload 4) (by decide +kernel) rfl
theorem q55_35 : zQ 55 35 [.ref a, v1, v2, v3, v4] st M Q ↔ zQ 55 36 [.ref a, v1, v2, v3, v4] (.ref a :: st) M Q := zq_go (i := .aload_n 0) (by decide +kernel) rfl
theorem q55_36 : zQ 55 36 L (.ref a :: st) M Q ↔ (a < zNC ∧ zk a = 5) ∧ zQ 55 39 L (zfv a 0 M :: st) M Q := zq_getf (n := 12) (b := false) (by decide +kernel) (by decide +kernel)
theorem q55_39 : zQ 55 39 L (.ref a :: st) M Q ↔ (a < zNC ∧ zk a = 4) ∧ zQ 55 42 L (zfv a 7 M :: st) M Q := zq_getf (n := 76) (b := true) (by decide +kernel) (by decide +kernel)
theorem q55_42 : zQ 55 42 L (.int y :: .int x :: st) M Q ↔ (y ≤ x → zQ 55 89 L st M Q) ∧ (¬ y ≤ x → zQ 55 45 L st M Q) := zq_br (i := .if_icmp .ge 47) (off := 47) (by decide +kernel) rfl (by decide) rfl
theorem q55_45 : zQ 55 45 [.ref a, v1, v2, v3, v4] st M Q ↔ zQ 55 46 [.ref a, v1, v2, v3, v4] (.ref a :: st) M Q := zq_go (i := .aload_n 0) (by decide +kernel) rfl
theorem q55_46 : zQ 55 46 L (.ref a :: st) M Q ↔ (a < zNC ∧ zk a = 5) ∧ zQ 55 49 L (zfv a 0 M :: st) M Q := zq_getf (n := 12) (b := false) (by decide +kernel) (by decide +kernel)
theorem q55_49 : zQ 55 49 [v0, v1, v2, v3, .int x] st M Q ↔ zQ 55 51 [v0, v1, v2, v3, .int x] (.int x :: st) M Q := zq_go (i := .iload 4) (by decide +kernel) rfl
theorem q55_51 : zQ 55 51 L (.int x1 :: .ref a :: st) M Q ↔ (zcs st ≤ 8 ∧ a < zNC ∧ zk a = 4) ∧ zQ 25 0 [.ref a, .int x1] [] M (fun r M1 => zQ 55 54 L (zpush r st) M1 Q) := zq_callV (n := 166) (j := 25) (b := true) (As := [.int x1]) (by decide +kernel) (by decide +kernel) ⟨by decide +kernel, by decide +kernel, rfl, by decide +kernel, by decide +kernel, Nat.le_of_ble_eq_true rfl⟩ rfl
theorem q55_54 : zQ 55 54 L (.int x :: st) M Q ↔ (x = 0 → zQ 55 83 L st M Q) ∧ (¬ x = 0 → zQ 55 57 L st M Q) := zq_br (i := .ifCond .eq 29) (off := 29) (by decide +kernel) rfl (by decide) rfl
theorem q55_57 : zQ 55 57 [.ref a, v1, v2, v3, v4] st M Q ↔ zQ 55 58 [.ref a, v1, v2, v3, v4] (.ref a :: st) M Q := zq_go (i := .aload_n 0) (by decide +kernel) rfl
theorem q55_58 : zQ 55 58 L (.ref a :: st) M Q ↔ (a < zNC ∧ zk a = 5) ∧ zQ 55 61 L (zfv a 0 M :: st) M Q := zq_getf (n := 12) (b := false) (by decide +kernel) (by decide +kernel)
theorem q55_61 : zQ 55 61 [v0, v1, v2, v3, .int x] st M Q ↔ zQ 55 63 [v0, v1, v2, v3, .int x] (.int x :: st) M Q := zq_go (i := .iload 4) (by decide +kernel) rfl
theorem q55_63 : zQ 55 63 L (.int x1 :: .ref a :: st) M Q ↔ (zcs st ≤ 8 ∧ a < zNC ∧ zk a = 4) ∧ zQ 33 0 [.ref a, .int x1] [] M (fun r M1 => zQ 55 66 L (zpush r st) M1 Q) := zq_callV (n := 134) (j := 33) (b := true) (As := [.int x1]) (by decide +kernel) (by decide +kernel) ⟨by decide +kernel, by decide +kernel, rfl, by decide +kernel, by decide +kernel, Nat.le_of_ble_eq_true rfl⟩ rfl
theorem q55_66 : zQ 55 66 [v0, v1, v2, .int x, v4] st M Q ↔ zQ 55 67 [v0, v1, v2, .int x, v4] (.int x :: st) M Q := zq_go (i := .iload_n 3) (by decide +kernel) rfl
theorem q55_67 : zQ 55 67 L (.int y :: .int x :: st) M Q ↔ (y ≤ x → zQ 55 83 L st M Q) ∧ (¬ y ≤ x → zQ 55 70 L st M Q) := zq_br (i := .if_icmp .ge 16) (off := 16) (by decide +kernel) rfl (by decide) rfl
theorem q55_70 : zQ 55 70 [v0, v1, v2, v3, .int x] st M Q ↔ zQ 55 72 [v0, v1, v2, v3, .int x] (.int x :: st) M Q := zq_go (i := .iload 4) (by decide +kernel) rfl
theorem q55_72i : zQ 55 72 [v0, .int y, v2, v3, v4] (.int x :: st) M Q ↔ zQ 55 73 [v0, .int y, .int x, v3, v4] st M Q := zq_stI (i := .istore_n 2) (k := 2) (by decide +kernel) rfl (Nat.le_of_ble_eq_true rfl) rfl rfl
theorem q55_72r : zQ 55 72 [v0, .ref r1, v2, v3, v4] (.int x :: st) M Q ↔ zQ 55 73 [v0, .ref r1, .int x, v3, v4] st M Q := zq_stI (i := .istore_n 2) (k := 2) (by decide +kernel) rfl (Nat.le_of_ble_eq_true rfl) rfl rfl
theorem q55_72n : zQ 55 72 [v0, .null, v2, v3, v4] (.int x :: st) M Q ↔ zQ 55 73 [v0, .null, .int x, v3, v4] st M Q := zq_stI (i := .istore_n 2) (k := 2) (by decide +kernel) rfl (Nat.le_of_ble_eq_true rfl) rfl rfl
theorem q55_73 : zQ 55 73 [.ref a, v1, v2, v3, v4] st M Q ↔ zQ 55 74 [.ref a, v1, v2, v3, v4] (.ref a :: st) M Q := zq_go (i := .aload_n 0) (by decide +kernel) rfl
theorem q55_74 : zQ 55 74 L (.ref a :: st) M Q ↔ (a < zNC ∧ zk a = 5) ∧ zQ 55 77 L (zfv a 0 M :: st) M Q := zq_getf (n := 12) (b := false) (by decide +kernel) (by decide +kernel)
theorem q55_77 : zQ 55 77 [v0, v1, v2, v3, .int x] st M Q ↔ zQ 55 79 [v0, v1, v2, v3, .int x] (.int x :: st) M Q := zq_go (i := .iload 4) (by decide +kernel) rfl
theorem q55_79 : zQ 55 79 L (.int x1 :: .ref a :: st) M Q ↔ (zcs st ≤ 8 ∧ a < zNC ∧ zk a = 4) ∧ zQ 33 0 [.ref a, .int x1] [] M (fun r M1 => zQ 55 82 L (zpush r st) M1 Q) := zq_callV (n := 134) (j := 33) (b := true) (As := [.int x1]) (by decide +kernel) (by decide +kernel) ⟨by decide +kernel, by decide +kernel, rfl, by decide +kernel, by decide +kernel, Nat.le_of_ble_eq_true rfl⟩ rfl
theorem q55_82i : zQ 55 82 [v0, v1, .int y, v3, v4] (.int x :: st) M Q ↔ zQ 55 83 [v0, v1, .int y, .int x, v4] st M Q := zq_stI (i := .istore_n 3) (k := 3) (by decide +kernel) rfl (Nat.le_of_ble_eq_true rfl) rfl rfl
theorem q55_82r : zQ 55 82 [v0, v1, .ref r1, v3, v4] (.int x :: st) M Q ↔ zQ 55 83 [v0, v1, .ref r1, .int x, v4] st M Q := zq_stI (i := .istore_n 3) (k := 3) (by decide +kernel) rfl (Nat.le_of_ble_eq_true rfl) rfl rfl
theorem q55_82n : zQ 55 82 [v0, v1, .null, v3, v4] (.int x :: st) M Q ↔ zQ 55 83 [v0, v1, .null, .int x, v4] st M Q := zq_stI (i := .istore_n 3) (k := 3) (by decide +kernel) rfl (Nat.le_of_ble_eq_true rfl) rfl rfl
theorem q55_83i : zQ 55 83 [v0, v1, v2, .int y, .int x] st M Q ↔ zQ 55 86 [v0, v1, v2, .int y, .int (x + 1)] st M Q := zq_inc (k := 4) (n := 1) (x := x) (v := 1) (by decide +kernel) (by decide +kernel) rfl rfl rfl rfl
theorem q55_83r : zQ 55 83 [v0, v1, v2, .ref r1, .int x] st M Q ↔ zQ 55 86 [v0, v1, v2, .ref r1, .int (x + 1)] st M Q := zq_inc (k := 4) (n := 1) (x := x) (v := 1) (by decide +kernel) (by decide +kernel) rfl rfl rfl rfl
theorem q55_83n : zQ 55 83 [v0, v1, v2, .null, .int x] st M Q ↔ zQ 55 86 [v0, v1, v2, .null, .int (x + 1)] st M Q := zq_inc (k := 4) (n := 1) (x := x) (v := 1) (by decide +kernel) (by decide +kernel) rfl rfl rfl rfl
theorem q55_86 : zQ 55 86 L st M Q ↔ zQ 55 33 L st M Q := zq_jmp (off := (-53)) (by decide +kernel) (by decide)
theorem q55_89 : zQ 55 89 [v0, .int x, v2, v3, v4] st M Q ↔ zQ 55 90 [v0, .int x, v2, v3, v4] (.int x :: st) M Q := zq_go (i := .iload_n 1) (by decide +kernel) rfl
theorem q55_90 : zQ 55 90 L (.int x :: st) M Q ↔ (x = 0 → zQ 55 99 L st M Q) ∧ (¬ x = 0 → zQ 55 93 L st M Q) := zq_br (i := .ifCond .eq 9) (off := 9) (by decide +kernel) rfl (by decide) rfl
theorem q55_93 : zQ 55 93 [v0, v1, .int x, v3, v4] st M Q ↔ zQ 55 94 [v0, v1, .int x, v3, v4] (.int x :: st) M Q := zq_go (i := .iload_n 2) (by decide +kernel) rfl
theorem q55_94 : zQ 55 94 L st M Q ↔ zQ 55 96 L (.int (-9) :: st) M Q := zq_bip (n := (-9)) (by decide +kernel) (by decide +kernel) rfl
theorem q55_96 : zQ 55 96 L (.int y :: .int x :: st) M Q ↔ (x = y → zQ 55 99 L st M Q) ∧ (¬ x = y → zQ 55 103 L st M Q) := zq_bn (i := .if_icmp .ne 7) (off := 7) (by decide +kernel) rfl (by decide) rfl
theorem q55_99 : zQ 55 99 [v0, v1, .int x, v3, v4] st M Q ↔ zQ 55 100 [v0, v1, .int x, v3, v4] (.int x :: st) M Q := zq_go (i := .iload_n 2) (by decide +kernel) rfl
theorem q55_100 : zQ 55 100 L st M Q ↔ zQ 55 104 L st M Q := zq_jmp (off := 4) (by decide +kernel) (by decide)
theorem q55_103 : zQ 55 103 [v0, v1, v2, .int x, v4] st M Q ↔ zQ 55 104 [v0, v1, v2, .int x, v4] (.int x :: st) M Q := zq_go (i := .iload_n 3) (by decide +kernel) rfl
theorem q55_104 : zQ 55 104 L [.int x] M Q ↔ Q (zI x) M := zq_reI (by decide +kernel) (by decide +kernel)
-- 56 SandKeepers.found(IIII)I
theorem q56_0 : zQ 56 0 [.ref a, v1, v2, v3, v4, v5, v6, v7, v8] st M Q ↔ zQ 56 1 [.ref a, v1, v2, v3, v4, v5, v6, v7, v8] (.ref a :: st) M Q := zq_go (i := .aload_n 0) (by decide +kernel) rfl
theorem q56_1 : zQ 56 1 L st M Q ↔ zQ 56 2 L (.int 0 :: st) M Q := zq_con (n := 0) (by decide +kernel) (by decide +kernel) rfl
theorem q56_2 : zQ 56 2 L (.int x :: .ref a :: st) M Q ↔ (a < zNC ∧ zk a = 5 ∧ zf a 7 = none) ∧ zQ 56 5 L st (zup M a 7 x) Q := zq_putf (n := 49) (b := false) (by decide +kernel) (by decide +kernel) (by decide +kernel)
theorem q56_5 : zQ 56 5 [v0, .int x, v2, v3, v4, v5, v6, v7, v8] st M Q ↔ zQ 56 6 [v0, .int x, v2, v3, v4, v5, v6, v7, v8] (.int x :: st) M Q := zq_go (i := .iload_n 1) (by decide +kernel) rfl
theorem q56_6 : zQ 56 6 L st M Q ↔ zQ 56 7 L (.int 4 :: st) M Q := zq_con (n := 4) (by decide +kernel) (by decide +kernel) rfl
theorem q56_7 : zQ 56 7 L (.int x2 :: .int x1 :: st) M Q ↔ zcs st ≤ 8 ∧ zQ 74 0 [.int x1, .int x2] [] M (fun r M1 => zQ 56 10 L (zpush r st) M1 Q) := zq_callS (n := 53) (j := 74) (b := false) (As := [.int x1, .int x2]) (by decide +kernel) (by decide +kernel) ⟨by decide +kernel, by decide +kernel, rfl, by decide +kernel, by decide +kernel, Nat.le_of_ble_eq_true rfl⟩ rfl
theorem q56_10 : zQ 56 10 L (.int x :: st) M Q ↔ (x = 0 → zQ 56 13 L st M Q) ∧ (¬ x = 0 → zQ 56 15 L st M Q) := zq_bn (i := .ifCond .ne 5) (off := 5) (by decide +kernel) rfl (by decide) rfl
theorem q56_13 : zQ 56 13 L st M Q ↔ zQ 56 14 L (.int (-1) :: st) M Q := zq_con (n := (-1)) (by decide +kernel) (by decide +kernel) rfl
theorem q56_14 : zQ 56 14 L [.int x] M Q ↔ Q (zI x) M := zq_reI (by decide +kernel) (by decide +kernel)
theorem q56_15 : zQ 56 15 [v0, v1, .int x, v3, v4, v5, v6, v7, v8] st M Q ↔ zQ 56 16 [v0, v1, .int x, v3, v4, v5, v6, v7, v8] (.int x :: st) M Q := zq_go (i := .iload_n 2) (by decide +kernel) rfl
theorem q56_16 : zQ 56 16 L st M Q ↔ zQ 56 17 L (.int 3 :: st) M Q := zq_con (n := 3) (by decide +kernel) (by decide +kernel) rfl
theorem q56_17 : zQ 56 17 L (.int x2 :: .int x1 :: st) M Q ↔ zcs st ≤ 8 ∧ zQ 74 0 [.int x1, .int x2] [] M (fun r M1 => zQ 56 20 L (zpush r st) M1 Q) := zq_callS (n := 53) (j := 74) (b := false) (As := [.int x1, .int x2]) (by decide +kernel) (by decide +kernel) ⟨by decide +kernel, by decide +kernel, rfl, by decide +kernel, by decide +kernel, Nat.le_of_ble_eq_true rfl⟩ rfl
theorem q56_20 : zQ 56 20 L (.int x :: st) M Q ↔ (x = 0 → zQ 56 33 L st M Q) ∧ (¬ x = 0 → zQ 56 23 L st M Q) := zq_br (i := .ifCond .eq 13) (off := 13) (by decide +kernel) rfl (by decide) rfl
theorem q56_23 : zQ 56 23 [v0, v1, v2, v3, .int x, v5, v6, v7, v8] st M Q ↔ zQ 56 25 [v0, v1, v2, v3, .int x, v5, v6, v7, v8] (.int x :: st) M Q := zq_go (i := .iload 4) (by decide +kernel) rfl
theorem q56_25 : zQ 56 25 L st M Q ↔ zQ 56 27 L (.int 41 :: st) M Q := zq_bip (n := 41) (by decide +kernel) (by decide +kernel) rfl
theorem q56_27 : zQ 56 27 L (.int x2 :: .int x1 :: st) M Q ↔ zcs st ≤ 8 ∧ zQ 74 0 [.int x1, .int x2] [] M (fun r M1 => zQ 56 30 L (zpush r st) M1 Q) := zq_callS (n := 53) (j := 74) (b := false) (As := [.int x1, .int x2]) (by decide +kernel) (by decide +kernel) ⟨by decide +kernel, by decide +kernel, rfl, by decide +kernel, by decide +kernel, Nat.le_of_ble_eq_true rfl⟩ rfl
theorem q56_30 : zQ 56 30 L (.int x :: st) M Q ↔ (x = 0 → zQ 56 33 L st M Q) ∧ (¬ x = 0 → zQ 56 36 L st M Q) := zq_bn (i := .ifCond .ne 6) (off := 6) (by decide +kernel) rfl (by decide) rfl
theorem q56_33 : zQ 56 33 L st M Q ↔ zQ 56 35 L (.int (-2) :: st) M Q := zq_bip (n := (-2)) (by decide +kernel) (by decide +kernel) rfl
theorem q56_35 : zQ 56 35 L [.int x] M Q ↔ Q (zI x) M := zq_reI (by decide +kernel) (by decide +kernel)
theorem q56_36 : zQ 56 36 [.ref a, v1, v2, v3, v4, v5, v6, v7, v8] st M Q ↔ zQ 56 37 [.ref a, v1, v2, v3, v4, v5, v6, v7, v8] (.ref a :: st) M Q := zq_go (i := .aload_n 0) (by decide +kernel) rfl
theorem q56_37 : zQ 56 37 L (.ref a :: st) M Q ↔ (a < zNC ∧ zk a = 5) ∧ zQ 56 40 L (zfv a 0 M :: st) M Q := zq_getf (n := 12) (b := false) (by decide +kernel) (by decide +kernel)
theorem q56_40 : zQ 56 40 L (.ref a :: st) M Q ↔ (a < zNC ∧ zk a = 4) ∧ zQ 56 43 L (zfv a 7 M :: st) M Q := zq_getf (n := 76) (b := true) (by decide +kernel) (by decide +kernel)
theorem q56_43 : zQ 56 43 L (.int x :: st) M Q ↔ (x = 0 → zQ 56 46 L st M Q) ∧ (¬ x = 0 → zQ 56 49 L st M Q) := zq_bn (i := .ifCond .ne 6) (off := 6) (by decide +kernel) rfl (by decide) rfl
theorem q56_46 : zQ 56 46 L st M Q ↔ zQ 56 48 L (.int (-3) :: st) M Q := zq_bip (n := (-3)) (by decide +kernel) (by decide +kernel) rfl
theorem q56_48 : zQ 56 48 L [.int x] M Q ↔ Q (zI x) M := zq_reI (by decide +kernel) (by decide +kernel)
theorem q56_49 : zQ 56 49 [.ref a, v1, v2, v3, v4, v5, v6, v7, v8] st M Q ↔ zQ 56 50 [.ref a, v1, v2, v3, v4, v5, v6, v7, v8] (.ref a :: st) M Q := zq_go (i := .aload_n 0) (by decide +kernel) rfl
theorem q56_50 : zQ 56 50 L (.ref a :: st) M Q ↔ (a < zNC ∧ zk a = 5) ∧ zQ 56 53 L (zfv a 5 M :: st) M Q := zq_getf (n := 44) (b := false) (by decide +kernel) (by decide +kernel)
theorem q56_53 : zQ 56 53 [v0, .int x, v2, v3, v4, v5, v6, v7, v8] st M Q ↔ zQ 56 54 [v0, .int x, v2, v3, v4, v5, v6, v7, v8] (.int x :: st) M Q := zq_go (i := .iload_n 1) (by decide +kernel) rfl
theorem q56_54 {z : Nat} (hz : z < 4) : zQ 56 54 L (.int (nI z) :: .ref 33 :: st) M Q ↔ zQ 56 55 L (.ref (34 + 2 * z) :: st) M Q := zq_aald hz (by decide +kernel)
theorem q56_55i : zQ 56 55 [v0, v1, v2, v3, .int y, v5, v6, v7, v8] (.ref a :: st) M Q ↔ zQ 56 57 [v0, v1, v2, v3, .int y, .ref a, v6, v7, v8] st M Q := zq_stA (i := .astore 5) (k := 5) (by decide +kernel) rfl (Nat.le_of_ble_eq_true rfl) rfl rfl
theorem q56_55r : zQ 56 55 [v0, v1, v2, v3, .ref r1, v5, v6, v7, v8] (.ref a :: st) M Q ↔ zQ 56 57 [v0, v1, v2, v3, .ref r1, .ref a, v6, v7, v8] st M Q := zq_stA (i := .astore 5) (k := 5) (by decide +kernel) rfl (Nat.le_of_ble_eq_true rfl) rfl rfl
theorem q56_55n : zQ 56 55 [v0, v1, v2, v3, .null, v5, v6, v7, v8] (.ref a :: st) M Q ↔ zQ 56 57 [v0, v1, v2, v3, .null, .ref a, v6, v7, v8] st M Q := zq_stA (i := .astore 5) (k := 5) (by decide +kernel) rfl (Nat.le_of_ble_eq_true rfl) rfl rfl
theorem q56_57 : zQ 56 57 [v0, v1, v2, v3, v4, .ref a, v6, v7, v8] st M Q ↔ zQ 56 59 [v0, v1, v2, v3, v4, .ref a, v6, v7, v8] (.ref a :: st) M Q := zq_go (i := .aload 5) (by decide +kernel) rfl
theorem q56_59 : zQ 56 59 [v0, v1, .int x, v3, v4, v5, v6, v7, v8] st M Q ↔ zQ 56 60 [v0, v1, .int x, v3, v4, v5, v6, v7, v8] (.int x :: st) M Q := zq_go (i := .iload_n 2) (by decide +kernel) rfl
theorem q56_60 : zQ 56 60 [v0, v1, v2, .int x, v4, v5, v6, v7, v8] st M Q ↔ zQ 56 61 [v0, v1, v2, .int x, v4, v5, v6, v7, v8] (.int x :: st) M Q := zq_go (i := .iload_n 3) (by decide +kernel) rfl
theorem q56_61 : zQ 56 61 [v0, v1, v2, v3, .int x, v5, v6, v7, v8] st M Q ↔ zQ 56 63 [v0, v1, v2, v3, .int x, v5, v6, v7, v8] (.int x :: st) M Q := zq_go (i := .iload 4) (by decide +kernel) rfl
theorem q56_63 : zQ 56 63 L (.int x3 :: .int x2 :: .int x1 :: .ref a :: st) M Q ↔ (zcs st ≤ 8 ∧ a < zNC ∧ zk a = 2) ∧ zQ 11 0 [.ref a, .int x1, .int x2, .int x3, .null] [] M (fun r M1 => zQ 56 66 L (zpush r st) M1 Q) := zq_callV (n := 57) (j := 11) (b := true) (As := [.int x1, .int x2, .int x3]) (by decide +kernel) (by decide +kernel) ⟨by decide +kernel, by decide +kernel, rfl, by decide +kernel, by decide +kernel, Nat.le_of_ble_eq_true rfl⟩ rfl
theorem q56_66i : zQ 56 66 [v0, v1, v2, v3, v4, .int y, v6, v7, v8] (.int x :: st) M Q ↔ zQ 56 68 [v0, v1, v2, v3, v4, .int y, .int x, v7, v8] st M Q := zq_stI (i := .istore 6) (k := 6) (by decide +kernel) rfl (Nat.le_of_ble_eq_true rfl) rfl rfl
theorem q56_66r : zQ 56 66 [v0, v1, v2, v3, v4, .ref r1, v6, v7, v8] (.int x :: st) M Q ↔ zQ 56 68 [v0, v1, v2, v3, v4, .ref r1, .int x, v7, v8] st M Q := zq_stI (i := .istore 6) (k := 6) (by decide +kernel) rfl (Nat.le_of_ble_eq_true rfl) rfl rfl
theorem q56_66n : zQ 56 66 [v0, v1, v2, v3, v4, .null, v6, v7, v8] (.int x :: st) M Q ↔ zQ 56 68 [v0, v1, v2, v3, v4, .null, .int x, v7, v8] st M Q := zq_stI (i := .istore 6) (k := 6) (by decide +kernel) rfl (Nat.le_of_ble_eq_true rfl) rfl rfl
theorem q56_68 : zQ 56 68 [v0, v1, v2, v3, v4, v5, .int x, v7, v8] st M Q ↔ zQ 56 70 [v0, v1, v2, v3, v4, v5, .int x, v7, v8] (.int x :: st) M Q := zq_go (i := .iload 6) (by decide +kernel) rfl
theorem q56_70 : zQ 56 70 L (.int x :: st) M Q ↔ (x = 0 → zQ 56 80 L st M Q) ∧ (¬ x = 0 → zQ 56 73 L st M Q) := zq_br (i := .ifCond .eq 10) (off := 10) (by decide +kernel) rfl (by decide) rfl
theorem q56_73 : zQ 56 73 [.ref a, v1, v2, v3, v4, v5, v6, v7, v8] st M Q ↔ zQ 56 74 [.ref a, v1, v2, v3, v4, v5, v6, v7, v8] (.ref a :: st) M Q := zq_go (i := .aload_n 0) (by decide +kernel) rfl
theorem q56_74 : zQ 56 74 [v0, v1, v2, v3, v4, v5, .int x, v7, v8] st M Q ↔ zQ 56 76 [v0, v1, v2, v3, v4, v5, .int x, v7, v8] (.int x :: st) M Q := zq_go (i := .iload 6) (by decide +kernel) rfl
theorem q56_76 : zQ 56 76 L (.int x1 :: .ref a :: st) M Q ↔ (zcs st ≤ 8 ∧ a < zNC ∧ zk a = 5) ∧ zQ 76 0 [.ref a, .int x1] [] M (fun r M1 => zQ 56 79 L (zpush r st) M1 Q) := zq_callV (n := 61) (j := 76) (b := false) (As := [.int x1]) (by decide +kernel) (by decide +kernel) ⟨by decide +kernel, by decide +kernel, rfl, by decide +kernel, by decide +kernel, Nat.le_of_ble_eq_true rfl⟩ rfl
theorem q56_79 : zQ 56 79 L [.int x] M Q ↔ Q (zI x) M := zq_reI (by decide +kernel) (by decide +kernel)
theorem q56_80 : zQ 56 80 L st M Q ↔ zQ 56 81 L (.int 0 :: st) M Q := zq_con (n := 0) (by decide +kernel) (by decide +kernel) rfl
theorem q56_81i : zQ 56 81 [v0, v1, v2, v3, v4, v5, .int y, v7, v8] (.int x :: st) M Q ↔ zQ 56 83 [v0, v1, v2, v3, v4, v5, .int y, .int x, v8] st M Q := zq_stI (i := .istore 7) (k := 7) (by decide +kernel) rfl (Nat.le_of_ble_eq_true rfl) rfl rfl
theorem q56_81r : zQ 56 81 [v0, v1, v2, v3, v4, v5, .ref r1, v7, v8] (.int x :: st) M Q ↔ zQ 56 83 [v0, v1, v2, v3, v4, v5, .ref r1, .int x, v8] st M Q := zq_stI (i := .istore 7) (k := 7) (by decide +kernel) rfl (Nat.le_of_ble_eq_true rfl) rfl rfl
theorem q56_81n : zQ 56 81 [v0, v1, v2, v3, v4, v5, .null, v7, v8] (.int x :: st) M Q ↔ zQ 56 83 [v0, v1, v2, v3, v4, v5, .null, .int x, v8] st M Q := zq_stI (i := .istore 7) (k := 7) (by decide +kernel) rfl (Nat.le_of_ble_eq_true rfl) rfl rfl
theorem q56_83 : zQ 56 83 L st M Q ↔ zQ 56 84 L (.int 0 :: st) M Q := zq_con (n := 0) (by decide +kernel) (by decide +kernel) rfl
theorem q56_84i : zQ 56 84 [v0, v1, v2, v3, v4, v5, v6, .int y, v8] (.int x :: st) M Q ↔ zQ 56 86 [v0, v1, v2, v3, v4, v5, v6, .int y, .int x] st M Q := zq_stI (i := .istore 8) (k := 8) (by decide +kernel) rfl (Nat.le_of_ble_eq_true rfl) rfl rfl
theorem q56_84r : zQ 56 84 [v0, v1, v2, v3, v4, v5, v6, .ref r1, v8] (.int x :: st) M Q ↔ zQ 56 86 [v0, v1, v2, v3, v4, v5, v6, .ref r1, .int x] st M Q := zq_stI (i := .istore 8) (k := 8) (by decide +kernel) rfl (Nat.le_of_ble_eq_true rfl) rfl rfl
theorem q56_84n : zQ 56 84 [v0, v1, v2, v3, v4, v5, v6, .null, v8] (.int x :: st) M Q ↔ zQ 56 86 [v0, v1, v2, v3, v4, v5, v6, .null, .int x] st M Q := zq_stI (i := .istore 8) (k := 8) (by decide +kernel) rfl (Nat.le_of_ble_eq_true rfl) rfl rfl
theorem q56_86 : zQ 56 86 [v0, v1, v2, v3, v4, v5, v6, v7, .int x] st M Q ↔ zQ 56 88 [v0, v1, v2, v3, v4, v5, v6, v7, .int x] (.int x :: st) M Q := zq_go (i := .iload 8) (by decide +kernel) rfl
theorem q56_88 : zQ 56 88 [.ref a, v1, v2, v3, v4, v5, v6, v7, v8] st M Q ↔ zQ 56 89 [.ref a, v1, v2, v3, v4, v5, v6, v7, v8] (.ref a :: st) M Q := zq_go (i := .aload_n 0) (by decide +kernel) rfl
theorem q56_89 : zQ 56 89 L (.ref a :: st) M Q ↔ (a < zNC ∧ zk a = 5) ∧ zQ 56 92 L (zfv a 0 M :: st) M Q := zq_getf (n := 12) (b := false) (by decide +kernel) (by decide +kernel)
theorem q56_92 : zQ 56 92 L (.ref a :: st) M Q ↔ (a < zNC ∧ zk a = 4) ∧ zQ 56 95 L (zfv a 7 M :: st) M Q := zq_getf (n := 76) (b := true) (by decide +kernel) (by decide +kernel)
theorem q56_95 : zQ 56 95 L (.int y :: .int x :: st) M Q ↔ (y ≤ x → zQ 56 130 L st M Q) ∧ (¬ y ≤ x → zQ 56 98 L st M Q) := zq_br (i := .if_icmp .ge 35) (off := 35) (by decide +kernel) rfl (by decide) rfl
theorem q56_98 : zQ 56 98 [.ref a, v1, v2, v3, v4, v5, v6, v7, v8] st M Q ↔ zQ 56 99 [.ref a, v1, v2, v3, v4, v5, v6, v7, v8] (.ref a :: st) M Q := zq_go (i := .aload_n 0) (by decide +kernel) rfl
theorem q56_99 : zQ 56 99 L (.ref a :: st) M Q ↔ (a < zNC ∧ zk a = 5) ∧ zQ 56 102 L (zfv a 0 M :: st) M Q := zq_getf (n := 12) (b := false) (by decide +kernel) (by decide +kernel)
theorem q56_102 : zQ 56 102 [v0, v1, v2, v3, v4, v5, v6, v7, .int x] st M Q ↔ zQ 56 104 [v0, v1, v2, v3, v4, v5, v6, v7, .int x] (.int x :: st) M Q := zq_go (i := .iload 8) (by decide +kernel) rfl
theorem q56_104 : zQ 56 104 [v0, v1, v2, v3, v4, .ref a, v6, v7, v8] st M Q ↔ zQ 56 106 [v0, v1, v2, v3, v4, .ref a, v6, v7, v8] (.ref a :: st) M Q := zq_go (i := .aload 5) (by decide +kernel) rfl
theorem q56_106 : zQ 56 106 [v0, v1, v2, .int x, v4, v5, v6, v7, v8] st M Q ↔ zQ 56 107 [v0, v1, v2, .int x, v4, v5, v6, v7, v8] (.int x :: st) M Q := zq_go (i := .iload_n 3) (by decide +kernel) rfl
theorem q56_107 : zQ 56 107 [v0, v1, v2, v3, .int x, v5, v6, v7, v8] st M Q ↔ zQ 56 109 [v0, v1, v2, v3, .int x, v5, v6, v7, v8] (.int x :: st) M Q := zq_go (i := .iload 4) (by decide +kernel) rfl
theorem q56_109 : zQ 56 109 L (.int x3 :: .int x2 :: .ref r1 :: .int x1 :: .ref a :: st) M Q ↔ (zcs st ≤ 8 ∧ a < zNC ∧ zk a = 4) ∧ zQ 37 0 [.ref a, .int x1, .ref r1, .int x2, .int x3, .null] [] M (fun r M1 => zQ 56 112 L (zpush r st) M1 Q) := zq_callV (n := 169) (j := 37) (b := true) (As := [.int x1, .ref r1, .int x2, .int x3]) (by decide +kernel) (by decide +kernel) ⟨by decide +kernel, by decide +kernel, rfl, by decide +kernel, by decide +kernel, Nat.le_of_ble_eq_true rfl⟩ rfl
theorem q56_112 : zQ 56 112 L (.int x :: st) M Q ↔ (x = 0 → zQ 56 124 L st M Q) ∧ (¬ x = 0 → zQ 56 115 L st M Q) := zq_br (i := .ifCond .eq 12) (off := 12) (by decide +kernel) rfl (by decide) rfl
theorem q56_115 : zQ 56 115 [v0, v1, v2, v3, v4, v5, v6, .int x, v8] st M Q ↔ zQ 56 117 [v0, v1, v2, v3, v4, v5, v6, .int x, v8] (.int x :: st) M Q := zq_go (i := .iload 7) (by decide +kernel) rfl
theorem q56_117 : zQ 56 117 L st M Q ↔ zQ 56 118 L (.int 1 :: st) M Q := zq_con (n := 1) (by decide +kernel) (by decide +kernel) rfl
theorem q56_118 : zQ 56 118 [v0, v1, v2, v3, v4, v5, v6, v7, .int x] st M Q ↔ zQ 56 120 [v0, v1, v2, v3, v4, v5, v6, v7, .int x] (.int x :: st) M Q := zq_go (i := .iload 8) (by decide +kernel) rfl
theorem q56_120 : zQ 56 120 L (.int y :: .int x :: st) M Q ↔ zQ 56 121 L (.int (x <<< (y &&& 31)) :: st) M Q := zq_go (i := .ishl) (by decide +kernel) rfl
theorem q56_121 : zQ 56 121 L (.int y :: .int x :: st) M Q ↔ zQ 56 122 L (.int (x ||| y) :: st) M Q := zq_go (i := .ior) (by decide +kernel) rfl
theorem q56_122i : zQ 56 122 [v0, v1, v2, v3, v4, v5, .int y, v7, v8] (.int x :: st) M Q ↔ zQ 56 124 [v0, v1, v2, v3, v4, v5, .int y, .int x, v8] st M Q := zq_stI (i := .istore 7) (k := 7) (by decide +kernel) rfl (Nat.le_of_ble_eq_true rfl) rfl rfl
theorem q56_122r : zQ 56 122 [v0, v1, v2, v3, v4, v5, .ref r1, v7, v8] (.int x :: st) M Q ↔ zQ 56 124 [v0, v1, v2, v3, v4, v5, .ref r1, .int x, v8] st M Q := zq_stI (i := .istore 7) (k := 7) (by decide +kernel) rfl (Nat.le_of_ble_eq_true rfl) rfl rfl
theorem q56_122n : zQ 56 122 [v0, v1, v2, v3, v4, v5, .null, v7, v8] (.int x :: st) M Q ↔ zQ 56 124 [v0, v1, v2, v3, v4, v5, .null, .int x, v8] st M Q := zq_stI (i := .istore 7) (k := 7) (by decide +kernel) rfl (Nat.le_of_ble_eq_true rfl) rfl rfl
theorem q56_124i : zQ 56 124 [v0, v1, v2, v3, v4, v5, v6, .int y, .int x] st M Q ↔ zQ 56 127 [v0, v1, v2, v3, v4, v5, v6, .int y, .int (x + 1)] st M Q := zq_inc (k := 8) (n := 1) (x := x) (v := 1) (by decide +kernel) (by decide +kernel) rfl rfl rfl rfl
theorem q56_124r : zQ 56 124 [v0, v1, v2, v3, v4, v5, v6, .ref r1, .int x] st M Q ↔ zQ 56 127 [v0, v1, v2, v3, v4, v5, v6, .ref r1, .int (x + 1)] st M Q := zq_inc (k := 8) (n := 1) (x := x) (v := 1) (by decide +kernel) (by decide +kernel) rfl rfl rfl rfl
theorem q56_124n : zQ 56 124 [v0, v1, v2, v3, v4, v5, v6, .null, .int x] st M Q ↔ zQ 56 127 [v0, v1, v2, v3, v4, v5, v6, .null, .int (x + 1)] st M Q := zq_inc (k := 8) (n := 1) (x := x) (v := 1) (by decide +kernel) (by decide +kernel) rfl rfl rfl rfl
theorem q56_127 : zQ 56 127 L st M Q ↔ zQ 56 86 L st M Q := zq_jmp (off := (-41)) (by decide +kernel) (by decide)
theorem q56_130 : zQ 56 130 [v0, v1, v2, v3, v4, v5, v6, .int x, v8] st M Q ↔ zQ 56 132 [v0, v1, v2, v3, v4, v5, v6, .int x, v8] (.int x :: st) M Q := zq_go (i := .iload 7) (by decide +kernel) rfl
theorem q56_132 : zQ 56 132 L [.int x] M Q ↔ Q (zI x) M := zq_reI (by decide +kernel) (by decide +kernel)
-- 57 SandKeepers.reading(III)I
theorem q57_0 : zQ 57 0 [.ref a, v1, v2, v3] st M Q ↔ zQ 57 1 [.ref a, v1, v2, v3] (.ref a :: st) M Q := zq_go (i := .aload_n 0) (by decide +kernel) rfl
theorem q57_1 : zQ 57 1 L (.ref a :: st) M Q ↔ (a < zNC ∧ zk a = 5) ∧ zQ 57 4 L (zfv a 0 M :: st) M Q := zq_getf (n := 12) (b := false) (by decide +kernel) (by decide +kernel)
theorem q57_4 : zQ 57 4 [v0, .int x, v2, v3] st M Q ↔ zQ 57 5 [v0, .int x, v2, v3] (.int x :: st) M Q := zq_go (i := .iload_n 1) (by decide +kernel) rfl
theorem q57_5 : zQ 57 5 L (.int x1 :: .ref a :: st) M Q ↔ (zcs st ≤ 8 ∧ a < zNC ∧ zk a = 4) ∧ zQ 17 0 [.ref a, .int x1] [] M (fun r M1 => zQ 57 8 L (zpush r st) M1 Q) := zq_callV (n := 79) (j := 17) (b := true) (As := [.int x1]) (by decide +kernel) (by decide +kernel) ⟨by decide +kernel, by decide +kernel, rfl, by decide +kernel, by decide +kernel, Nat.le_of_ble_eq_true rfl⟩ rfl
theorem q57_8 : zQ 57 8 L (.int x :: st) M Q ↔ (x = 0 → zQ 57 11 L st M Q) ∧ (¬ x = 0 → zQ 57 13 L st M Q) := zq_bn (i := .ifCond .ne 5) (off := 5) (by decide +kernel) rfl (by decide) rfl
theorem q57_11 : zQ 57 11 L st M Q ↔ zQ 57 12 L (.int (-1) :: st) M Q := zq_con (n := (-1)) (by decide +kernel) (by decide +kernel) rfl
theorem q57_12 : zQ 57 12 L [.int x] M Q ↔ Q (zI x) M := zq_reI (by decide +kernel) (by decide +kernel)
theorem q57_13 : zQ 57 13 [v0, v1, .int x, v3] st M Q ↔ zQ 57 14 [v0, v1, .int x, v3] (.int x :: st) M Q := zq_go (i := .iload_n 2) (by decide +kernel) rfl
theorem q57_14 : zQ 57 14 L st M Q ↔ zQ 57 16 L (.int 100 :: st) M Q := zq_bip (n := 100) (by decide +kernel) (by decide +kernel) rfl
theorem q57_16 : zQ 57 16 L (.int x2 :: .int x1 :: st) M Q ↔ zcs st ≤ 8 ∧ zQ 74 0 [.int x1, .int x2] [] M (fun r M1 => zQ 57 19 L (zpush r st) M1 Q) := zq_callS (n := 53) (j := 74) (b := false) (As := [.int x1, .int x2]) (by decide +kernel) (by decide +kernel) ⟨by decide +kernel, by decide +kernel, rfl, by decide +kernel, by decide +kernel, Nat.le_of_ble_eq_true rfl⟩ rfl
theorem q57_19 : zQ 57 19 L (.int x :: st) M Q ↔ (x = 0 → zQ 57 31 L st M Q) ∧ (¬ x = 0 → zQ 57 22 L st M Q) := zq_br (i := .ifCond .eq 12) (off := 12) (by decide +kernel) rfl (by decide) rfl
theorem q57_22 : zQ 57 22 [v0, v1, v2, .int x] st M Q ↔ zQ 57 23 [v0, v1, v2, .int x] (.int x :: st) M Q := zq_go (i := .iload_n 3) (by decide +kernel) rfl
theorem q57_23 : zQ 57 23 L st M Q ↔ zQ 57 25 L (.int 100 :: st) M Q := zq_bip (n := 100) (by decide +kernel) (by decide +kernel) rfl
theorem q57_25 : zQ 57 25 L (.int x2 :: .int x1 :: st) M Q ↔ zcs st ≤ 8 ∧ zQ 74 0 [.int x1, .int x2] [] M (fun r M1 => zQ 57 28 L (zpush r st) M1 Q) := zq_callS (n := 53) (j := 74) (b := false) (As := [.int x1, .int x2]) (by decide +kernel) (by decide +kernel) ⟨by decide +kernel, by decide +kernel, rfl, by decide +kernel, by decide +kernel, Nat.le_of_ble_eq_true rfl⟩ rfl
theorem q57_28 : zQ 57 28 L (.int x :: st) M Q ↔ (x = 0 → zQ 57 31 L st M Q) ∧ (¬ x = 0 → zQ 57 34 L st M Q) := zq_bn (i := .ifCond .ne 6) (off := 6) (by decide +kernel) rfl (by decide) rfl
theorem q57_31 : zQ 57 31 L st M Q ↔ zQ 57 33 L (.int (-2) :: st) M Q := zq_bip (n := (-2)) (by decide +kernel) (by decide +kernel) rfl
theorem q57_33 : zQ 57 33 L [.int x] M Q ↔ Q (zI x) M := zq_reI (by decide +kernel) (by decide +kernel)
theorem q57_34 : zQ 57 34 [.ref a, v1, v2, v3] st M Q ↔ zQ 57 35 [.ref a, v1, v2, v3] (.ref a :: st) M Q := zq_go (i := .aload_n 0) (by decide +kernel) rfl
theorem q57_35 : zQ 57 35 L (.ref a :: st) M Q ↔ (a < zNC ∧ zk a = 5) ∧ zQ 57 38 L (zfv a 4 M :: st) M Q := zq_getf (n := 38) (b := false) (by decide +kernel) (by decide +kernel)
theorem q57_38 : zQ 57 38 L (.ref a :: st) M Q ↔ (a < zNC ∧ zk a = 0) ∧ zQ 57 41 L (zfv a 3 M :: st) M Q := zq_getf (n := 73) (b := true) (by decide +kernel) (by decide +kernel)
theorem q57_41 : zQ 57 41 L st M Q ↔ zQ 57 43 L (.int 8 :: st) M Q := zq_bip (n := 8) (by decide +kernel) (by decide +kernel) rfl
theorem q57_43 : zQ 57 43 L (.int y :: .int x :: st) M Q ↔ (y ≤ x → zQ 57 59 L st M Q) ∧ (¬ y ≤ x → zQ 57 46 L st M Q) := zq_br (i := .if_icmp .ge 16) (off := 16) (by decide +kernel) rfl (by decide) rfl
theorem q57_46 : zQ 57 46 [.ref a, v1, v2, v3] st M Q ↔ zQ 57 47 [.ref a, v1, v2, v3] (.ref a :: st) M Q := zq_go (i := .aload_n 0) (by decide +kernel) rfl
theorem q57_47 : zQ 57 47 L (.ref a :: st) M Q ↔ (a < zNC ∧ zk a = 5) ∧ zQ 57 50 L (zfv a 4 M :: st) M Q := zq_getf (n := 38) (b := false) (by decide +kernel) (by decide +kernel)
theorem q57_50 : zQ 57 50 [v0, .int x, v2, v3] st M Q ↔ zQ 57 51 [v0, .int x, v2, v3] (.int x :: st) M Q := zq_go (i := .iload_n 1) (by decide +kernel) rfl
theorem q57_51 : zQ 57 51 [v0, v1, .int x, v3] st M Q ↔ zQ 57 52 [v0, v1, .int x, v3] (.int x :: st) M Q := zq_go (i := .iload_n 2) (by decide +kernel) rfl
theorem q57_52 : zQ 57 52 [v0, v1, v2, .int x] st M Q ↔ zQ 57 53 [v0, v1, v2, .int x] (.int x :: st) M Q := zq_go (i := .iload_n 3) (by decide +kernel) rfl
theorem q57_53 : zQ 57 53 L (.int x3 :: .int x2 :: .int x1 :: .ref a :: st) M Q ↔ (zcs st ≤ 8 ∧ a < zNC ∧ zk a = 0) ∧ zQ 0 0 [.ref a, .int x1, .int x2, .int x3] [] M (fun r M1 => zQ 57 56 L (zpush r st) M1 Q) := zq_callV (n := 173) (j := 0) (b := true) (As := [.int x1, .int x2, .int x3]) (by decide +kernel) (by decide +kernel) ⟨by decide +kernel, by decide +kernel, rfl, by decide +kernel, by decide +kernel, Nat.le_of_ble_eq_true rfl⟩ rfl
theorem q57_56 : zQ 57 56 L st M Q ↔ zQ 57 61 L st M Q := zq_jmp (off := 5) (by decide +kernel) (by decide)
theorem q57_59 : zQ 57 59 L st M Q ↔ zQ 57 61 L (.int (-4) :: st) M Q := zq_bip (n := (-4)) (by decide +kernel) (by decide +kernel) rfl
theorem q57_61 : zQ 57 61 L [.int x] M Q ↔ Q (zI x) M := zq_reI (by decide +kernel) (by decide +kernel)
-- 58 SandKeepers.back(I)I
theorem q58_0 : zQ 58 0 [v0, .int x] st M Q ↔ zQ 58 1 [v0, .int x] (.int x :: st) M Q := zq_go (i := .iload_n 1) (by decide +kernel) rfl
theorem q58_1 : zQ 58 1 L (.int x :: st) M Q ↔ (x < 0 → zQ 58 15 L st M Q) ∧ (¬ x < 0 → zQ 58 4 L st M Q) := zq_br (i := .ifCond .lt 14) (off := 14) (by decide +kernel) rfl (by decide) rfl
theorem q58_4 : zQ 58 4 [v0, .int x] st M Q ↔ zQ 58 5 [v0, .int x] (.int x :: st) M Q := zq_go (i := .iload_n 1) (by decide +kernel) rfl
theorem q58_5 : zQ 58 5 [.ref a, v1] st M Q ↔ zQ 58 6 [.ref a, v1] (.ref a :: st) M Q := zq_go (i := .aload_n 0) (by decide +kernel) rfl
theorem q58_6 : zQ 58 6 L (.ref a :: st) M Q ↔ (a < zNC ∧ zk a = 5) ∧ zQ 58 9 L (zfv a 4 M :: st) M Q := zq_getf (n := 38) (b := false) (by decide +kernel) (by decide +kernel)
theorem q58_9 : zQ 58 9 L (.ref a :: st) M Q ↔ (a < zNC ∧ zk a = 0) ∧ zQ 58 12 L (zfv a 3 M :: st) M Q := zq_getf (n := 73) (b := true) (by decide +kernel) (by decide +kernel)
theorem q58_12 : zQ 58 12 L (.int y :: .int x :: st) M Q ↔ (x ≤ y → zQ 58 18 L st M Q) ∧ (¬ x ≤ y → zQ 58 15 L st M Q) := zq_br (i := .if_icmp .le 6) (off := 6) (by decide +kernel) rfl (by decide) rfl
theorem q58_15 : zQ 58 15 L st M Q ↔ zQ 58 17 L (.int (-2) :: st) M Q := zq_bip (n := (-2)) (by decide +kernel) (by decide +kernel) rfl
theorem q58_17 : zQ 58 17 L [.int x] M Q ↔ Q (zI x) M := zq_reI (by decide +kernel) (by decide +kernel)
theorem q58_18 : zQ 58 18 [.ref a, v1] st M Q ↔ zQ 58 19 [.ref a, v1] (.ref a :: st) M Q := zq_go (i := .aload_n 0) (by decide +kernel) rfl
theorem q58_19 : zQ 58 19 L (.ref a :: st) M Q ↔ (a < zNC ∧ zk a = 5) ∧ zQ 58 22 L (zfv a 4 M :: st) M Q := zq_getf (n := 38) (b := false) (by decide +kernel) (by decide +kernel)
theorem q58_22 : zQ 58 22 L (.ref a :: st) M Q ↔ zQ 58 23 L (.ref a :: .ref a :: st) M Q := zq_go (i := .dup) (by decide +kernel) rfl
theorem q58_23 : zQ 58 23 L (.ref a :: st) M Q ↔ (a < zNC ∧ zk a = 0) ∧ zQ 58 26 L (zfv a 3 M :: st) M Q := zq_getf (n := 73) (b := true) (by decide +kernel) (by decide +kernel)
theorem q58_26 : zQ 58 26 [v0, .int x] st M Q ↔ zQ 58 27 [v0, .int x] (.int x :: st) M Q := zq_go (i := .iload_n 1) (by decide +kernel) rfl
theorem q58_27 : zQ 58 27 L (.int y :: .int x :: st) M Q ↔ zQ 58 28 L (.int (x - y) :: st) M Q := zq_go (i := .isub) (by decide +kernel) rfl
theorem q58_28 : zQ 58 28 L (.int x :: .ref a :: st) M Q ↔ (a < zNC ∧ zk a = 0 ∧ zf a 3 = none) ∧ zQ 58 31 L st (zup M a 3 x) Q := zq_putf (n := 73) (b := true) (by decide +kernel) (by decide +kernel) (by decide +kernel)
theorem q58_31 : zQ 58 31 [.ref a, v1] st M Q ↔ zQ 58 32 [.ref a, v1] (.ref a :: st) M Q := zq_go (i := .aload_n 0) (by decide +kernel) rfl
theorem q58_32 : zQ 58 32 L (.ref a :: st) M Q ↔ (a < zNC ∧ zk a = 5) ∧ zQ 58 35 L (zfv a 4 M :: st) M Q := zq_getf (n := 38) (b := false) (by decide +kernel) (by decide +kernel)
theorem q58_35 : zQ 58 35 L (.ref a :: st) M Q ↔ (a < zNC ∧ zk a = 0) ∧ zQ 58 38 L (zfv a 3 M :: st) M Q := zq_getf (n := 73) (b := true) (by decide +kernel) (by decide +kernel)
theorem q58_38 : zQ 58 38 L [.int x] M Q ↔ Q (zI x) M := zq_reI (by decide +kernel) (by decide +kernel)
-- 59 SandKeepers.necks(I)I
theorem q59_0 : zQ 59 0 [.ref a, v1] st M Q ↔ zQ 59 1 [.ref a, v1] (.ref a :: st) M Q := zq_go (i := .aload_n 0) (by decide +kernel) rfl
theorem q59_1 : zQ 59 1 L (.ref a :: st) M Q ↔ (a < zNC ∧ zk a = 5) ∧ zQ 59 4 L (zfv a 0 M :: st) M Q := zq_getf (n := 12) (b := false) (by decide +kernel) (by decide +kernel)
theorem q59_4 : zQ 59 4 [v0, .int x] st M Q ↔ zQ 59 5 [v0, .int x] (.int x :: st) M Q := zq_go (i := .iload_n 1) (by decide +kernel) rfl
theorem q59_5 : zQ 59 5 L (.int x1 :: .ref a :: st) M Q ↔ (zcs st ≤ 8 ∧ a < zNC ∧ zk a = 4) ∧ zQ 17 0 [.ref a, .int x1] [] M (fun r M1 => zQ 59 8 L (zpush r st) M1 Q) := zq_callV (n := 79) (j := 17) (b := true) (As := [.int x1]) (by decide +kernel) (by decide +kernel) ⟨by decide +kernel, by decide +kernel, rfl, by decide +kernel, by decide +kernel, Nat.le_of_ble_eq_true rfl⟩ rfl
theorem q59_8 : zQ 59 8 L (.int x :: st) M Q ↔ (x = 0 → zQ 59 35 L st M Q) ∧ (¬ x = 0 → zQ 59 11 L st M Q) := zq_br (i := .ifCond .eq 27) (off := 27) (by decide +kernel) rfl (by decide) rfl
theorem q59_11 : zQ 59 11 [.ref a, v1] st M Q ↔ zQ 59 12 [.ref a, v1] (.ref a :: st) M Q := zq_go (i := .aload_n 0) (by decide +kernel) rfl
theorem q59_12 : zQ 59 12 L (.ref a :: st) M Q ↔ (a < zNC ∧ zk a = 5) ∧ zQ 59 15 L (zfv a 4 M :: st) M Q := zq_getf (n := 38) (b := false) (by decide +kernel) (by decide +kernel)
theorem q59_15 : zQ 59 15 [.ref a, v1] st M Q ↔ zQ 59 16 [.ref a, v1] (.ref a :: st) M Q := zq_go (i := .aload_n 0) (by decide +kernel) rfl
theorem q59_16 : zQ 59 16 L (.ref a :: st) M Q ↔ (a < zNC ∧ zk a = 5) ∧ zQ 59 19 L (zfv a 0 M :: st) M Q := zq_getf (n := 12) (b := false) (by decide +kernel) (by decide +kernel)
theorem q59_19 : zQ 59 19 [.ref a, v1] st M Q ↔ zQ 59 20 [.ref a, v1] (.ref a :: st) M Q := zq_go (i := .aload_n 0) (by decide +kernel) rfl
theorem q59_20 : zQ 59 20 L (.ref a :: st) M Q ↔ (a < zNC ∧ zk a = 5) ∧ zQ 59 23 L (zfv a 0 M :: st) M Q := zq_getf (n := 12) (b := false) (by decide +kernel) (by decide +kernel)
theorem q59_23 : zQ 59 23 L (.ref a :: st) M Q ↔ (a < zNC ∧ zk a = 4) ∧ zQ 59 26 L (zfv a 3 M :: st) M Q := zq_getf (n := 90) (b := true) (by decide +kernel) (by decide +kernel)
theorem q59_26 : zQ 59 26 [v0, .int x] st M Q ↔ zQ 59 27 [v0, .int x] (.int x :: st) M Q := zq_go (i := .iload_n 1) (by decide +kernel) rfl
theorem q59_27 : zQ 59 27 L st M Q ↔ zQ 59 29 L (.int 10 :: st) M Q := zq_bip (n := 10) (by decide +kernel) (by decide +kernel) rfl
theorem q59_29 : zQ 59 29 L (.int x2 :: .int x1 :: .ref r2 :: .ref r1 :: .ref a :: st) M Q ↔ (zcs st ≤ 8 ∧ a < zNC ∧ zk a = 0) ∧ zQ 2 0 [.ref a, .ref r1, .ref r2, .int x1, .int x2, .null, .null, .null] [] M (fun r M1 => zQ 59 32 L (zpush r st) M1 Q) := zq_callV (n := 176) (j := 2) (b := true) (As := [.ref r1, .ref r2, .int x1, .int x2]) (by decide +kernel) (by decide +kernel) ⟨by decide +kernel, by decide +kernel, rfl, by decide +kernel, by decide +kernel, Nat.le_of_ble_eq_true rfl⟩ rfl
theorem q59_32 : zQ 59 32 L st M Q ↔ zQ 59 36 L st M Q := zq_jmp (off := 4) (by decide +kernel) (by decide)
theorem q59_35 : zQ 59 35 L st M Q ↔ zQ 59 36 L (.int (-1) :: st) M Q := zq_con (n := (-1)) (by decide +kernel) (by decide +kernel) rfl
theorem q59_36 : zQ 59 36 L [.int x] M Q ↔ Q (zI x) M := zq_reI (by decide +kernel) (by decide +kernel)
-- 60 SandKeepers.kinds(I)I
theorem q60_0 : zQ 60 0 [.ref a, v1] st M Q ↔ zQ 60 1 [.ref a, v1] (.ref a :: st) M Q := zq_go (i := .aload_n 0) (by decide +kernel) rfl
theorem q60_1 : zQ 60 1 L (.ref a :: st) M Q ↔ (a < zNC ∧ zk a = 5) ∧ zQ 60 4 L (zfv a 0 M :: st) M Q := zq_getf (n := 12) (b := false) (by decide +kernel) (by decide +kernel)
theorem q60_4 : zQ 60 4 [v0, .int x] st M Q ↔ zQ 60 5 [v0, .int x] (.int x :: st) M Q := zq_go (i := .iload_n 1) (by decide +kernel) rfl
theorem q60_5 : zQ 60 5 L (.int x1 :: .ref a :: st) M Q ↔ (zcs st ≤ 8 ∧ a < zNC ∧ zk a = 4) ∧ zQ 17 0 [.ref a, .int x1] [] M (fun r M1 => zQ 60 8 L (zpush r st) M1 Q) := zq_callV (n := 79) (j := 17) (b := true) (As := [.int x1]) (by decide +kernel) (by decide +kernel) ⟨by decide +kernel, by decide +kernel, rfl, by decide +kernel, by decide +kernel, Nat.le_of_ble_eq_true rfl⟩ rfl
theorem q60_8 : zQ 60 8 L (.int x :: st) M Q ↔ (x = 0 → zQ 60 34 L st M Q) ∧ (¬ x = 0 → zQ 60 11 L st M Q) := zq_br (i := .ifCond .eq 26) (off := 26) (by decide +kernel) rfl (by decide) rfl
theorem q60_11 : zQ 60 11 [.ref a, v1] st M Q ↔ zQ 60 12 [.ref a, v1] (.ref a :: st) M Q := zq_go (i := .aload_n 0) (by decide +kernel) rfl
theorem q60_12 : zQ 60 12 L (.ref a :: st) M Q ↔ (a < zNC ∧ zk a = 5) ∧ zQ 60 15 L (zfv a 4 M :: st) M Q := zq_getf (n := 38) (b := false) (by decide +kernel) (by decide +kernel)
theorem q60_15 : zQ 60 15 [.ref a, v1] st M Q ↔ zQ 60 16 [.ref a, v1] (.ref a :: st) M Q := zq_go (i := .aload_n 0) (by decide +kernel) rfl
theorem q60_16 : zQ 60 16 L (.ref a :: st) M Q ↔ (a < zNC ∧ zk a = 5) ∧ zQ 60 19 L (zfv a 0 M :: st) M Q := zq_getf (n := 12) (b := false) (by decide +kernel) (by decide +kernel)
theorem q60_19 : zQ 60 19 [.ref a, v1] st M Q ↔ zQ 60 20 [.ref a, v1] (.ref a :: st) M Q := zq_go (i := .aload_n 0) (by decide +kernel) rfl
theorem q60_20 : zQ 60 20 L (.ref a :: st) M Q ↔ (a < zNC ∧ zk a = 5) ∧ zQ 60 23 L (zfv a 0 M :: st) M Q := zq_getf (n := 12) (b := false) (by decide +kernel) (by decide +kernel)
theorem q60_23 : zQ 60 23 L (.ref a :: st) M Q ↔ (a < zNC ∧ zk a = 4) ∧ zQ 60 26 L (zfv a 0 M :: st) M Q := zq_getf (n := 83) (b := true) (by decide +kernel) (by decide +kernel)
theorem q60_26 : zQ 60 26 [v0, .int x] st M Q ↔ zQ 60 27 [v0, .int x] (.int x :: st) M Q := zq_go (i := .iload_n 1) (by decide +kernel) rfl
theorem q60_27 : zQ 60 27 L st M Q ↔ zQ 60 28 L (.int 3 :: st) M Q := zq_con (n := 3) (by decide +kernel) (by decide +kernel) rfl
theorem q60_28 : zQ 60 28 L (.int x2 :: .int x1 :: .ref r2 :: .ref r1 :: .ref a :: st) M Q ↔ (zcs st ≤ 8 ∧ a < zNC ∧ zk a = 0) ∧ zQ 2 0 [.ref a, .ref r1, .ref r2, .int x1, .int x2, .null, .null, .null] [] M (fun r M1 => zQ 60 31 L (zpush r st) M1 Q) := zq_callV (n := 176) (j := 2) (b := true) (As := [.ref r1, .ref r2, .int x1, .int x2]) (by decide +kernel) (by decide +kernel) ⟨by decide +kernel, by decide +kernel, rfl, by decide +kernel, by decide +kernel, Nat.le_of_ble_eq_true rfl⟩ rfl
theorem q60_31 : zQ 60 31 L st M Q ↔ zQ 60 35 L st M Q := zq_jmp (off := 4) (by decide +kernel) (by decide)
theorem q60_34 : zQ 60 34 L st M Q ↔ zQ 60 35 L (.int (-1) :: st) M Q := zq_con (n := (-1)) (by decide +kernel) (by decide +kernel) rfl
theorem q60_35 : zQ 60 35 L [.int x] M Q ↔ Q (zI x) M := zq_reI (by decide +kernel) (by decide +kernel)
-- 61 SandKeepers.keepers(I)I
theorem q61_0 : zQ 61 0 [.ref a, v1] st M Q ↔ zQ 61 1 [.ref a, v1] (.ref a :: st) M Q := zq_go (i := .aload_n 0) (by decide +kernel) rfl
theorem q61_1 : zQ 61 1 L (.ref a :: st) M Q ↔ (a < zNC ∧ zk a = 5) ∧ zQ 61 4 L (zfv a 0 M :: st) M Q := zq_getf (n := 12) (b := false) (by decide +kernel) (by decide +kernel)
theorem q61_4 : zQ 61 4 [v0, .int x] st M Q ↔ zQ 61 5 [v0, .int x] (.int x :: st) M Q := zq_go (i := .iload_n 1) (by decide +kernel) rfl
theorem q61_5 : zQ 61 5 L (.int x1 :: .ref a :: st) M Q ↔ (zcs st ≤ 8 ∧ a < zNC ∧ zk a = 4) ∧ zQ 17 0 [.ref a, .int x1] [] M (fun r M1 => zQ 61 8 L (zpush r st) M1 Q) := zq_callV (n := 79) (j := 17) (b := true) (As := [.int x1]) (by decide +kernel) (by decide +kernel) ⟨by decide +kernel, by decide +kernel, rfl, by decide +kernel, by decide +kernel, Nat.le_of_ble_eq_true rfl⟩ rfl
theorem q61_8 : zQ 61 8 L (.int x :: st) M Q ↔ (x = 0 → zQ 61 40 L st M Q) ∧ (¬ x = 0 → zQ 61 11 L st M Q) := zq_br (i := .ifCond .eq 32) (off := 32) (by decide +kernel) rfl (by decide) rfl
theorem q61_11 : zQ 61 11 [.ref a, v1] st M Q ↔ zQ 61 12 [.ref a, v1] (.ref a :: st) M Q := zq_go (i := .aload_n 0) (by decide +kernel) rfl
theorem q61_12 : zQ 61 12 L (.ref a :: st) M Q ↔ (a < zNC ∧ zk a = 5) ∧ zQ 61 15 L (zfv a 4 M :: st) M Q := zq_getf (n := 38) (b := false) (by decide +kernel) (by decide +kernel)
theorem q61_15 : zQ 61 15 [.ref a, v1] st M Q ↔ zQ 61 16 [.ref a, v1] (.ref a :: st) M Q := zq_go (i := .aload_n 0) (by decide +kernel) rfl
theorem q61_16 : zQ 61 16 L (.ref a :: st) M Q ↔ (a < zNC ∧ zk a = 5) ∧ zQ 61 19 L (zfv a 0 M :: st) M Q := zq_getf (n := 12) (b := false) (by decide +kernel) (by decide +kernel)
theorem q61_19 : zQ 61 19 [.ref a, v1] st M Q ↔ zQ 61 20 [.ref a, v1] (.ref a :: st) M Q := zq_go (i := .aload_n 0) (by decide +kernel) rfl
theorem q61_20 : zQ 61 20 L (.ref a :: st) M Q ↔ (a < zNC ∧ zk a = 5) ∧ zQ 61 23 L (zfv a 0 M :: st) M Q := zq_getf (n := 12) (b := false) (by decide +kernel) (by decide +kernel)
theorem q61_23 : zQ 61 23 L (.ref a :: st) M Q ↔ (a < zNC ∧ zk a = 4) ∧ zQ 61 26 L (zfv a 5 M :: st) M Q := zq_getf (n := 96) (b := true) (by decide +kernel) (by decide +kernel)
theorem q61_26 : zQ 61 26 [v0, .int x] st M Q ↔ zQ 61 27 [v0, .int x] (.int x :: st) M Q := zq_go (i := .iload_n 1) (by decide +kernel) rfl
theorem q61_27 : zQ 61 27 [.ref a, v1] st M Q ↔ zQ 61 28 [.ref a, v1] (.ref a :: st) M Q := zq_go (i := .aload_n 0) (by decide +kernel) rfl
theorem q61_28 : zQ 61 28 L (.ref a :: st) M Q ↔ (a < zNC ∧ zk a = 5) ∧ zQ 61 31 L (zfv a 0 M :: st) M Q := zq_getf (n := 12) (b := false) (by decide +kernel) (by decide +kernel)
theorem q61_31 : zQ 61 31 L (.ref a :: st) M Q ↔ (a < zNC ∧ zk a = 4) ∧ zQ 61 34 L (zfv a 7 M :: st) M Q := zq_getf (n := 76) (b := true) (by decide +kernel) (by decide +kernel)
theorem q61_34 : zQ 61 34 L (.int x2 :: .int x1 :: .ref r2 :: .ref r1 :: .ref a :: st) M Q ↔ (zcs st ≤ 8 ∧ a < zNC ∧ zk a = 0) ∧ zQ 2 0 [.ref a, .ref r1, .ref r2, .int x1, .int x2, .null, .null, .null] [] M (fun r M1 => zQ 61 37 L (zpush r st) M1 Q) := zq_callV (n := 176) (j := 2) (b := true) (As := [.ref r1, .ref r2, .int x1, .int x2]) (by decide +kernel) (by decide +kernel) ⟨by decide +kernel, by decide +kernel, rfl, by decide +kernel, by decide +kernel, Nat.le_of_ble_eq_true rfl⟩ rfl
theorem q61_37 : zQ 61 37 L st M Q ↔ zQ 61 41 L st M Q := zq_jmp (off := 4) (by decide +kernel) (by decide)
theorem q61_40 : zQ 61 40 L st M Q ↔ zQ 61 41 L (.int (-1) :: st) M Q := zq_con (n := (-1)) (by decide +kernel) (by decide +kernel) rfl
theorem q61_41 : zQ 61 41 L [.int x] M Q ↔ Q (zI x) M := zq_reI (by decide +kernel) (by decide +kernel)
-- 62 SandKeepers.odds(III)J
theorem q62_0 : zQ 62 0 [.ref a, v1, v2, v3, v4, v5, v6] st M Q ↔ zQ 62 1 [.ref a, v1, v2, v3, v4, v5, v6] (.ref a :: st) M Q := zq_go (i := .aload_n 0) (by decide +kernel) rfl
theorem q62_1 : zQ 62 1 L (.ref a :: st) M Q ↔ (a < zNC ∧ zk a = 5) ∧ zQ 62 4 L (zfv a 0 M :: st) M Q := zq_getf (n := 12) (b := false) (by decide +kernel) (by decide +kernel)
theorem q62_4 : zQ 62 4 [v0, .int x, v2, v3, v4, v5, v6] st M Q ↔ zQ 62 5 [v0, .int x, v2, v3, v4, v5, v6] (.int x :: st) M Q := zq_go (i := .iload_n 1) (by decide +kernel) rfl
theorem q62_5 : zQ 62 5 L (.int x1 :: .ref a :: st) M Q ↔ (zcs st ≤ 8 ∧ a < zNC ∧ zk a = 4) ∧ zQ 17 0 [.ref a, .int x1] [] M (fun r M1 => zQ 62 8 L (zpush r st) M1 Q) := zq_callV (n := 79) (j := 17) (b := true) (As := [.int x1]) (by decide +kernel) (by decide +kernel) ⟨by decide +kernel, by decide +kernel, rfl, by decide +kernel, by decide +kernel, Nat.le_of_ble_eq_true rfl⟩ rfl
theorem q62_8 : zQ 62 8 L (.int x :: st) M Q ↔ (x = 0 → zQ 62 28 L st M Q) ∧ (¬ x = 0 → zQ 62 11 L st M Q) := zq_br (i := .ifCond .eq 20) (off := 20) (by decide +kernel) rfl (by decide) rfl
theorem q62_11 : zQ 62 11 [v0, v1, .int x, v3, v4, v5, v6] st M Q ↔ zQ 62 12 [v0, v1, .int x, v3, v4, v5, v6] (.int x :: st) M Q := zq_go (i := .iload_n 2) (by decide +kernel) rfl
theorem q62_12 : zQ 62 12 L st M Q ↔ zQ 62 14 L (.int 100 :: st) M Q := zq_bip (n := 100) (by decide +kernel) (by decide +kernel) rfl
theorem q62_14 : zQ 62 14 L (.int x2 :: .int x1 :: st) M Q ↔ zcs st ≤ 8 ∧ zQ 74 0 [.int x1, .int x2] [] M (fun r M1 => zQ 62 17 L (zpush r st) M1 Q) := zq_callS (n := 53) (j := 74) (b := false) (As := [.int x1, .int x2]) (by decide +kernel) (by decide +kernel) ⟨by decide +kernel, by decide +kernel, rfl, by decide +kernel, by decide +kernel, Nat.le_of_ble_eq_true rfl⟩ rfl
theorem q62_17 : zQ 62 17 L (.int x :: st) M Q ↔ (x = 0 → zQ 62 28 L st M Q) ∧ (¬ x = 0 → zQ 62 20 L st M Q) := zq_br (i := .ifCond .eq 11) (off := 11) (by decide +kernel) rfl (by decide) rfl
theorem q62_20 : zQ 62 20 [v0, v1, v2, .int x, v4, v5, v6] st M Q ↔ zQ 62 21 [v0, v1, v2, .int x, v4, v5, v6] (.int x :: st) M Q := zq_go (i := .iload_n 3) (by decide +kernel) rfl
theorem q62_21 : zQ 62 21 L st M Q ↔ zQ 62 22 L (.int 2 :: st) M Q := zq_con (n := 2) (by decide +kernel) (by decide +kernel) rfl
theorem q62_22 : zQ 62 22 L (.int x2 :: .int x1 :: st) M Q ↔ zcs st ≤ 8 ∧ zQ 74 0 [.int x1, .int x2] [] M (fun r M1 => zQ 62 25 L (zpush r st) M1 Q) := zq_callS (n := 53) (j := 74) (b := false) (As := [.int x1, .int x2]) (by decide +kernel) (by decide +kernel) ⟨by decide +kernel, by decide +kernel, rfl, by decide +kernel, by decide +kernel, Nat.le_of_ble_eq_true rfl⟩ rfl
theorem q62_25 : zQ 62 25 L (.int x :: st) M Q ↔ (x = 0 → zQ 62 28 L st M Q) ∧ (¬ x = 0 → zQ 62 32 L st M Q) := zq_bn (i := .ifCond .ne 7) (off := 7) (by decide +kernel) rfl (by decide) rfl
theorem q62_28 : zQ 62 28 L st M Q ↔ zQ 62 31 L (.long (-9223372036854775808) :: st) M Q := zq_ld2 (n := 180) (by decide +kernel) (by decide +kernel) rfl
theorem q62_31 : zQ 62 31 L [.long xl] M Q ↔ Q (zJ xl) M := zq_reJ (by decide +kernel) (by decide +kernel)
theorem q62_32 : zQ 62 32 [.ref a, v1, v2, v3, v4, v5, v6] st M Q ↔ zQ 62 33 [.ref a, v1, v2, v3, v4, v5, v6] (.ref a :: st) M Q := zq_go (i := .aload_n 0) (by decide +kernel) rfl
theorem q62_33 : zQ 62 33 L (.ref a :: st) M Q ↔ (a < zNC ∧ zk a = 5) ∧ zQ 62 36 L (zfv a 0 M :: st) M Q := zq_getf (n := 12) (b := false) (by decide +kernel) (by decide +kernel)
theorem q62_36 : zQ 62 36 L (.ref a :: st) M Q ↔ (a < zNC ∧ zk a = 4) ∧ zQ 62 39 L (zfv a 7 M :: st) M Q := zq_getf (n := 76) (b := true) (by decide +kernel) (by decide +kernel)
theorem q62_39 : zQ 62 39 L st M Q ↔ zQ 62 40 L (.int 1 :: st) M Q := zq_con (n := 1) (by decide +kernel) (by decide +kernel) rfl
theorem q62_40 : zQ 62 40 L (.int y :: .int x :: st) M Q ↔ zQ 62 41 L (.int (x - y) :: st) M Q := zq_go (i := .isub) (by decide +kernel) rfl
theorem q62_41i : zQ 62 41 [v0, v1, v2, .int y, v4, v5, v6] (.int x :: st) M Q ↔ zQ 62 43 [v0, v1, v2, .int y, .int x, v5, v6] st M Q := zq_stI (i := .istore 4) (k := 4) (by decide +kernel) rfl (Nat.le_of_ble_eq_true rfl) rfl rfl
theorem q62_41r : zQ 62 41 [v0, v1, v2, .ref r1, v4, v5, v6] (.int x :: st) M Q ↔ zQ 62 43 [v0, v1, v2, .ref r1, .int x, v5, v6] st M Q := zq_stI (i := .istore 4) (k := 4) (by decide +kernel) rfl (Nat.le_of_ble_eq_true rfl) rfl rfl
theorem q62_41n : zQ 62 41 [v0, v1, v2, .null, v4, v5, v6] (.int x :: st) M Q ↔ zQ 62 43 [v0, v1, v2, .null, .int x, v5, v6] st M Q := zq_stI (i := .istore 4) (k := 4) (by decide +kernel) rfl (Nat.le_of_ble_eq_true rfl) rfl rfl
theorem q62_43 : zQ 62 43 L st M Q ↔ zQ 62 44 L (.int 0 :: st) M Q := zq_con (n := 0) (by decide +kernel) (by decide +kernel) rfl
theorem q62_44i : zQ 62 44 [v0, v1, v2, v3, .int y, v5, v6] (.int x :: st) M Q ↔ zQ 62 46 [v0, v1, v2, v3, .int y, .int x, v6] st M Q := zq_stI (i := .istore 5) (k := 5) (by decide +kernel) rfl (Nat.le_of_ble_eq_true rfl) rfl rfl
theorem q62_44r : zQ 62 44 [v0, v1, v2, v3, .ref r1, v5, v6] (.int x :: st) M Q ↔ zQ 62 46 [v0, v1, v2, v3, .ref r1, .int x, v6] st M Q := zq_stI (i := .istore 5) (k := 5) (by decide +kernel) rfl (Nat.le_of_ble_eq_true rfl) rfl rfl
theorem q62_44n : zQ 62 44 [v0, v1, v2, v3, .null, v5, v6] (.int x :: st) M Q ↔ zQ 62 46 [v0, v1, v2, v3, .null, .int x, v6] st M Q := zq_stI (i := .istore 5) (k := 5) (by decide +kernel) rfl (Nat.le_of_ble_eq_true rfl) rfl rfl
theorem q62_46 : zQ 62 46 L st M Q ↔ zQ 62 47 L (.int 0 :: st) M Q := zq_con (n := 0) (by decide +kernel) (by decide +kernel) rfl
theorem q62_47i : zQ 62 47 [v0, v1, v2, v3, v4, .int y, v6] (.int x :: st) M Q ↔ zQ 62 49 [v0, v1, v2, v3, v4, .int y, .int x] st M Q := zq_stI (i := .istore 6) (k := 6) (by decide +kernel) rfl (Nat.le_of_ble_eq_true rfl) rfl rfl
theorem q62_47r : zQ 62 47 [v0, v1, v2, v3, v4, .ref r1, v6] (.int x :: st) M Q ↔ zQ 62 49 [v0, v1, v2, v3, v4, .ref r1, .int x] st M Q := zq_stI (i := .istore 6) (k := 6) (by decide +kernel) rfl (Nat.le_of_ble_eq_true rfl) rfl rfl
theorem q62_47n : zQ 62 47 [v0, v1, v2, v3, v4, .null, v6] (.int x :: st) M Q ↔ zQ 62 49 [v0, v1, v2, v3, v4, .null, .int x] st M Q := zq_stI (i := .istore 6) (k := 6) (by decide +kernel) rfl (Nat.le_of_ble_eq_true rfl) rfl rfl
theorem q62_49 : zQ 62 49 [v0, v1, v2, v3, v4, v5, .int x] st M Q ↔ zQ 62 51 [v0, v1, v2, v3, v4, v5, .int x] (.int x :: st) M Q := zq_go (i := .iload 6) (by decide +kernel) rfl
theorem q62_51 : zQ 62 51 [.ref a, v1, v2, v3, v4, v5, v6] st M Q ↔ zQ 62 52 [.ref a, v1, v2, v3, v4, v5, v6] (.ref a :: st) M Q := zq_go (i := .aload_n 0) (by decide +kernel) rfl
theorem q62_52 : zQ 62 52 L (.ref a :: st) M Q ↔ (a < zNC ∧ zk a = 5) ∧ zQ 62 55 L (zfv a 0 M :: st) M Q := zq_getf (n := 12) (b := false) (by decide +kernel) (by decide +kernel)
theorem q62_55 : zQ 62 55 L (.ref a :: st) M Q ↔ (a < zNC ∧ zk a = 4) ∧ zQ 62 58 L (zfv a 7 M :: st) M Q := zq_getf (n := 76) (b := true) (by decide +kernel) (by decide +kernel)
theorem q62_58 : zQ 62 58 L (.int y :: .int x :: st) M Q ↔ (y ≤ x → zQ 62 90 L st M Q) ∧ (¬ y ≤ x → zQ 62 61 L st M Q) := zq_br (i := .if_icmp .ge 32) (off := 32) (by decide +kernel) rfl (by decide) rfl
theorem q62_61 : zQ 62 61 [v0, v1, v2, v3, v4, v5, .int x] st M Q ↔ zQ 62 63 [v0, v1, v2, v3, v4, v5, .int x] (.int x :: st) M Q := zq_go (i := .iload 6) (by decide +kernel) rfl
theorem q62_63 : zQ 62 63 [v0, .int x, v2, v3, v4, v5, v6] st M Q ↔ zQ 62 64 [v0, .int x, v2, v3, v4, v5, v6] (.int x :: st) M Q := zq_go (i := .iload_n 1) (by decide +kernel) rfl
theorem q62_64 : zQ 62 64 L (.int y :: .int x :: st) M Q ↔ (x = y → zQ 62 84 L st M Q) ∧ (¬ x = y → zQ 62 67 L st M Q) := zq_br (i := .if_icmp .eq 20) (off := 20) (by decide +kernel) rfl (by decide) rfl
theorem q62_67 : zQ 62 67 [.ref a, v1, v2, v3, v4, v5, v6] st M Q ↔ zQ 62 68 [.ref a, v1, v2, v3, v4, v5, v6] (.ref a :: st) M Q := zq_go (i := .aload_n 0) (by decide +kernel) rfl
theorem q62_68 : zQ 62 68 L (.ref a :: st) M Q ↔ (a < zNC ∧ zk a = 5) ∧ zQ 62 71 L (zfv a 0 M :: st) M Q := zq_getf (n := 12) (b := false) (by decide +kernel) (by decide +kernel)
theorem q62_71 : zQ 62 71 [v0, .int x, v2, v3, v4, v5, v6] st M Q ↔ zQ 62 72 [v0, .int x, v2, v3, v4, v5, v6] (.int x :: st) M Q := zq_go (i := .iload_n 1) (by decide +kernel) rfl
theorem q62_72 : zQ 62 72 [v0, v1, v2, v3, v4, v5, .int x] st M Q ↔ zQ 62 74 [v0, v1, v2, v3, v4, v5, .int x] (.int x :: st) M Q := zq_go (i := .iload 6) (by decide +kernel) rfl
theorem q62_74 : zQ 62 74 L (.int x2 :: .int x1 :: .ref a :: st) M Q ↔ (zcs st ≤ 8 ∧ a < zNC ∧ zk a = 4) ∧ zQ 34 0 [.ref a, .int x1, .int x2, .null] [] M (fun r M1 => zQ 62 77 L (zpush r st) M1 Q) := zq_callV (n := 182) (j := 34) (b := true) (As := [.int x1, .int x2]) (by decide +kernel) (by decide +kernel) ⟨by decide +kernel, by decide +kernel, rfl, by decide +kernel, by decide +kernel, Nat.le_of_ble_eq_true rfl⟩ rfl
theorem q62_77 : zQ 62 77 [v0, v1, .int x, v3, v4, v5, v6] st M Q ↔ zQ 62 78 [v0, v1, .int x, v3, v4, v5, v6] (.int x :: st) M Q := zq_go (i := .iload_n 2) (by decide +kernel) rfl
theorem q62_78 : zQ 62 78 L (.int y :: .int x :: st) M Q ↔ (x < y → zQ 62 84 L st M Q) ∧ (¬ x < y → zQ 62 81 L st M Q) := zq_br (i := .if_icmp .lt 6) (off := 6) (by decide +kernel) rfl (by decide) rfl
theorem q62_81i : zQ 62 81 [v0, v1, v2, v3, .int y, .int x, v6] st M Q ↔ zQ 62 84 [v0, v1, v2, v3, .int y, .int (x + 1), v6] st M Q := zq_inc (k := 5) (n := 1) (x := x) (v := 1) (by decide +kernel) (by decide +kernel) rfl rfl rfl rfl
theorem q62_81r : zQ 62 81 [v0, v1, v2, v3, .ref r1, .int x, v6] st M Q ↔ zQ 62 84 [v0, v1, v2, v3, .ref r1, .int (x + 1), v6] st M Q := zq_inc (k := 5) (n := 1) (x := x) (v := 1) (by decide +kernel) (by decide +kernel) rfl rfl rfl rfl
theorem q62_81n : zQ 62 81 [v0, v1, v2, v3, .null, .int x, v6] st M Q ↔ zQ 62 84 [v0, v1, v2, v3, .null, .int (x + 1), v6] st M Q := zq_inc (k := 5) (n := 1) (x := x) (v := 1) (by decide +kernel) (by decide +kernel) rfl rfl rfl rfl
theorem q62_84i : zQ 62 84 [v0, v1, v2, v3, v4, .int y, .int x] st M Q ↔ zQ 62 87 [v0, v1, v2, v3, v4, .int y, .int (x + 1)] st M Q := zq_inc (k := 6) (n := 1) (x := x) (v := 1) (by decide +kernel) (by decide +kernel) rfl rfl rfl rfl
theorem q62_84r : zQ 62 84 [v0, v1, v2, v3, v4, .ref r1, .int x] st M Q ↔ zQ 62 87 [v0, v1, v2, v3, v4, .ref r1, .int (x + 1)] st M Q := zq_inc (k := 6) (n := 1) (x := x) (v := 1) (by decide +kernel) (by decide +kernel) rfl rfl rfl rfl
theorem q62_84n : zQ 62 84 [v0, v1, v2, v3, v4, .null, .int x] st M Q ↔ zQ 62 87 [v0, v1, v2, v3, v4, .null, .int (x + 1)] st M Q := zq_inc (k := 6) (n := 1) (x := x) (v := 1) (by decide +kernel) (by decide +kernel) rfl rfl rfl rfl
theorem q62_87 : zQ 62 87 L st M Q ↔ zQ 62 49 L st M Q := zq_jmp (off := (-38)) (by decide +kernel) (by decide)
theorem q62_90 : zQ 62 90 [v0, v1, v2, v3, .int x, v5, v6] st M Q ↔ zQ 62 92 [v0, v1, v2, v3, .int x, v5, v6] (.int x :: st) M Q := zq_go (i := .iload 4) (by decide +kernel) rfl
theorem q62_92 : zQ 62 92 [v0, v1, v2, v3, v4, .int x, v6] st M Q ↔ zQ 62 94 [v0, v1, v2, v3, v4, .int x, v6] (.int x :: st) M Q := zq_go (i := .iload 5) (by decide +kernel) rfl
theorem q62_94 : zQ 62 94 L (.int x2 :: .int x1 :: st) M Q ↔ zcs st ≤ 8 ∧ zQ 75 0 [.int x1, .int x2, .null] [] M (fun r M1 => zQ 62 97 L (zpush r st) M1 Q) := zq_callS (n := 185) (j := 75) (b := false) (As := [.int x1, .int x2]) (by decide +kernel) (by decide +kernel) ⟨by decide +kernel, by decide +kernel, rfl, by decide +kernel, by decide +kernel, Nat.le_of_ble_eq_true rfl⟩ rfl
theorem q62_97i : zQ 62 97 [v0, v1, v2, v3, v4, .int y, v6] (.int x :: st) M Q ↔ zQ 62 99 [v0, v1, v2, v3, v4, .int y, .int x] st M Q := zq_stI (i := .istore 6) (k := 6) (by decide +kernel) rfl (Nat.le_of_ble_eq_true rfl) rfl rfl
theorem q62_97r : zQ 62 97 [v0, v1, v2, v3, v4, .ref r1, v6] (.int x :: st) M Q ↔ zQ 62 99 [v0, v1, v2, v3, v4, .ref r1, .int x] st M Q := zq_stI (i := .istore 6) (k := 6) (by decide +kernel) rfl (Nat.le_of_ble_eq_true rfl) rfl rfl
theorem q62_97n : zQ 62 97 [v0, v1, v2, v3, v4, .null, v6] (.int x :: st) M Q ↔ zQ 62 99 [v0, v1, v2, v3, v4, .null, .int x] st M Q := zq_stI (i := .istore 6) (k := 6) (by decide +kernel) rfl (Nat.le_of_ble_eq_true rfl) rfl rfl
theorem q62_99 : zQ 62 99 [v0, v1, v2, .int x, v4, v5, v6] st M Q ↔ zQ 62 100 [v0, v1, v2, .int x, v4, v5, v6] (.int x :: st) M Q := zq_go (i := .iload_n 3) (by decide +kernel) rfl
theorem q62_100 : zQ 62 100 L (.int x :: st) M Q ↔ (x = 0 → zQ 62 103 L st M Q) ∧ (¬ x = 0 → zQ 62 112 L st M Q) := zq_bn (i := .ifCond .ne 12) (off := 12) (by decide +kernel) rfl (by decide) rfl
theorem q62_103 : zQ 62 103 [v0, v1, v2, v3, v4, .int x, v6] st M Q ↔ zQ 62 105 [v0, v1, v2, v3, v4, .int x, v6] (.int x :: st) M Q := zq_go (i := .iload 5) (by decide +kernel) rfl
theorem q62_105 : zQ 62 105 [v0, v1, v2, v3, v4, v5, .int x] st M Q ↔ zQ 62 107 [v0, v1, v2, v3, v4, v5, .int x] (.int x :: st) M Q := zq_go (i := .iload 6) (by decide +kernel) rfl
theorem q62_107 : zQ 62 107 L (.int y :: .int x :: st) M Q ↔ ¬ y = 0 ∧ zQ 62 108 L (.int (x / y) :: st) M Q := zq_div (by decide +kernel)
theorem q62_108 : zQ 62 108 L (.int x :: st) M Q ↔ zQ 62 109 L (.long x.toInt64 :: st) M Q := zq_go (i := .i2l) (by decide +kernel) rfl
theorem q62_109 : zQ 62 109 L st M Q ↔ zQ 62 118 L st M Q := zq_jmp (off := 9) (by decide +kernel) (by decide)
theorem q62_112 : zQ 62 112 [v0, v1, v2, v3, .int x, v5, v6] st M Q ↔ zQ 62 114 [v0, v1, v2, v3, .int x, v5, v6] (.int x :: st) M Q := zq_go (i := .iload 4) (by decide +kernel) rfl
theorem q62_114 : zQ 62 114 [v0, v1, v2, v3, v4, v5, .int x] st M Q ↔ zQ 62 116 [v0, v1, v2, v3, v4, v5, .int x] (.int x :: st) M Q := zq_go (i := .iload 6) (by decide +kernel) rfl
theorem q62_116 : zQ 62 116 L (.int y :: .int x :: st) M Q ↔ ¬ y = 0 ∧ zQ 62 117 L (.int (x / y) :: st) M Q := zq_div (by decide +kernel)
theorem q62_117 : zQ 62 117 L (.int x :: st) M Q ↔ zQ 62 118 L (.long x.toInt64 :: st) M Q := zq_go (i := .i2l) (by decide +kernel) rfl
theorem q62_118 : zQ 62 118 L [.long xl] M Q ↔ Q (zJ xl) M := zq_reJ (by decide +kernel) (by decide +kernel)
-- 63 SandKeepers.sheet(III)I
theorem q63_0 : zQ 63 0 [.ref a, v1, v2, v3] st M Q ↔ zQ 63 1 [.ref a, v1, v2, v3] (.ref a :: st) M Q := zq_go (i := .aload_n 0) (by decide +kernel) rfl
theorem q63_1 : zQ 63 1 L st M Q ↔ zQ 63 2 L (.int 0 :: st) M Q := zq_con (n := 0) (by decide +kernel) (by decide +kernel) rfl
theorem q63_2 : zQ 63 2 L (.int x :: .ref a :: st) M Q ↔ (a < zNC ∧ zk a = 5 ∧ zf a 7 = none) ∧ zQ 63 5 L st (zup M a 7 x) Q := zq_putf (n := 49) (b := false) (by decide +kernel) (by decide +kernel) (by decide +kernel)
theorem q63_5 : zQ 63 5 [v0, .int x, v2, v3] st M Q ↔ zQ 63 6 [v0, .int x, v2, v3] (.int x :: st) M Q := zq_go (i := .iload_n 1) (by decide +kernel) rfl
theorem q63_6 : zQ 63 6 L st M Q ↔ zQ 63 7 L (.int 4 :: st) M Q := zq_con (n := 4) (by decide +kernel) (by decide +kernel) rfl
theorem q63_7 : zQ 63 7 L (.int x2 :: .int x1 :: st) M Q ↔ zcs st ≤ 8 ∧ zQ 74 0 [.int x1, .int x2] [] M (fun r M1 => zQ 63 10 L (zpush r st) M1 Q) := zq_callS (n := 53) (j := 74) (b := false) (As := [.int x1, .int x2]) (by decide +kernel) (by decide +kernel) ⟨by decide +kernel, by decide +kernel, rfl, by decide +kernel, by decide +kernel, Nat.le_of_ble_eq_true rfl⟩ rfl
theorem q63_10 : zQ 63 10 L (.int x :: st) M Q ↔ (x = 0 → zQ 63 13 L st M Q) ∧ (¬ x = 0 → zQ 63 15 L st M Q) := zq_bn (i := .ifCond .ne 5) (off := 5) (by decide +kernel) rfl (by decide) rfl
theorem q63_13 : zQ 63 13 L st M Q ↔ zQ 63 14 L (.int (-1) :: st) M Q := zq_con (n := (-1)) (by decide +kernel) (by decide +kernel) rfl
theorem q63_14 : zQ 63 14 L [.int x] M Q ↔ Q (zI x) M := zq_reI (by decide +kernel) (by decide +kernel)
theorem q63_15 : zQ 63 15 [v0, v1, .int x, v3] st M Q ↔ zQ 63 16 [v0, v1, .int x, v3] (.int x :: st) M Q := zq_go (i := .iload_n 2) (by decide +kernel) rfl
theorem q63_16 : zQ 63 16 L st M Q ↔ zQ 63 17 L (.int 3 :: st) M Q := zq_con (n := 3) (by decide +kernel) (by decide +kernel) rfl
theorem q63_17 : zQ 63 17 L (.int x2 :: .int x1 :: st) M Q ↔ zcs st ≤ 8 ∧ zQ 74 0 [.int x1, .int x2] [] M (fun r M1 => zQ 63 20 L (zpush r st) M1 Q) := zq_callS (n := 53) (j := 74) (b := false) (As := [.int x1, .int x2]) (by decide +kernel) (by decide +kernel) ⟨by decide +kernel, by decide +kernel, rfl, by decide +kernel, by decide +kernel, Nat.le_of_ble_eq_true rfl⟩ rfl
theorem q63_20 : zQ 63 20 L (.int x :: st) M Q ↔ (x = 0 → zQ 63 29 L st M Q) ∧ (¬ x = 0 → zQ 63 23 L st M Q) := zq_br (i := .ifCond .eq 9) (off := 9) (by decide +kernel) rfl (by decide) rfl
theorem q63_23 : zQ 63 23 [v0, v1, v2, .int x] st M Q ↔ zQ 63 24 [v0, v1, v2, .int x] (.int x :: st) M Q := zq_go (i := .iload_n 3) (by decide +kernel) rfl
theorem q63_24 : zQ 63 24 L st M Q ↔ zQ 63 26 L (.int 60 :: st) M Q := zq_bip (n := 60) (by decide +kernel) (by decide +kernel) rfl
theorem q63_26 : zQ 63 26 L (.int y :: .int x :: st) M Q ↔ (x ≤ y → zQ 63 32 L st M Q) ∧ (¬ x ≤ y → zQ 63 29 L st M Q) := zq_br (i := .if_icmp .le 6) (off := 6) (by decide +kernel) rfl (by decide) rfl
theorem q63_29 : zQ 63 29 L st M Q ↔ zQ 63 31 L (.int (-2) :: st) M Q := zq_bip (n := (-2)) (by decide +kernel) (by decide +kernel) rfl
theorem q63_31 : zQ 63 31 L [.int x] M Q ↔ Q (zI x) M := zq_reI (by decide +kernel) (by decide +kernel)
theorem q63_32 : zQ 63 32 [v0, v1, v2, .int x] st M Q ↔ zQ 63 33 [v0, v1, v2, .int x] (.int x :: st) M Q := zq_go (i := .iload_n 3) (by decide +kernel) rfl
theorem q63_33 : zQ 63 33 L (.int x :: st) M Q ↔ (0 ≤ x → zQ 63 42 L st M Q) ∧ (¬ 0 ≤ x → zQ 63 36 L st M Q) := zq_br (i := .ifCond .ge 9) (off := 9) (by decide +kernel) rfl (by decide) rfl
theorem q63_36 : zQ 63 36 [.ref a, v1, v2, v3] st M Q ↔ zQ 63 37 [.ref a, v1, v2, v3] (.ref a :: st) M Q := zq_go (i := .aload_n 0) (by decide +kernel) rfl
theorem q63_37 : zQ 63 37 L st M Q ↔ zQ 63 38 L (.int 4 :: st) M Q := zq_con (n := 4) (by decide +kernel) (by decide +kernel) rfl
theorem q63_38 : zQ 63 38 L (.int x1 :: .ref a :: st) M Q ↔ (zcs st ≤ 8 ∧ a < zNC ∧ zk a = 5) ∧ zQ 76 0 [.ref a, .int x1] [] M (fun r M1 => zQ 63 41 L (zpush r st) M1 Q) := zq_callV (n := 61) (j := 76) (b := false) (As := [.int x1]) (by decide +kernel) (by decide +kernel) ⟨by decide +kernel, by decide +kernel, rfl, by decide +kernel, by decide +kernel, Nat.le_of_ble_eq_true rfl⟩ rfl
theorem q63_41 : zQ 63 41 L [.int x] M Q ↔ Q (zI x) M := zq_reI (by decide +kernel) (by decide +kernel)
theorem q63_42 : zQ 63 42 [.ref a, v1, v2, v3] st M Q ↔ zQ 63 43 [.ref a, v1, v2, v3] (.ref a :: st) M Q := zq_go (i := .aload_n 0) (by decide +kernel) rfl
theorem q63_43 : zQ 63 43 L (.ref a :: st) M Q ↔ (a < zNC ∧ zk a = 5) ∧ zQ 63 46 L (zfv a 5 M :: st) M Q := zq_getf (n := 44) (b := false) (by decide +kernel) (by decide +kernel)
theorem q63_46 : zQ 63 46 [v0, .int x, v2, v3] st M Q ↔ zQ 63 47 [v0, .int x, v2, v3] (.int x :: st) M Q := zq_go (i := .iload_n 1) (by decide +kernel) rfl
theorem q63_47 {z : Nat} (hz : z < 4) : zQ 63 47 L (.int (nI z) :: .ref 33 :: st) M Q ↔ zQ 63 48 L (.ref (34 + 2 * z) :: st) M Q := zq_aald hz (by decide +kernel)
theorem q63_48 : zQ 63 48 [v0, v1, .int x, v3] st M Q ↔ zQ 63 49 [v0, v1, .int x, v3] (.int x :: st) M Q := zq_go (i := .iload_n 2) (by decide +kernel) rfl
theorem q63_49 : zQ 63 49 [v0, v1, v2, .int x] st M Q ↔ zQ 63 50 [v0, v1, v2, .int x] (.int x :: st) M Q := zq_go (i := .iload_n 3) (by decide +kernel) rfl
theorem q63_50 : zQ 63 50 L (.int x2 :: .int x1 :: .ref a :: st) M Q ↔ (zcs st ≤ 8 ∧ a < zNC ∧ zk a = 2) ∧ zQ 7 0 [.ref a, .int x1, .int x2, .null] [] M (fun r M1 => zQ 63 53 L (zpush r st) M1 Q) := zq_callV (n := 188) (j := 7) (b := true) (As := [.int x1, .int x2]) (by decide +kernel) (by decide +kernel) ⟨by decide +kernel, by decide +kernel, rfl, by decide +kernel, by decide +kernel, Nat.le_of_ble_eq_true rfl⟩ rfl
theorem q63_53 : zQ 63 53 L st M Q ↔ zQ 63 54 L (.int 1 :: st) M Q := zq_con (n := 1) (by decide +kernel) (by decide +kernel) rfl
theorem q63_54 : zQ 63 54 L [.int x] M Q ↔ Q (zI x) M := zq_reI (by decide +kernel) (by decide +kernel)
-- 64 SandKeepers.lose(I)I
theorem q64_0 : zQ 64 0 [v0, .int x, v2] st M Q ↔ zQ 64 1 [v0, .int x, v2] (.int x :: st) M Q := zq_go (i := .iload_n 1) (by decide +kernel) rfl
theorem q64_1 : zQ 64 1 L st M Q ↔ zQ 64 2 L (.int 4 :: st) M Q := zq_con (n := 4) (by decide +kernel) (by decide +kernel) rfl
theorem q64_2 : zQ 64 2 L (.int x2 :: .int x1 :: st) M Q ↔ zcs st ≤ 8 ∧ zQ 74 0 [.int x1, .int x2] [] M (fun r M1 => zQ 64 5 L (zpush r st) M1 Q) := zq_callS (n := 53) (j := 74) (b := false) (As := [.int x1, .int x2]) (by decide +kernel) (by decide +kernel) ⟨by decide +kernel, by decide +kernel, rfl, by decide +kernel, by decide +kernel, Nat.le_of_ble_eq_true rfl⟩ rfl
theorem q64_5 : zQ 64 5 L (.int x :: st) M Q ↔ (x = 0 → zQ 64 8 L st M Q) ∧ (¬ x = 0 → zQ 64 10 L st M Q) := zq_bn (i := .ifCond .ne 5) (off := 5) (by decide +kernel) rfl (by decide) rfl
theorem q64_8 : zQ 64 8 L st M Q ↔ zQ 64 9 L (.int (-1) :: st) M Q := zq_con (n := (-1)) (by decide +kernel) (by decide +kernel) rfl
theorem q64_9 : zQ 64 9 L [.int x] M Q ↔ Q (zI x) M := zq_reI (by decide +kernel) (by decide +kernel)
theorem q64_10 : zQ 64 10 [.ref a, v1, v2] st M Q ↔ zQ 64 11 [.ref a, v1, v2] (.ref a :: st) M Q := zq_go (i := .aload_n 0) (by decide +kernel) rfl
theorem q64_11 : zQ 64 11 L (.ref a :: st) M Q ↔ (a < zNC ∧ zk a = 5) ∧ zQ 64 14 L (zfv a 5 M :: st) M Q := zq_getf (n := 44) (b := false) (by decide +kernel) (by decide +kernel)
theorem q64_14 : zQ 64 14 [v0, .int x, v2] st M Q ↔ zQ 64 15 [v0, .int x, v2] (.int x :: st) M Q := zq_go (i := .iload_n 1) (by decide +kernel) rfl
theorem q64_15 {z : Nat} (hz : z < 4) : zQ 64 15 L (.int (nI z) :: .ref 33 :: st) M Q ↔ zQ 64 16 L (.ref (34 + 2 * z) :: st) M Q := zq_aald hz (by decide +kernel)
theorem q64_16 : zQ 64 16 L (.ref a :: st) M Q ↔ (a < zNC ∧ zk a = 2) ∧ zQ 64 19 L (zfv a 1 M :: st) M Q := zq_getf (n := 192) (b := true) (by decide +kernel) (by decide +kernel)
theorem q64_19i : zQ 64 19 [v0, .int y, v2] (.int x :: st) M Q ↔ zQ 64 20 [v0, .int y, .int x] st M Q := zq_stI (i := .istore_n 2) (k := 2) (by decide +kernel) rfl (Nat.le_of_ble_eq_true rfl) rfl rfl
theorem q64_19r : zQ 64 19 [v0, .ref r1, v2] (.int x :: st) M Q ↔ zQ 64 20 [v0, .ref r1, .int x] st M Q := zq_stI (i := .istore_n 2) (k := 2) (by decide +kernel) rfl (Nat.le_of_ble_eq_true rfl) rfl rfl
theorem q64_19n : zQ 64 19 [v0, .null, v2] (.int x :: st) M Q ↔ zQ 64 20 [v0, .null, .int x] st M Q := zq_stI (i := .istore_n 2) (k := 2) (by decide +kernel) rfl (Nat.le_of_ble_eq_true rfl) rfl rfl
theorem q64_20 : zQ 64 20 [.ref a, v1, v2] st M Q ↔ zQ 64 21 [.ref a, v1, v2] (.ref a :: st) M Q := zq_go (i := .aload_n 0) (by decide +kernel) rfl
theorem q64_21 : zQ 64 21 L (.ref a :: st) M Q ↔ (a < zNC ∧ zk a = 5) ∧ zQ 64 24 L (zfv a 5 M :: st) M Q := zq_getf (n := 44) (b := false) (by decide +kernel) (by decide +kernel)
theorem q64_24 : zQ 64 24 [v0, .int x, v2] st M Q ↔ zQ 64 25 [v0, .int x, v2] (.int x :: st) M Q := zq_go (i := .iload_n 1) (by decide +kernel) rfl
theorem q64_25 {z : Nat} (hz : z < 4) : zQ 64 25 L (.int (nI z) :: .ref 33 :: st) M Q ↔ zQ 64 26 L (.ref (34 + 2 * z) :: st) M Q := zq_aald hz (by decide +kernel)
theorem q64_26 : zQ 64 26 L st M Q ↔ zQ 64 27 L (.int 0 :: st) M Q := zq_con (n := 0) (by decide +kernel) (by decide +kernel) rfl
theorem q64_27 : zQ 64 27 L (.int x :: .ref a :: st) M Q ↔ (a < zNC ∧ zk a = 2 ∧ zf a 1 = none ∧ (x = 0 ∨ x = 1)) ∧ zQ 64 30 L st (zup M a 1 x) Q := zq_putz (n := 192) (b := true) (by decide +kernel) (by decide +kernel) (by decide +kernel)
theorem q64_30 : zQ 64 30 [v0, v1, .int x] st M Q ↔ zQ 64 31 [v0, v1, .int x] (.int x :: st) M Q := zq_go (i := .iload_n 2) (by decide +kernel) rfl
theorem q64_31 : zQ 64 31 L (.int x :: st) M Q ↔ (x = 0 → zQ 64 38 L st M Q) ∧ (¬ x = 0 → zQ 64 34 L st M Q) := zq_br (i := .ifCond .eq 7) (off := 7) (by decide +kernel) rfl (by decide) rfl
theorem q64_34 : zQ 64 34 L st M Q ↔ zQ 64 35 L (.int 1 :: st) M Q := zq_con (n := 1) (by decide +kernel) (by decide +kernel) rfl
theorem q64_35 : zQ 64 35 L st M Q ↔ zQ 64 39 L st M Q := zq_jmp (off := 4) (by decide +kernel) (by decide)
theorem q64_38 : zQ 64 38 L st M Q ↔ zQ 64 39 L (.int 0 :: st) M Q := zq_con (n := 0) (by decide +kernel) (by decide +kernel) rfl
theorem q64_39 : zQ 64 39 L [.int x] M Q ↔ Q (zI x) M := zq_reI (by decide +kernel) (by decide +kernel)
-- 65 SandKeepers.put(III)I
theorem q65_0 : zQ 65 0 [.ref a, v1, v2, v3, v4] st M Q ↔ zQ 65 1 [.ref a, v1, v2, v3, v4] (.ref a :: st) M Q := zq_go (i := .aload_n 0) (by decide +kernel) rfl
theorem q65_1 : zQ 65 1 L st M Q ↔ zQ 65 2 L (.int 0 :: st) M Q := zq_con (n := 0) (by decide +kernel) (by decide +kernel) rfl
theorem q65_2 : zQ 65 2 L (.int x :: .ref a :: st) M Q ↔ (a < zNC ∧ zk a = 5 ∧ zf a 7 = none) ∧ zQ 65 5 L st (zup M a 7 x) Q := zq_putf (n := 49) (b := false) (by decide +kernel) (by decide +kernel) (by decide +kernel)
theorem q65_5 : zQ 65 5 [v0, .int x, v2, v3, v4] st M Q ↔ zQ 65 6 [v0, .int x, v2, v3, v4] (.int x :: st) M Q := zq_go (i := .iload_n 1) (by decide +kernel) rfl
theorem q65_6 : zQ 65 6 L st M Q ↔ zQ 65 7 L (.int 4 :: st) M Q := zq_con (n := 4) (by decide +kernel) (by decide +kernel) rfl
theorem q65_7 : zQ 65 7 L (.int x2 :: .int x1 :: st) M Q ↔ zcs st ≤ 8 ∧ zQ 74 0 [.int x1, .int x2] [] M (fun r M1 => zQ 65 10 L (zpush r st) M1 Q) := zq_callS (n := 53) (j := 74) (b := false) (As := [.int x1, .int x2]) (by decide +kernel) (by decide +kernel) ⟨by decide +kernel, by decide +kernel, rfl, by decide +kernel, by decide +kernel, Nat.le_of_ble_eq_true rfl⟩ rfl
theorem q65_10 : zQ 65 10 L (.int x :: st) M Q ↔ (x = 0 → zQ 65 13 L st M Q) ∧ (¬ x = 0 → zQ 65 15 L st M Q) := zq_bn (i := .ifCond .ne 5) (off := 5) (by decide +kernel) rfl (by decide) rfl
theorem q65_13 : zQ 65 13 L st M Q ↔ zQ 65 14 L (.int (-1) :: st) M Q := zq_con (n := (-1)) (by decide +kernel) (by decide +kernel) rfl
theorem q65_14 : zQ 65 14 L [.int x] M Q ↔ Q (zI x) M := zq_reI (by decide +kernel) (by decide +kernel)
theorem q65_15 : zQ 65 15 [.ref a, v1, v2, v3, v4] st M Q ↔ zQ 65 16 [.ref a, v1, v2, v3, v4] (.ref a :: st) M Q := zq_go (i := .aload_n 0) (by decide +kernel) rfl
theorem q65_16 : zQ 65 16 L (.ref a :: st) M Q ↔ (a < zNC ∧ zk a = 5) ∧ zQ 65 19 L (zfv a 5 M :: st) M Q := zq_getf (n := 44) (b := false) (by decide +kernel) (by decide +kernel)
theorem q65_19 : zQ 65 19 [v0, .int x, v2, v3, v4] st M Q ↔ zQ 65 20 [v0, .int x, v2, v3, v4] (.int x :: st) M Q := zq_go (i := .iload_n 1) (by decide +kernel) rfl
theorem q65_20 {z : Nat} (hz : z < 4) : zQ 65 20 L (.int (nI z) :: .ref 33 :: st) M Q ↔ zQ 65 21 L (.ref (34 + 2 * z) :: st) M Q := zq_aald hz (by decide +kernel)
theorem q65_21i : zQ 65 21 [v0, v1, v2, .int y, v4] (.ref a :: st) M Q ↔ zQ 65 23 [v0, v1, v2, .int y, .ref a] st M Q := zq_stA (i := .astore 4) (k := 4) (by decide +kernel) rfl (Nat.le_of_ble_eq_true rfl) rfl rfl
theorem q65_21r : zQ 65 21 [v0, v1, v2, .ref r1, v4] (.ref a :: st) M Q ↔ zQ 65 23 [v0, v1, v2, .ref r1, .ref a] st M Q := zq_stA (i := .astore 4) (k := 4) (by decide +kernel) rfl (Nat.le_of_ble_eq_true rfl) rfl rfl
theorem q65_21n : zQ 65 21 [v0, v1, v2, .null, v4] (.ref a :: st) M Q ↔ zQ 65 23 [v0, v1, v2, .null, .ref a] st M Q := zq_stA (i := .astore 4) (k := 4) (by decide +kernel) rfl (Nat.le_of_ble_eq_true rfl) rfl rfl
theorem q65_23 : zQ 65 23 [v0, v1, v2, v3, .ref a] st M Q ↔ zQ 65 25 [v0, v1, v2, v3, .ref a] (.ref a :: st) M Q := zq_go (i := .aload 4) (by decide +kernel) rfl
theorem q65_25 : zQ 65 25 L (.ref a :: st) M Q ↔ (a < zNC ∧ zk a = 2) ∧ zQ 65 28 L (zfv a 1 M :: st) M Q := zq_getf (n := 192) (b := true) (by decide +kernel) (by decide +kernel)
theorem q65_28 : zQ 65 28 L (.int x :: st) M Q ↔ (x = 0 → zQ 65 31 L st M Q) ∧ (¬ x = 0 → zQ 65 37 L st M Q) := zq_bn (i := .ifCond .ne 9) (off := 9) (by decide +kernel) rfl (by decide) rfl
theorem q65_31 : zQ 65 31 [.ref a, v1, v2, v3, v4] st M Q ↔ zQ 65 32 [.ref a, v1, v2, v3, v4] (.ref a :: st) M Q := zq_go (i := .aload_n 0) (by decide +kernel) rfl
theorem q65_32 : zQ 65 32 L st M Q ↔ zQ 65 33 L (.int 1 :: st) M Q := zq_con (n := 1) (by decide +kernel) (by decide +kernel) rfl
theorem q65_33 : zQ 65 33 L (.int x1 :: .ref a :: st) M Q ↔ (zcs st ≤ 8 ∧ a < zNC ∧ zk a = 5) ∧ zQ 76 0 [.ref a, .int x1] [] M (fun r M1 => zQ 65 36 L (zpush r st) M1 Q) := zq_callV (n := 61) (j := 76) (b := false) (As := [.int x1]) (by decide +kernel) (by decide +kernel) ⟨by decide +kernel, by decide +kernel, rfl, by decide +kernel, by decide +kernel, Nat.le_of_ble_eq_true rfl⟩ rfl
theorem q65_36 : zQ 65 36 L [.int x] M Q ↔ Q (zI x) M := zq_reI (by decide +kernel) (by decide +kernel)
theorem q65_37 : zQ 65 37 [v0, v1, .int x, v3, v4] st M Q ↔ zQ 65 38 [v0, v1, .int x, v3, v4] (.int x :: st) M Q := zq_go (i := .iload_n 2) (by decide +kernel) rfl
theorem q65_38 : zQ 65 38 [v0, v1, v2, v3, .ref a] st M Q ↔ zQ 65 40 [v0, v1, v2, v3, .ref a] (.ref a :: st) M Q := zq_go (i := .aload 4) (by decide +kernel) rfl
theorem q65_40 : zQ 65 40 L (.ref a :: st) M Q ↔ (a < zNC ∧ zk a = 2) ∧ zQ 65 43 L (zfv a 3 M :: st) M Q := zq_getf (n := 196) (b := true) (by decide +kernel) (by decide +kernel)
theorem q65_43 : zQ 65 43 L (.int x2 :: .int x1 :: st) M Q ↔ zcs st ≤ 8 ∧ zQ 74 0 [.int x1, .int x2] [] M (fun r M1 => zQ 65 46 L (zpush r st) M1 Q) := zq_callS (n := 53) (j := 74) (b := false) (As := [.int x1, .int x2]) (by decide +kernel) (by decide +kernel) ⟨by decide +kernel, by decide +kernel, rfl, by decide +kernel, by decide +kernel, Nat.le_of_ble_eq_true rfl⟩ rfl
theorem q65_46 : zQ 65 46 L (.int x :: st) M Q ↔ (x = 0 → zQ 65 49 L st M Q) ∧ (¬ x = 0 → zQ 65 55 L st M Q) := zq_bn (i := .ifCond .ne 9) (off := 9) (by decide +kernel) rfl (by decide) rfl
theorem q65_49 : zQ 65 49 [.ref a, v1, v2, v3, v4] st M Q ↔ zQ 65 50 [.ref a, v1, v2, v3, v4] (.ref a :: st) M Q := zq_go (i := .aload_n 0) (by decide +kernel) rfl
theorem q65_50 : zQ 65 50 L st M Q ↔ zQ 65 51 L (.int 3 :: st) M Q := zq_con (n := 3) (by decide +kernel) (by decide +kernel) rfl
theorem q65_51 : zQ 65 51 L (.int x1 :: .ref a :: st) M Q ↔ (zcs st ≤ 8 ∧ a < zNC ∧ zk a = 5) ∧ zQ 76 0 [.ref a, .int x1] [] M (fun r M1 => zQ 65 54 L (zpush r st) M1 Q) := zq_callV (n := 61) (j := 76) (b := false) (As := [.int x1]) (by decide +kernel) (by decide +kernel) ⟨by decide +kernel, by decide +kernel, rfl, by decide +kernel, by decide +kernel, Nat.le_of_ble_eq_true rfl⟩ rfl
theorem q65_54 : zQ 65 54 L [.int x] M Q ↔ Q (zI x) M := zq_reI (by decide +kernel) (by decide +kernel)
theorem q65_55 : zQ 65 55 [v0, v1, v2, v3, .ref a] st M Q ↔ zQ 65 57 [v0, v1, v2, v3, .ref a] (.ref a :: st) M Q := zq_go (i := .aload 4) (by decide +kernel) rfl
theorem q65_57 : zQ 65 57 L (.ref a :: st) M Q ↔ (a < zNC ∧ zk a = 2) ∧ zQ 65 60 L (zfv a 0 M :: st) M Q := zq_getf (n := 199) (b := true) (by decide +kernel) (by decide +kernel)
theorem q65_60 : zQ 65 60 [v0, v1, .int x, v3, v4] st M Q ↔ zQ 65 61 [v0, v1, .int x, v3, v4] (.int x :: st) M Q := zq_go (i := .iload_n 2) (by decide +kernel) rfl
theorem q65_61 : zQ 65 61 [v0, v1, v2, v3, .ref a] st M Q ↔ zQ 65 63 [v0, v1, v2, v3, .ref a] (.ref a :: st) M Q := zq_go (i := .aload 4) (by decide +kernel) rfl
theorem q65_63 : zQ 65 63 [v0, v1, v2, .int x, v4] st M Q ↔ zQ 65 64 [v0, v1, v2, .int x, v4] (.int x :: st) M Q := zq_go (i := .iload_n 3) (by decide +kernel) rfl
theorem q65_64 : zQ 65 64 L (.int x1 :: .ref a :: st) M Q ↔ (zcs st ≤ 8 ∧ a < zNC ∧ zk a = 2) ∧ zQ 8 0 [.ref a, .int x1] [] M (fun r M1 => zQ 65 67 L (zpush r st) M1 Q) := zq_callV (n := 202) (j := 8) (b := true) (As := [.int x1]) (by decide +kernel) (by decide +kernel) ⟨by decide +kernel, by decide +kernel, rfl, by decide +kernel, by decide +kernel, Nat.le_of_ble_eq_true rfl⟩ rfl
theorem q65_67 : zQ 65 67 L (.int x :: .int y :: .ref a :: st) M Q ↔ (a < zNC ∧ zk a = 7 ∧ zin y (zn a) = true) ∧ zQ 65 68 L st (zup M a y.toNatClampNeg x) Q := zq_iast (by decide +kernel)
theorem q65_68 : zQ 65 68 L st M Q ↔ zQ 65 69 L (.int 1 :: st) M Q := zq_con (n := 1) (by decide +kernel) (by decide +kernel) rfl
theorem q65_69 : zQ 65 69 L [.int x] M Q ↔ Q (zI x) M := zq_reI (by decide +kernel) (by decide +kernel)
-- 66 SandKeepers.cell(III)J
theorem q66_0 : zQ 66 0 [.ref a, v1, v2, v3, v4, v5] st M Q ↔ zQ 66 1 [.ref a, v1, v2, v3, v4, v5] (.ref a :: st) M Q := zq_go (i := .aload_n 0) (by decide +kernel) rfl
theorem q66_1 : zQ 66 1 L st M Q ↔ zQ 66 2 L (.int 0 :: st) M Q := zq_con (n := 0) (by decide +kernel) (by decide +kernel) rfl
theorem q66_2 : zQ 66 2 L (.int x :: .ref a :: st) M Q ↔ (a < zNC ∧ zk a = 5 ∧ zf a 7 = none) ∧ zQ 66 5 L st (zup M a 7 x) Q := zq_putf (n := 49) (b := false) (by decide +kernel) (by decide +kernel) (by decide +kernel)
theorem q66_5 : zQ 66 5 [v0, .int x, v2, v3, v4, v5] st M Q ↔ zQ 66 6 [v0, .int x, v2, v3, v4, v5] (.int x :: st) M Q := zq_go (i := .iload_n 1) (by decide +kernel) rfl
theorem q66_6 : zQ 66 6 L st M Q ↔ zQ 66 7 L (.int 4 :: st) M Q := zq_con (n := 4) (by decide +kernel) (by decide +kernel) rfl
theorem q66_7 : zQ 66 7 L (.int x2 :: .int x1 :: st) M Q ↔ zcs st ≤ 8 ∧ zQ 74 0 [.int x1, .int x2] [] M (fun r M1 => zQ 66 10 L (zpush r st) M1 Q) := zq_callS (n := 53) (j := 74) (b := false) (As := [.int x1, .int x2]) (by decide +kernel) (by decide +kernel) ⟨by decide +kernel, by decide +kernel, rfl, by decide +kernel, by decide +kernel, Nat.le_of_ble_eq_true rfl⟩ rfl
theorem q66_10 : zQ 66 10 L (.int x :: st) M Q ↔ (x = 0 → zQ 66 21 L st M Q) ∧ (¬ x = 0 → zQ 66 13 L st M Q) := zq_br (i := .ifCond .eq 11) (off := 11) (by decide +kernel) rfl (by decide) rfl
theorem q66_13 : zQ 66 13 [v0, v1, v2, .int x, v4, v5] st M Q ↔ zQ 66 14 [v0, v1, v2, .int x, v4, v5] (.int x :: st) M Q := zq_go (i := .iload_n 3) (by decide +kernel) rfl
theorem q66_14 : zQ 66 14 L st M Q ↔ zQ 66 15 L (.int 3 :: st) M Q := zq_con (n := 3) (by decide +kernel) (by decide +kernel) rfl
theorem q66_15 : zQ 66 15 L (.int x2 :: .int x1 :: st) M Q ↔ zcs st ≤ 8 ∧ zQ 74 0 [.int x1, .int x2] [] M (fun r M1 => zQ 66 18 L (zpush r st) M1 Q) := zq_callS (n := 53) (j := 74) (b := false) (As := [.int x1, .int x2]) (by decide +kernel) (by decide +kernel) ⟨by decide +kernel, by decide +kernel, rfl, by decide +kernel, by decide +kernel, Nat.le_of_ble_eq_true rfl⟩ rfl
theorem q66_18 : zQ 66 18 L (.int x :: st) M Q ↔ (x = 0 → zQ 66 21 L st M Q) ∧ (¬ x = 0 → zQ 66 25 L st M Q) := zq_bn (i := .ifCond .ne 7) (off := 7) (by decide +kernel) rfl (by decide) rfl
theorem q66_21 : zQ 66 21 L st M Q ↔ zQ 66 24 L (.long (-9223372036854775808) :: st) M Q := zq_ld2 (n := 180) (by decide +kernel) (by decide +kernel) rfl
theorem q66_24 : zQ 66 24 L [.long xl] M Q ↔ Q (zJ xl) M := zq_reJ (by decide +kernel) (by decide +kernel)
theorem q66_25 : zQ 66 25 [.ref a, v1, v2, v3, v4, v5] st M Q ↔ zQ 66 26 [.ref a, v1, v2, v3, v4, v5] (.ref a :: st) M Q := zq_go (i := .aload_n 0) (by decide +kernel) rfl
theorem q66_26 : zQ 66 26 L (.ref a :: st) M Q ↔ (a < zNC ∧ zk a = 5) ∧ zQ 66 29 L (zfv a 5 M :: st) M Q := zq_getf (n := 44) (b := false) (by decide +kernel) (by decide +kernel)
theorem q66_29 : zQ 66 29 [v0, .int x, v2, v3, v4, v5] st M Q ↔ zQ 66 30 [v0, .int x, v2, v3, v4, v5] (.int x :: st) M Q := zq_go (i := .iload_n 1) (by decide +kernel) rfl
theorem q66_30 {z : Nat} (hz : z < 4) : zQ 66 30 L (.int (nI z) :: .ref 33 :: st) M Q ↔ zQ 66 31 L (.ref (34 + 2 * z) :: st) M Q := zq_aald hz (by decide +kernel)
theorem q66_31i : zQ 66 31 [v0, v1, v2, .int y, v4, v5] (.ref a :: st) M Q ↔ zQ 66 33 [v0, v1, v2, .int y, .ref a, v5] st M Q := zq_stA (i := .astore 4) (k := 4) (by decide +kernel) rfl (Nat.le_of_ble_eq_true rfl) rfl rfl
theorem q66_31r : zQ 66 31 [v0, v1, v2, .ref r1, v4, v5] (.ref a :: st) M Q ↔ zQ 66 33 [v0, v1, v2, .ref r1, .ref a, v5] st M Q := zq_stA (i := .astore 4) (k := 4) (by decide +kernel) rfl (Nat.le_of_ble_eq_true rfl) rfl rfl
theorem q66_31n : zQ 66 31 [v0, v1, v2, .null, v4, v5] (.ref a :: st) M Q ↔ zQ 66 33 [v0, v1, v2, .null, .ref a, v5] st M Q := zq_stA (i := .astore 4) (k := 4) (by decide +kernel) rfl (Nat.le_of_ble_eq_true rfl) rfl rfl
theorem q66_33 : zQ 66 33 [v0, v1, v2, v3, .ref a, v5] st M Q ↔ zQ 66 35 [v0, v1, v2, v3, .ref a, v5] (.ref a :: st) M Q := zq_go (i := .aload 4) (by decide +kernel) rfl
theorem q66_35 : zQ 66 35 [v0, v1, v2, .int x, v4, v5] st M Q ↔ zQ 66 36 [v0, v1, v2, .int x, v4, v5] (.int x :: st) M Q := zq_go (i := .iload_n 3) (by decide +kernel) rfl
theorem q66_36 : zQ 66 36 L (.int x1 :: .ref a :: st) M Q ↔ (zcs st ≤ 8 ∧ a < zNC ∧ zk a = 2) ∧ zQ 10 0 [.ref a, .int x1] [] M (fun r M1 => zQ 66 39 L (zpush r st) M1 Q) := zq_callV (n := 205) (j := 10) (b := true) (As := [.int x1]) (by decide +kernel) (by decide +kernel) ⟨by decide +kernel, by decide +kernel, rfl, by decide +kernel, by decide +kernel, Nat.le_of_ble_eq_true rfl⟩ rfl
theorem q66_39i : zQ 66 39 [v0, v1, v2, v3, .int y, v5] (.int x :: st) M Q ↔ zQ 66 41 [v0, v1, v2, v3, .int y, .int x] st M Q := zq_stI (i := .istore 5) (k := 5) (by decide +kernel) rfl (Nat.le_of_ble_eq_true rfl) rfl rfl
theorem q66_39r : zQ 66 39 [v0, v1, v2, v3, .ref r1, v5] (.int x :: st) M Q ↔ zQ 66 41 [v0, v1, v2, v3, .ref r1, .int x] st M Q := zq_stI (i := .istore 5) (k := 5) (by decide +kernel) rfl (Nat.le_of_ble_eq_true rfl) rfl rfl
theorem q66_39n : zQ 66 39 [v0, v1, v2, v3, .null, v5] (.int x :: st) M Q ↔ zQ 66 41 [v0, v1, v2, v3, .null, .int x] st M Q := zq_stI (i := .istore 5) (k := 5) (by decide +kernel) rfl (Nat.le_of_ble_eq_true rfl) rfl rfl
theorem q66_41 : zQ 66 41 [v0, v1, v2, v3, v4, .int x] st M Q ↔ zQ 66 43 [v0, v1, v2, v3, v4, .int x] (.int x :: st) M Q := zq_go (i := .iload 5) (by decide +kernel) rfl
theorem q66_43 : zQ 66 43 L (.int x :: st) M Q ↔ (x = 0 → zQ 66 46 L st M Q) ∧ (¬ x = 0 → zQ 66 61 L st M Q) := zq_bn (i := .ifCond .ne 18) (off := 18) (by decide +kernel) rfl (by decide) rfl
theorem q66_46 : zQ 66 46 [v0, v1, .int x, v3, v4, v5] st M Q ↔ zQ 66 47 [v0, v1, .int x, v3, v4, v5] (.int x :: st) M Q := zq_go (i := .iload_n 2) (by decide +kernel) rfl
theorem q66_47 : zQ 66 47 [v0, v1, v2, v3, .ref a, v5] st M Q ↔ zQ 66 49 [v0, v1, v2, v3, .ref a, v5] (.ref a :: st) M Q := zq_go (i := .aload 4) (by decide +kernel) rfl
theorem q66_49 : zQ 66 49 L (.ref a :: st) M Q ↔ (a < zNC ∧ zk a = 2) ∧ zQ 66 52 L (zfv a 3 M :: st) M Q := zq_getf (n := 196) (b := true) (by decide +kernel) (by decide +kernel)
theorem q66_52 : zQ 66 52 L (.int x2 :: .int x1 :: st) M Q ↔ zcs st ≤ 8 ∧ zQ 74 0 [.int x1, .int x2] [] M (fun r M1 => zQ 66 55 L (zpush r st) M1 Q) := zq_callS (n := 53) (j := 74) (b := false) (As := [.int x1, .int x2]) (by decide +kernel) (by decide +kernel) ⟨by decide +kernel, by decide +kernel, rfl, by decide +kernel, by decide +kernel, Nat.le_of_ble_eq_true rfl⟩ rfl
theorem q66_55 : zQ 66 55 L (.int x :: st) M Q ↔ (x = 0 → zQ 66 58 L st M Q) ∧ (¬ x = 0 → zQ 66 61 L st M Q) := zq_bn (i := .ifCond .ne 6) (off := 6) (by decide +kernel) rfl (by decide) rfl
theorem q66_58 : zQ 66 58 L st M Q ↔ zQ 66 59 L (.int 3 :: st) M Q := zq_con (n := 3) (by decide +kernel) (by decide +kernel) rfl
theorem q66_59i : zQ 66 59 [v0, v1, v2, v3, .int y, v5] (.int x :: st) M Q ↔ zQ 66 61 [v0, v1, v2, v3, .int y, .int x] st M Q := zq_stI (i := .istore 5) (k := 5) (by decide +kernel) rfl (Nat.le_of_ble_eq_true rfl) rfl rfl
theorem q66_59r : zQ 66 59 [v0, v1, v2, v3, .ref r1, v5] (.int x :: st) M Q ↔ zQ 66 61 [v0, v1, v2, v3, .ref r1, .int x] st M Q := zq_stI (i := .istore 5) (k := 5) (by decide +kernel) rfl (Nat.le_of_ble_eq_true rfl) rfl rfl
theorem q66_59n : zQ 66 59 [v0, v1, v2, v3, .null, v5] (.int x :: st) M Q ↔ zQ 66 61 [v0, v1, v2, v3, .null, .int x] st M Q := zq_stI (i := .istore 5) (k := 5) (by decide +kernel) rfl (Nat.le_of_ble_eq_true rfl) rfl rfl
theorem q66_61 : zQ 66 61 [v0, v1, v2, v3, v4, .int x] st M Q ↔ zQ 66 63 [v0, v1, v2, v3, v4, .int x] (.int x :: st) M Q := zq_go (i := .iload 5) (by decide +kernel) rfl
theorem q66_63 : zQ 66 63 L (.int x :: st) M Q ↔ (x = 0 → zQ 66 76 L st M Q) ∧ (¬ x = 0 → zQ 66 66 L st M Q) := zq_br (i := .ifCond .eq 13) (off := 13) (by decide +kernel) rfl (by decide) rfl
theorem q66_66 : zQ 66 66 [.ref a, v1, v2, v3, v4, v5] st M Q ↔ zQ 66 67 [.ref a, v1, v2, v3, v4, v5] (.ref a :: st) M Q := zq_go (i := .aload_n 0) (by decide +kernel) rfl
theorem q66_67 : zQ 66 67 [v0, v1, v2, v3, v4, .int x] st M Q ↔ zQ 66 69 [v0, v1, v2, v3, v4, .int x] (.int x :: st) M Q := zq_go (i := .iload 5) (by decide +kernel) rfl
theorem q66_69 : zQ 66 69 L (.int x :: .ref a :: st) M Q ↔ (a < zNC ∧ zk a = 5 ∧ zf a 7 = none) ∧ zQ 66 72 L st (zup M a 7 x) Q := zq_putf (n := 49) (b := false) (by decide +kernel) (by decide +kernel) (by decide +kernel)
theorem q66_72 : zQ 66 72 L st M Q ↔ zQ 66 75 L (.long (-9223372036854775808) :: st) M Q := zq_ld2 (n := 180) (by decide +kernel) (by decide +kernel) rfl
theorem q66_75 : zQ 66 75 L [.long xl] M Q ↔ Q (zJ xl) M := zq_reJ (by decide +kernel) (by decide +kernel)
theorem q66_76 : zQ 66 76 [v0, v1, v2, v3, .ref a, v5] st M Q ↔ zQ 66 78 [v0, v1, v2, v3, .ref a, v5] (.ref a :: st) M Q := zq_go (i := .aload 4) (by decide +kernel) rfl
theorem q66_78 : zQ 66 78 L (.ref a :: st) M Q ↔ (a < zNC ∧ zk a = 2) ∧ zQ 66 81 L (zfv a 0 M :: st) M Q := zq_getf (n := 199) (b := true) (by decide +kernel) (by decide +kernel)
theorem q66_81 : zQ 66 81 [v0, v1, .int x, v3, v4, v5] st M Q ↔ zQ 66 82 [v0, v1, .int x, v3, v4, v5] (.int x :: st) M Q := zq_go (i := .iload_n 2) (by decide +kernel) rfl
theorem q66_82 : zQ 66 82 L (.int x :: .ref a :: st) M Q ↔ (a < zNC ∧ zk a = 7 ∧ zin x (zn a) = true) ∧ zQ 66 83 L (.int (M a x.toNatClampNeg) :: st) M Q := zq_iald (by decide +kernel)
theorem q66_83 : zQ 66 83 L (.int x :: st) M Q ↔ zQ 66 84 L (.long x.toInt64 :: st) M Q := zq_go (i := .i2l) (by decide +kernel) rfl
theorem q66_84 : zQ 66 84 L [.long xl] M Q ↔ Q (zJ xl) M := zq_reJ (by decide +kernel) (by decide +kernel)
-- 67 SandKeepers.copy(IIIII)I
theorem q67_0 : zQ 67 0 [.ref a, v1, v2, v3, v4, v5, v6, v7] st M Q ↔ zQ 67 1 [.ref a, v1, v2, v3, v4, v5, v6, v7] (.ref a :: st) M Q := zq_go (i := .aload_n 0) (by decide +kernel) rfl
theorem q67_1 : zQ 67 1 L st M Q ↔ zQ 67 2 L (.int 0 :: st) M Q := zq_con (n := 0) (by decide +kernel) (by decide +kernel) rfl
theorem q67_2 : zQ 67 2 L (.int x :: .ref a :: st) M Q ↔ (a < zNC ∧ zk a = 5 ∧ zf a 7 = none) ∧ zQ 67 5 L st (zup M a 7 x) Q := zq_putf (n := 49) (b := false) (by decide +kernel) (by decide +kernel) (by decide +kernel)
theorem q67_5 : zQ 67 5 [v0, .int x, v2, v3, v4, v5, v6, v7] st M Q ↔ zQ 67 6 [v0, .int x, v2, v3, v4, v5, v6, v7] (.int x :: st) M Q := zq_go (i := .iload_n 1) (by decide +kernel) rfl
theorem q67_6 : zQ 67 6 L st M Q ↔ zQ 67 7 L (.int 4 :: st) M Q := zq_con (n := 4) (by decide +kernel) (by decide +kernel) rfl
theorem q67_7 : zQ 67 7 L (.int x2 :: .int x1 :: st) M Q ↔ zcs st ≤ 8 ∧ zQ 74 0 [.int x1, .int x2] [] M (fun r M1 => zQ 67 10 L (zpush r st) M1 Q) := zq_callS (n := 53) (j := 74) (b := false) (As := [.int x1, .int x2]) (by decide +kernel) (by decide +kernel) ⟨by decide +kernel, by decide +kernel, rfl, by decide +kernel, by decide +kernel, Nat.le_of_ble_eq_true rfl⟩ rfl
theorem q67_10 : zQ 67 10 L (.int x :: st) M Q ↔ (x = 0 → zQ 67 21 L st M Q) ∧ (¬ x = 0 → zQ 67 13 L st M Q) := zq_br (i := .ifCond .eq 11) (off := 11) (by decide +kernel) rfl (by decide) rfl
theorem q67_13 : zQ 67 13 [v0, v1, v2, .int x, v4, v5, v6, v7] st M Q ↔ zQ 67 14 [v0, v1, v2, .int x, v4, v5, v6, v7] (.int x :: st) M Q := zq_go (i := .iload_n 3) (by decide +kernel) rfl
theorem q67_14 : zQ 67 14 L st M Q ↔ zQ 67 15 L (.int 4 :: st) M Q := zq_con (n := 4) (by decide +kernel) (by decide +kernel) rfl
theorem q67_15 : zQ 67 15 L (.int x2 :: .int x1 :: st) M Q ↔ zcs st ≤ 8 ∧ zQ 74 0 [.int x1, .int x2] [] M (fun r M1 => zQ 67 18 L (zpush r st) M1 Q) := zq_callS (n := 53) (j := 74) (b := false) (As := [.int x1, .int x2]) (by decide +kernel) (by decide +kernel) ⟨by decide +kernel, by decide +kernel, rfl, by decide +kernel, by decide +kernel, Nat.le_of_ble_eq_true rfl⟩ rfl
theorem q67_18 : zQ 67 18 L (.int x :: st) M Q ↔ (x = 0 → zQ 67 21 L st M Q) ∧ (¬ x = 0 → zQ 67 23 L st M Q) := zq_bn (i := .ifCond .ne 5) (off := 5) (by decide +kernel) rfl (by decide) rfl
theorem q67_21 : zQ 67 21 L st M Q ↔ zQ 67 22 L (.int (-1) :: st) M Q := zq_con (n := (-1)) (by decide +kernel) (by decide +kernel) rfl
theorem q67_22 : zQ 67 22 L [.int x] M Q ↔ Q (zI x) M := zq_reI (by decide +kernel) (by decide +kernel)
theorem q67_23 : zQ 67 23 [.ref a, v1, v2, v3, v4, v5, v6, v7] st M Q ↔ zQ 67 24 [.ref a, v1, v2, v3, v4, v5, v6, v7] (.ref a :: st) M Q := zq_go (i := .aload_n 0) (by decide +kernel) rfl
theorem q67_24 : zQ 67 24 L (.ref a :: st) M Q ↔ (a < zNC ∧ zk a = 5) ∧ zQ 67 27 L (zfv a 5 M :: st) M Q := zq_getf (n := 44) (b := false) (by decide +kernel) (by decide +kernel)
theorem q67_27 : zQ 67 27 [v0, .int x, v2, v3, v4, v5, v6, v7] st M Q ↔ zQ 67 28 [v0, .int x, v2, v3, v4, v5, v6, v7] (.int x :: st) M Q := zq_go (i := .iload_n 1) (by decide +kernel) rfl
theorem q67_28 {z : Nat} (hz : z < 4) : zQ 67 28 L (.int (nI z) :: .ref 33 :: st) M Q ↔ zQ 67 29 L (.ref (34 + 2 * z) :: st) M Q := zq_aald hz (by decide +kernel)
theorem q67_29i : zQ 67 29 [v0, v1, v2, v3, v4, .int y, v6, v7] (.ref a :: st) M Q ↔ zQ 67 31 [v0, v1, v2, v3, v4, .int y, .ref a, v7] st M Q := zq_stA (i := .astore 6) (k := 6) (by decide +kernel) rfl (Nat.le_of_ble_eq_true rfl) rfl rfl
theorem q67_29r : zQ 67 29 [v0, v1, v2, v3, v4, .ref r1, v6, v7] (.ref a :: st) M Q ↔ zQ 67 31 [v0, v1, v2, v3, v4, .ref r1, .ref a, v7] st M Q := zq_stA (i := .astore 6) (k := 6) (by decide +kernel) rfl (Nat.le_of_ble_eq_true rfl) rfl rfl
theorem q67_29n : zQ 67 29 [v0, v1, v2, v3, v4, .null, v6, v7] (.ref a :: st) M Q ↔ zQ 67 31 [v0, v1, v2, v3, v4, .null, .ref a, v7] st M Q := zq_stA (i := .astore 6) (k := 6) (by decide +kernel) rfl (Nat.le_of_ble_eq_true rfl) rfl rfl
theorem q67_31 : zQ 67 31 [.ref a, v1, v2, v3, v4, v5, v6, v7] st M Q ↔ zQ 67 32 [.ref a, v1, v2, v3, v4, v5, v6, v7] (.ref a :: st) M Q := zq_go (i := .aload_n 0) (by decide +kernel) rfl
theorem q67_32 : zQ 67 32 L (.ref a :: st) M Q ↔ (a < zNC ∧ zk a = 5) ∧ zQ 67 35 L (zfv a 5 M :: st) M Q := zq_getf (n := 44) (b := false) (by decide +kernel) (by decide +kernel)
theorem q67_35 : zQ 67 35 [v0, v1, v2, .int x, v4, v5, v6, v7] st M Q ↔ zQ 67 36 [v0, v1, v2, .int x, v4, v5, v6, v7] (.int x :: st) M Q := zq_go (i := .iload_n 3) (by decide +kernel) rfl
theorem q67_36 {z : Nat} (hz : z < 4) : zQ 67 36 L (.int (nI z) :: .ref 33 :: st) M Q ↔ zQ 67 37 L (.ref (34 + 2 * z) :: st) M Q := zq_aald hz (by decide +kernel)
theorem q67_37i : zQ 67 37 [v0, v1, v2, v3, v4, v5, .int y, v7] (.ref a :: st) M Q ↔ zQ 67 39 [v0, v1, v2, v3, v4, v5, .int y, .ref a] st M Q := zq_stA (i := .astore 7) (k := 7) (by decide +kernel) rfl (Nat.le_of_ble_eq_true rfl) rfl rfl
theorem q67_37r : zQ 67 37 [v0, v1, v2, v3, v4, v5, .ref r1, v7] (.ref a :: st) M Q ↔ zQ 67 39 [v0, v1, v2, v3, v4, v5, .ref r1, .ref a] st M Q := zq_stA (i := .astore 7) (k := 7) (by decide +kernel) rfl (Nat.le_of_ble_eq_true rfl) rfl rfl
theorem q67_37n : zQ 67 37 [v0, v1, v2, v3, v4, v5, .null, v7] (.ref a :: st) M Q ↔ zQ 67 39 [v0, v1, v2, v3, v4, v5, .null, .ref a] st M Q := zq_stA (i := .astore 7) (k := 7) (by decide +kernel) rfl (Nat.le_of_ble_eq_true rfl) rfl rfl
theorem q67_39 : zQ 67 39 [v0, v1, v2, v3, v4, v5, .ref a, v7] st M Q ↔ zQ 67 41 [v0, v1, v2, v3, v4, v5, .ref a, v7] (.ref a :: st) M Q := zq_go (i := .aload 6) (by decide +kernel) rfl
theorem q67_41 : zQ 67 41 L (.ref a :: st) M Q ↔ (a < zNC ∧ zk a = 2) ∧ zQ 67 44 L (zfv a 1 M :: st) M Q := zq_getf (n := 192) (b := true) (by decide +kernel) (by decide +kernel)
theorem q67_44 : zQ 67 44 L (.int x :: st) M Q ↔ (x = 0 → zQ 67 55 L st M Q) ∧ (¬ x = 0 → zQ 67 47 L st M Q) := zq_br (i := .ifCond .eq 11) (off := 11) (by decide +kernel) rfl (by decide) rfl
theorem q67_47 : zQ 67 47 [v0, v1, v2, v3, v4, v5, v6, .ref a] st M Q ↔ zQ 67 49 [v0, v1, v2, v3, v4, v5, v6, .ref a] (.ref a :: st) M Q := zq_go (i := .aload 7) (by decide +kernel) rfl
theorem q67_49 : zQ 67 49 L (.ref a :: st) M Q ↔ (a < zNC ∧ zk a = 2) ∧ zQ 67 52 L (zfv a 1 M :: st) M Q := zq_getf (n := 192) (b := true) (by decide +kernel) (by decide +kernel)
theorem q67_52 : zQ 67 52 L (.int x :: st) M Q ↔ (x = 0 → zQ 67 55 L st M Q) ∧ (¬ x = 0 → zQ 67 61 L st M Q) := zq_bn (i := .ifCond .ne 9) (off := 9) (by decide +kernel) rfl (by decide) rfl
theorem q67_55 : zQ 67 55 [.ref a, v1, v2, v3, v4, v5, v6, v7] st M Q ↔ zQ 67 56 [.ref a, v1, v2, v3, v4, v5, v6, v7] (.ref a :: st) M Q := zq_go (i := .aload_n 0) (by decide +kernel) rfl
theorem q67_56 : zQ 67 56 L st M Q ↔ zQ 67 57 L (.int 1 :: st) M Q := zq_con (n := 1) (by decide +kernel) (by decide +kernel) rfl
theorem q67_57 : zQ 67 57 L (.int x1 :: .ref a :: st) M Q ↔ (zcs st ≤ 8 ∧ a < zNC ∧ zk a = 5) ∧ zQ 76 0 [.ref a, .int x1] [] M (fun r M1 => zQ 67 60 L (zpush r st) M1 Q) := zq_callV (n := 61) (j := 76) (b := false) (As := [.int x1]) (by decide +kernel) (by decide +kernel) ⟨by decide +kernel, by decide +kernel, rfl, by decide +kernel, by decide +kernel, Nat.le_of_ble_eq_true rfl⟩ rfl
theorem q67_60 : zQ 67 60 L [.int x] M Q ↔ Q (zI x) M := zq_reI (by decide +kernel) (by decide +kernel)
theorem q67_61 : zQ 67 61 [v0, v1, v2, v3, v4, v5, .ref a, v7] st M Q ↔ zQ 67 63 [v0, v1, v2, v3, v4, v5, .ref a, v7] (.ref a :: st) M Q := zq_go (i := .aload 6) (by decide +kernel) rfl
theorem q67_63 : zQ 67 63 L (.ref a :: st) M Q ↔ (a < zNC ∧ zk a = 2) ∧ zQ 67 66 L (zfv a 2 M :: st) M Q := zq_getf (n := 208) (b := true) (by decide +kernel) (by decide +kernel)
theorem q67_66 : zQ 67 66 [v0, v1, v2, v3, v4, v5, v6, .ref a] st M Q ↔ zQ 67 68 [v0, v1, v2, v3, v4, v5, v6, .ref a] (.ref a :: st) M Q := zq_go (i := .aload 7) (by decide +kernel) rfl
theorem q67_68 : zQ 67 68 L (.ref a :: st) M Q ↔ (a < zNC ∧ zk a = 2) ∧ zQ 67 71 L (zfv a 2 M :: st) M Q := zq_getf (n := 208) (b := true) (by decide +kernel) (by decide +kernel)
theorem q67_71 : zQ 67 71 L (.int y :: .int x :: st) M Q ↔ (x = y → zQ 67 80 L st M Q) ∧ (¬ x = y → zQ 67 74 L st M Q) := zq_br (i := .if_icmp .eq 9) (off := 9) (by decide +kernel) rfl (by decide) rfl
theorem q67_74 : zQ 67 74 [.ref a, v1, v2, v3, v4, v5, v6, v7] st M Q ↔ zQ 67 75 [.ref a, v1, v2, v3, v4, v5, v6, v7] (.ref a :: st) M Q := zq_go (i := .aload_n 0) (by decide +kernel) rfl
theorem q67_75 : zQ 67 75 L st M Q ↔ zQ 67 76 L (.int 2 :: st) M Q := zq_con (n := 2) (by decide +kernel) (by decide +kernel) rfl
theorem q67_76 : zQ 67 76 L (.int x1 :: .ref a :: st) M Q ↔ (zcs st ≤ 8 ∧ a < zNC ∧ zk a = 5) ∧ zQ 76 0 [.ref a, .int x1] [] M (fun r M1 => zQ 67 79 L (zpush r st) M1 Q) := zq_callV (n := 61) (j := 76) (b := false) (As := [.int x1]) (by decide +kernel) (by decide +kernel) ⟨by decide +kernel, by decide +kernel, rfl, by decide +kernel, by decide +kernel, Nat.le_of_ble_eq_true rfl⟩ rfl
theorem q67_79 : zQ 67 79 L [.int x] M Q ↔ Q (zI x) M := zq_reI (by decide +kernel) (by decide +kernel)
theorem q67_80 : zQ 67 80 [v0, v1, v2, v3, v4, .int x, v6, v7] st M Q ↔ zQ 67 82 [v0, v1, v2, v3, v4, .int x, v6, v7] (.int x :: st) M Q := zq_go (i := .iload 5) (by decide +kernel) rfl
theorem q67_82 : zQ 67 82 L (.int x :: st) M Q ↔ (x < 0 → zQ 67 108 L st M Q) ∧ (¬ x < 0 → zQ 67 85 L st M Q) := zq_br (i := .ifCond .lt 26) (off := 26) (by decide +kernel) rfl (by decide) rfl
theorem q67_85 : zQ 67 85 [v0, v1, v2, v3, v4, v5, .ref a, v7] st M Q ↔ zQ 67 87 [v0, v1, v2, v3, v4, v5, .ref a, v7] (.ref a :: st) M Q := zq_go (i := .aload 6) (by decide +kernel) rfl
theorem q67_87 : zQ 67 87 [v0, v1, .int x, v3, v4, v5, v6, v7] st M Q ↔ zQ 67 88 [v0, v1, .int x, v3, v4, v5, v6, v7] (.int x :: st) M Q := zq_go (i := .iload_n 2) (by decide +kernel) rfl
theorem q67_88 : zQ 67 88 [v0, v1, v2, v3, v4, .int x, v6, v7] st M Q ↔ zQ 67 90 [v0, v1, v2, v3, v4, .int x, v6, v7] (.int x :: st) M Q := zq_go (i := .iload 5) (by decide +kernel) rfl
theorem q67_90 : zQ 67 90 L (.int x2 :: .int x1 :: .ref a :: st) M Q ↔ (zcs st ≤ 8 ∧ a < zNC ∧ zk a = 2) ∧ zQ 9 0 [.ref a, .int x1, .int x2] [] M (fun r M1 => zQ 67 93 L (zpush r st) M1 Q) := zq_callV (n := 211) (j := 9) (b := true) (As := [.int x1, .int x2]) (by decide +kernel) (by decide +kernel) ⟨by decide +kernel, by decide +kernel, rfl, by decide +kernel, by decide +kernel, Nat.le_of_ble_eq_true rfl⟩ rfl
theorem q67_93 : zQ 67 93 L (.int x :: st) M Q ↔ (x = 0 → zQ 67 108 L st M Q) ∧ (¬ x = 0 → zQ 67 96 L st M Q) := zq_br (i := .ifCond .eq 15) (off := 15) (by decide +kernel) rfl (by decide) rfl
theorem q67_96 : zQ 67 96 [v0, v1, v2, v3, v4, v5, v6, .ref a] st M Q ↔ zQ 67 98 [v0, v1, v2, v3, v4, v5, v6, .ref a] (.ref a :: st) M Q := zq_go (i := .aload 7) (by decide +kernel) rfl
theorem q67_98 : zQ 67 98 [v0, v1, v2, v3, .int x, v5, v6, v7] st M Q ↔ zQ 67 100 [v0, v1, v2, v3, .int x, v5, v6, v7] (.int x :: st) M Q := zq_go (i := .iload 4) (by decide +kernel) rfl
theorem q67_100 : zQ 67 100 [v0, v1, v2, v3, v4, .int x, v6, v7] st M Q ↔ zQ 67 102 [v0, v1, v2, v3, v4, .int x, v6, v7] (.int x :: st) M Q := zq_go (i := .iload 5) (by decide +kernel) rfl
theorem q67_102 : zQ 67 102 L (.int x2 :: .int x1 :: .ref a :: st) M Q ↔ (zcs st ≤ 8 ∧ a < zNC ∧ zk a = 2) ∧ zQ 9 0 [.ref a, .int x1, .int x2] [] M (fun r M1 => zQ 67 105 L (zpush r st) M1 Q) := zq_callV (n := 211) (j := 9) (b := true) (As := [.int x1, .int x2]) (by decide +kernel) (by decide +kernel) ⟨by decide +kernel, by decide +kernel, rfl, by decide +kernel, by decide +kernel, Nat.le_of_ble_eq_true rfl⟩ rfl
theorem q67_105 : zQ 67 105 L (.int x :: st) M Q ↔ (x = 0 → zQ 67 108 L st M Q) ∧ (¬ x = 0 → zQ 67 114 L st M Q) := zq_bn (i := .ifCond .ne 9) (off := 9) (by decide +kernel) rfl (by decide) rfl
theorem q67_108 : zQ 67 108 [.ref a, v1, v2, v3, v4, v5, v6, v7] st M Q ↔ zQ 67 109 [.ref a, v1, v2, v3, v4, v5, v6, v7] (.ref a :: st) M Q := zq_go (i := .aload_n 0) (by decide +kernel) rfl
theorem q67_109 : zQ 67 109 L st M Q ↔ zQ 67 110 L (.int 3 :: st) M Q := zq_con (n := 3) (by decide +kernel) (by decide +kernel) rfl
theorem q67_110 : zQ 67 110 L (.int x1 :: .ref a :: st) M Q ↔ (zcs st ≤ 8 ∧ a < zNC ∧ zk a = 5) ∧ zQ 76 0 [.ref a, .int x1] [] M (fun r M1 => zQ 67 113 L (zpush r st) M1 Q) := zq_callV (n := 61) (j := 76) (b := false) (As := [.int x1]) (by decide +kernel) (by decide +kernel) ⟨by decide +kernel, by decide +kernel, rfl, by decide +kernel, by decide +kernel, Nat.le_of_ble_eq_true rfl⟩ rfl
theorem q67_113 : zQ 67 113 L [.int x] M Q ↔ Q (zI x) M := zq_reI (by decide +kernel) (by decide +kernel)
theorem q67_114 : zQ 67 114 [v0, v1, v2, v3, v4, v5, .ref a, v7] st M Q ↔ zQ 67 116 [v0, v1, v2, v3, v4, v5, .ref a, v7] (.ref a :: st) M Q := zq_go (i := .aload 6) (by decide +kernel) rfl
theorem q67_116 : zQ 67 116 L (.ref a :: st) M Q ↔ (a < zNC ∧ zk a = 2) ∧ zQ 67 119 L (zfv a 0 M :: st) M Q := zq_getf (n := 199) (b := true) (by decide +kernel) (by decide +kernel)
theorem q67_119 : zQ 67 119 [v0, v1, .int x, v3, v4, v5, v6, v7] st M Q ↔ zQ 67 120 [v0, v1, .int x, v3, v4, v5, v6, v7] (.int x :: st) M Q := zq_go (i := .iload_n 2) (by decide +kernel) rfl
theorem q67_120 : zQ 67 120 [v0, v1, v2, v3, v4, v5, v6, .ref a] st M Q ↔ zQ 67 122 [v0, v1, v2, v3, v4, v5, v6, .ref a] (.ref a :: st) M Q := zq_go (i := .aload 7) (by decide +kernel) rfl
theorem q67_122 : zQ 67 122 L (.ref a :: st) M Q ↔ (a < zNC ∧ zk a = 2) ∧ zQ 67 125 L (zfv a 0 M :: st) M Q := zq_getf (n := 199) (b := true) (by decide +kernel) (by decide +kernel)
theorem q67_125 : zQ 67 125 [v0, v1, v2, v3, .int x, v5, v6, v7] st M Q ↔ zQ 67 127 [v0, v1, v2, v3, .int x, v5, v6, v7] (.int x :: st) M Q := zq_go (i := .iload 4) (by decide +kernel) rfl
theorem q67_127 : zQ 67 127 [v0, v1, v2, v3, v4, .int x, v6, v7] st M Q ↔ zQ 67 129 [v0, v1, v2, v3, v4, .int x, v6, v7] (.int x :: st) M Q := zq_go (i := .iload 5) (by decide +kernel) rfl
theorem q67_129 {n dp sp : Int32} {a b : Nat} : zQ 67 129 L (.int n :: .int dp :: .ref b :: .int sp :: .ref a :: st) M Q ↔ ((a < zNC ∧ zk a = 7 ∧ b < zNC ∧ zk b = 7) ∧ (¬ sp < 0 ∧ ¬ dp < 0 ∧ ¬ n < 0 ∧ sp.toNatClampNeg + n.toNatClampNeg ≤ zn a ∧ dp.toNatClampNeg + n.toNatClampNeg ≤ zn b) ∧ 1 ≤ zfr 67 ∧ zcs st + (nativeFrameWords "java/lang/System" "arraycopy" 5 + 11) ≤ zlo 67) ∧ zQ 67 132 L st (zrow M b (va_cpy (M a) (M b) sp.toNatClampNeg dp.toNatClampNeg n.toNatClampNeg)) Q := zq_cpy (m := 214) (nb := false) (by decide +kernel) (by decide +kernel)
theorem q67_132 : zQ 67 132 [v0, v1, v2, v3, v4, .int x, v6, v7] st M Q ↔ zQ 67 134 [v0, v1, v2, v3, v4, .int x, v6, v7] (.int x :: st) M Q := zq_go (i := .iload 5) (by decide +kernel) rfl
theorem q67_134 : zQ 67 134 L [.int x] M Q ↔ Q (zI x) M := zq_reI (by decide +kernel) (by decide +kernel)
-- 68 SandKeepers.tell(I)I
theorem q68_0 : zQ 68 0 [.ref a, v1] st M Q ↔ zQ 68 1 [.ref a, v1] (.ref a :: st) M Q := zq_go (i := .aload_n 0) (by decide +kernel) rfl
theorem q68_1 : zQ 68 1 L (.ref a :: st) M Q ↔ (a < zNC ∧ zk a = 5) ∧ zQ 68 4 L (zfv a 0 M :: st) M Q := zq_getf (n := 12) (b := false) (by decide +kernel) (by decide +kernel)
theorem q68_4 : zQ 68 4 [v0, .int x] st M Q ↔ zQ 68 5 [v0, .int x] (.int x :: st) M Q := zq_go (i := .iload_n 1) (by decide +kernel) rfl
theorem q68_5 : zQ 68 5 L (.int x1 :: .ref a :: st) M Q ↔ (zcs st ≤ 8 ∧ a < zNC ∧ zk a = 4) ∧ zQ 17 0 [.ref a, .int x1] [] M (fun r M1 => zQ 68 8 L (zpush r st) M1 Q) := zq_callV (n := 79) (j := 17) (b := true) (As := [.int x1]) (by decide +kernel) (by decide +kernel) ⟨by decide +kernel, by decide +kernel, rfl, by decide +kernel, by decide +kernel, Nat.le_of_ble_eq_true rfl⟩ rfl
theorem q68_8 : zQ 68 8 L (.int x :: st) M Q ↔ (x = 0 → zQ 68 11 L st M Q) ∧ (¬ x = 0 → zQ 68 13 L st M Q) := zq_bn (i := .ifCond .ne 5) (off := 5) (by decide +kernel) rfl (by decide) rfl
theorem q68_11 : zQ 68 11 L st M Q ↔ zQ 68 12 L (.int (-1) :: st) M Q := zq_con (n := (-1)) (by decide +kernel) (by decide +kernel) rfl
theorem q68_12 : zQ 68 12 L [.int x] M Q ↔ Q (zI x) M := zq_reI (by decide +kernel) (by decide +kernel)
theorem q68_13 : zQ 68 13 [.ref a, v1] st M Q ↔ zQ 68 14 [.ref a, v1] (.ref a :: st) M Q := zq_go (i := .aload_n 0) (by decide +kernel) rfl
theorem q68_14 : zQ 68 14 L (.ref a :: st) M Q ↔ (a < zNC ∧ zk a = 5) ∧ zQ 68 17 L (zfv a 0 M :: st) M Q := zq_getf (n := 12) (b := false) (by decide +kernel) (by decide +kernel)
theorem q68_17 : zQ 68 17 L (.ref a :: st) M Q ↔ (a < zNC ∧ zk a = 4) ∧ zQ 68 20 L (zfv a 0 M :: st) M Q := zq_getf (n := 83) (b := true) (by decide +kernel) (by decide +kernel)
theorem q68_20 : zQ 68 20 [v0, .int x] st M Q ↔ zQ 68 21 [v0, .int x] (.int x :: st) M Q := zq_go (i := .iload_n 1) (by decide +kernel) rfl
theorem q68_21 : zQ 68 21 L (.int x :: .ref a :: st) M Q ↔ (a < zNC ∧ zk a = 7 ∧ zin x (zn a) = true) ∧ zQ 68 22 L (.int (M a x.toNatClampNeg) :: st) M Q := zq_iald (by decide +kernel)
theorem q68_48 : zQ 68 48 [.ref a, v1] st M Q ↔ zQ 68 49 [.ref a, v1] (.ref a :: st) M Q := zq_go (i := .aload_n 0) (by decide +kernel) rfl
theorem q68_49 : zQ 68 49 [v0, .int x] st M Q ↔ zQ 68 50 [v0, .int x] (.int x :: st) M Q := zq_go (i := .iload_n 1) (by decide +kernel) rfl
theorem q68_50 : zQ 68 50 L (.int x1 :: .ref a :: st) M Q ↔ (zcs st ≤ 8 ∧ a < zNC ∧ zk a = 5) ∧ zQ 81 0 [.ref a, .int x1] [] M (fun r M1 => zQ 68 53 L (zpush r st) M1 Q) := zq_callV (n := 220) (j := 81) (b := false) (As := [.int x1]) (by decide +kernel) (by decide +kernel) ⟨by decide +kernel, by decide +kernel, rfl, by decide +kernel, by decide +kernel, Nat.le_of_ble_eq_true rfl⟩ rfl
theorem q68_53 : zQ 68 53 L [.int x] M Q ↔ Q (zI x) M := zq_reI (by decide +kernel) (by decide +kernel)
theorem q68_54 : zQ 68 54 [.ref a, v1] st M Q ↔ zQ 68 55 [.ref a, v1] (.ref a :: st) M Q := zq_go (i := .aload_n 0) (by decide +kernel) rfl
theorem q68_55 : zQ 68 55 [v0, .int x] st M Q ↔ zQ 68 56 [v0, .int x] (.int x :: st) M Q := zq_go (i := .iload_n 1) (by decide +kernel) rfl
theorem q68_56 : zQ 68 56 L (.int x1 :: .ref a :: st) M Q ↔ (zcs st ≤ 8 ∧ a < zNC ∧ zk a = 5) ∧ zQ 82 0 [.ref a, .int x1] [] M (fun r M1 => zQ 68 59 L (zpush r st) M1 Q) := zq_callV (n := 223) (j := 82) (b := false) (As := [.int x1]) (by decide +kernel) (by decide +kernel) ⟨by decide +kernel, by decide +kernel, rfl, by decide +kernel, by decide +kernel, Nat.le_of_ble_eq_true rfl⟩ rfl
theorem q68_59 : zQ 68 59 L [.int x] M Q ↔ Q (zI x) M := zq_reI (by decide +kernel) (by decide +kernel)
theorem q68_60 : zQ 68 60 [.ref a, v1] st M Q ↔ zQ 68 61 [.ref a, v1] (.ref a :: st) M Q := zq_go (i := .aload_n 0) (by decide +kernel) rfl
theorem q68_61 : zQ 68 61 [v0, .int x] st M Q ↔ zQ 68 62 [v0, .int x] (.int x :: st) M Q := zq_go (i := .iload_n 1) (by decide +kernel) rfl
theorem q68_62 : zQ 68 62 L (.int x1 :: .ref a :: st) M Q ↔ (zcs st ≤ 8 ∧ a < zNC ∧ zk a = 5) ∧ zQ 83 0 [.ref a, .int x1, .null] [] M (fun r M1 => zQ 68 65 L (zpush r st) M1 Q) := zq_callV (n := 226) (j := 83) (b := false) (As := [.int x1]) (by decide +kernel) (by decide +kernel) ⟨by decide +kernel, by decide +kernel, rfl, by decide +kernel, by decide +kernel, Nat.le_of_ble_eq_true rfl⟩ rfl
theorem q68_65 : zQ 68 65 L [.int x] M Q ↔ Q (zI x) M := zq_reI (by decide +kernel) (by decide +kernel)
-- 69 SandKeepers.dust(I)I
theorem q69_0 : zQ 69 0 [.ref a, v1] st M Q ↔ zQ 69 1 [.ref a, v1] (.ref a :: st) M Q := zq_go (i := .aload_n 0) (by decide +kernel) rfl
theorem q69_1 : zQ 69 1 L (.ref a :: st) M Q ↔ (a < zNC ∧ zk a = 5) ∧ zQ 69 4 L (zfv a 0 M :: st) M Q := zq_getf (n := 12) (b := false) (by decide +kernel) (by decide +kernel)
theorem q69_4 : zQ 69 4 [v0, .int x] st M Q ↔ zQ 69 5 [v0, .int x] (.int x :: st) M Q := zq_go (i := .iload_n 1) (by decide +kernel) rfl
theorem q69_5 : zQ 69 5 L (.int x1 :: .ref a :: st) M Q ↔ (zcs st ≤ 8 ∧ a < zNC ∧ zk a = 4) ∧ zQ 17 0 [.ref a, .int x1] [] M (fun r M1 => zQ 69 8 L (zpush r st) M1 Q) := zq_callV (n := 79) (j := 17) (b := true) (As := [.int x1]) (by decide +kernel) (by decide +kernel) ⟨by decide +kernel, by decide +kernel, rfl, by decide +kernel, by decide +kernel, Nat.le_of_ble_eq_true rfl⟩ rfl
theorem q69_8 : zQ 69 8 L (.int x :: st) M Q ↔ (x = 0 → zQ 69 11 L st M Q) ∧ (¬ x = 0 → zQ 69 13 L st M Q) := zq_bn (i := .ifCond .ne 5) (off := 5) (by decide +kernel) rfl (by decide) rfl
theorem q69_11 : zQ 69 11 L st M Q ↔ zQ 69 12 L (.int (-1) :: st) M Q := zq_con (n := (-1)) (by decide +kernel) (by decide +kernel) rfl
theorem q69_12 : zQ 69 12 L [.int x] M Q ↔ Q (zI x) M := zq_reI (by decide +kernel) (by decide +kernel)
theorem q69_13 : zQ 69 13 [.ref a, v1] st M Q ↔ zQ 69 14 [.ref a, v1] (.ref a :: st) M Q := zq_go (i := .aload_n 0) (by decide +kernel) rfl
theorem q69_14 : zQ 69 14 L (.ref a :: st) M Q ↔ (a < zNC ∧ zk a = 5) ∧ zQ 69 17 L (zfv a 0 M :: st) M Q := zq_getf (n := 12) (b := false) (by decide +kernel) (by decide +kernel)
theorem q69_17 : zQ 69 17 L (.ref a :: st) M Q ↔ (a < zNC ∧ zk a = 4) ∧ zQ 69 20 L (zfv a 0 M :: st) M Q := zq_getf (n := 83) (b := true) (by decide +kernel) (by decide +kernel)
theorem q69_20 : zQ 69 20 [v0, .int x] st M Q ↔ zQ 69 21 [v0, .int x] (.int x :: st) M Q := zq_go (i := .iload_n 1) (by decide +kernel) rfl
theorem q69_21 : zQ 69 21 L (.int x :: .ref a :: st) M Q ↔ (a < zNC ∧ zk a = 7 ∧ zin x (zn a) = true) ∧ zQ 69 22 L (.int (M a x.toNatClampNeg) :: st) M Q := zq_iald (by decide +kernel)
theorem q69_22 : zQ 69 22 L st M Q ↔ zQ 69 23 L (.int 2 :: st) M Q := zq_con (n := 2) (by decide +kernel) (by decide +kernel) rfl
theorem q69_23 : zQ 69 23 L (.int y :: .int x :: st) M Q ↔ (x = y → zQ 69 26 L st M Q) ∧ (¬ x = y → zQ 69 34 L st M Q) := zq_bn (i := .if_icmp .ne 11) (off := 11) (by decide +kernel) rfl (by decide) rfl
theorem q69_26 : zQ 69 26 [.ref a, v1] st M Q ↔ zQ 69 27 [.ref a, v1] (.ref a :: st) M Q := zq_go (i := .aload_n 0) (by decide +kernel) rfl
theorem q69_27 : zQ 69 27 L st M Q ↔ zQ 69 28 L (.int 5 :: st) M Q := zq_con (n := 5) (by decide +kernel) (by decide +kernel) rfl
theorem q69_28 : zQ 69 28 L (.int x1 :: .ref a :: st) M Q ↔ (zcs st ≤ 8 ∧ a < zNC ∧ zk a = 5) ∧ zQ 80 0 [.ref a, .int x1] [] M (fun r M1 => zQ 69 31 L (zpush r st) M1 Q) := zq_callV (n := 229) (j := 80) (b := false) (As := [.int x1]) (by decide +kernel) (by decide +kernel) ⟨by decide +kernel, by decide +kernel, rfl, by decide +kernel, by decide +kernel, Nat.le_of_ble_eq_true rfl⟩ rfl
theorem q69_31 : zQ 69 31 L st M Q ↔ zQ 69 33 L (.int 50 :: st) M Q := zq_bip (n := 50) (by decide +kernel) (by decide +kernel) rfl
theorem q69_33 : zQ 69 33 L [.int x] M Q ↔ Q (zI x) M := zq_reI (by decide +kernel) (by decide +kernel)
theorem q69_34 : zQ 69 34 [.ref a, v1] st M Q ↔ zQ 69 35 [.ref a, v1] (.ref a :: st) M Q := zq_go (i := .aload_n 0) (by decide +kernel) rfl
theorem q69_35 : zQ 69 35 L st M Q ↔ zQ 69 36 L (.int 4 :: st) M Q := zq_con (n := 4) (by decide +kernel) (by decide +kernel) rfl
theorem q69_36 : zQ 69 36 L (.int x1 :: .ref a :: st) M Q ↔ (zcs st ≤ 8 ∧ a < zNC ∧ zk a = 5) ∧ zQ 80 0 [.ref a, .int x1] [] M (fun r M1 => zQ 69 39 L (zpush r st) M1 Q) := zq_callV (n := 229) (j := 80) (b := false) (As := [.int x1]) (by decide +kernel) (by decide +kernel) ⟨by decide +kernel, by decide +kernel, rfl, by decide +kernel, by decide +kernel, Nat.le_of_ble_eq_true rfl⟩ rfl
theorem q69_39 : zQ 69 39 [v0, .int x] st M Q ↔ zQ 69 40 [v0, .int x] (.int x :: st) M Q := zq_go (i := .iload_n 1) (by decide +kernel) rfl
theorem q69_40 : zQ 69 40 L [.int x] M Q ↔ Q (zI x) M := zq_reI (by decide +kernel) (by decide +kernel)
-- 70 SandKeepers.as(II)I
theorem q70_0 : zQ 70 0 [.ref a, v1, v2] st M Q ↔ zQ 70 1 [.ref a, v1, v2] (.ref a :: st) M Q := zq_go (i := .aload_n 0) (by decide +kernel) rfl
theorem q70_1 : zQ 70 1 L st M Q ↔ zQ 70 2 L (.int 0 :: st) M Q := zq_con (n := 0) (by decide +kernel) (by decide +kernel) rfl
theorem q70_2 : zQ 70 2 L (.int x :: .ref a :: st) M Q ↔ (a < zNC ∧ zk a = 5 ∧ zf a 7 = none) ∧ zQ 70 5 L st (zup M a 7 x) Q := zq_putf (n := 49) (b := false) (by decide +kernel) (by decide +kernel) (by decide +kernel)
theorem q70_5 : zQ 70 5 [.ref a, v1, v2] st M Q ↔ zQ 70 6 [.ref a, v1, v2] (.ref a :: st) M Q := zq_go (i := .aload_n 0) (by decide +kernel) rfl
theorem q70_6 : zQ 70 6 L (.ref a :: st) M Q ↔ (a < zNC ∧ zk a = 5) ∧ zQ 70 9 L (zfv a 0 M :: st) M Q := zq_getf (n := 12) (b := false) (by decide +kernel) (by decide +kernel)
theorem q70_9 : zQ 70 9 [v0, .int x, v2] st M Q ↔ zQ 70 10 [v0, .int x, v2] (.int x :: st) M Q := zq_go (i := .iload_n 1) (by decide +kernel) rfl
theorem q70_10 : zQ 70 10 L (.int x1 :: .ref a :: st) M Q ↔ (zcs st ≤ 8 ∧ a < zNC ∧ zk a = 4) ∧ zQ 17 0 [.ref a, .int x1] [] M (fun r M1 => zQ 70 13 L (zpush r st) M1 Q) := zq_callV (n := 79) (j := 17) (b := true) (As := [.int x1]) (by decide +kernel) (by decide +kernel) ⟨by decide +kernel, by decide +kernel, rfl, by decide +kernel, by decide +kernel, Nat.le_of_ble_eq_true rfl⟩ rfl
theorem q70_13 : zQ 70 13 L (.int x :: st) M Q ↔ (x = 0 → zQ 70 16 L st M Q) ∧ (¬ x = 0 → zQ 70 18 L st M Q) := zq_bn (i := .ifCond .ne 5) (off := 5) (by decide +kernel) rfl (by decide) rfl
theorem q70_16 : zQ 70 16 L st M Q ↔ zQ 70 17 L (.int (-1) :: st) M Q := zq_con (n := (-1)) (by decide +kernel) (by decide +kernel) rfl
theorem q70_17 : zQ 70 17 L [.int x] M Q ↔ Q (zI x) M := zq_reI (by decide +kernel) (by decide +kernel)
theorem q70_18 : zQ 70 18 [v0, v1, .int x] st M Q ↔ zQ 70 19 [v0, v1, .int x] (.int x :: st) M Q := zq_go (i := .iload_n 2) (by decide +kernel) rfl
theorem q70_19 : zQ 70 19 L st M Q ↔ zQ 70 20 L (.int 3 :: st) M Q := zq_con (n := 3) (by decide +kernel) (by decide +kernel) rfl
theorem q70_20 : zQ 70 20 L (.int x2 :: .int x1 :: st) M Q ↔ zcs st ≤ 8 ∧ zQ 74 0 [.int x1, .int x2] [] M (fun r M1 => zQ 70 23 L (zpush r st) M1 Q) := zq_callS (n := 53) (j := 74) (b := false) (As := [.int x1, .int x2]) (by decide +kernel) (by decide +kernel) ⟨by decide +kernel, by decide +kernel, rfl, by decide +kernel, by decide +kernel, Nat.le_of_ble_eq_true rfl⟩ rfl
theorem q70_23 : zQ 70 23 L (.int x :: st) M Q ↔ (x = 0 → zQ 70 26 L st M Q) ∧ (¬ x = 0 → zQ 70 29 L st M Q) := zq_bn (i := .ifCond .ne 6) (off := 6) (by decide +kernel) rfl (by decide) rfl
theorem q70_26 : zQ 70 26 L st M Q ↔ zQ 70 28 L (.int (-2) :: st) M Q := zq_bip (n := (-2)) (by decide +kernel) (by decide +kernel) rfl
theorem q70_28 : zQ 70 28 L [.int x] M Q ↔ Q (zI x) M := zq_reI (by decide +kernel) (by decide +kernel)
theorem q70_29 : zQ 70 29 [.ref a, v1, v2] st M Q ↔ zQ 70 30 [.ref a, v1, v2] (.ref a :: st) M Q := zq_go (i := .aload_n 0) (by decide +kernel) rfl
theorem q70_30 : zQ 70 30 L (.ref a :: st) M Q ↔ (a < zNC ∧ zk a = 5) ∧ zQ 70 33 L (zfv a 0 M :: st) M Q := zq_getf (n := 12) (b := false) (by decide +kernel) (by decide +kernel)
theorem q70_33 : zQ 70 33 L (.ref a :: st) M Q ↔ (a < zNC ∧ zk a = 4) ∧ zQ 70 36 L (zfv a 0 M :: st) M Q := zq_getf (n := 83) (b := true) (by decide +kernel) (by decide +kernel)
theorem q70_36 : zQ 70 36 [v0, .int x, v2] st M Q ↔ zQ 70 37 [v0, .int x, v2] (.int x :: st) M Q := zq_go (i := .iload_n 1) (by decide +kernel) rfl
theorem q70_37 : zQ 70 37 L (.int x :: .ref a :: st) M Q ↔ (a < zNC ∧ zk a = 7 ∧ zin x (zn a) = true) ∧ zQ 70 38 L (.int (M a x.toNatClampNeg) :: st) M Q := zq_iald (by decide +kernel)
theorem q70_38 : zQ 70 38 [v0, v1, .int x] st M Q ↔ zQ 70 39 [v0, v1, .int x] (.int x :: st) M Q := zq_go (i := .iload_n 2) (by decide +kernel) rfl
theorem q70_39 : zQ 70 39 L (.int y :: .int x :: st) M Q ↔ (x < y → zQ 70 46 L st M Q) ∧ (¬ x < y → zQ 70 42 L st M Q) := zq_br (i := .if_icmp .lt 7) (off := 7) (by decide +kernel) rfl (by decide) rfl
theorem q70_42 : zQ 70 42 L st M Q ↔ zQ 70 43 L (.int 1 :: st) M Q := zq_con (n := 1) (by decide +kernel) (by decide +kernel) rfl
theorem q70_43 : zQ 70 43 L st M Q ↔ zQ 70 51 L st M Q := zq_jmp (off := 8) (by decide +kernel) (by decide)
theorem q70_46 : zQ 70 46 [.ref a, v1, v2] st M Q ↔ zQ 70 47 [.ref a, v1, v2] (.ref a :: st) M Q := zq_go (i := .aload_n 0) (by decide +kernel) rfl
theorem q70_47 : zQ 70 47 L st M Q ↔ zQ 70 48 L (.int 2 :: st) M Q := zq_con (n := 2) (by decide +kernel) (by decide +kernel) rfl
theorem q70_48 : zQ 70 48 L (.int x1 :: .ref a :: st) M Q ↔ (zcs st ≤ 8 ∧ a < zNC ∧ zk a = 5) ∧ zQ 76 0 [.ref a, .int x1] [] M (fun r M1 => zQ 70 51 L (zpush r st) M1 Q) := zq_callV (n := 61) (j := 76) (b := false) (As := [.int x1]) (by decide +kernel) (by decide +kernel) ⟨by decide +kernel, by decide +kernel, rfl, by decide +kernel, by decide +kernel, Nat.le_of_ble_eq_true rfl⟩ rfl
theorem q70_51 : zQ 70 51 L [.int x] M Q ↔ Q (zI x) M := zq_reI (by decide +kernel) (by decide +kernel)
-- 71 SandKeepers.trace()I
theorem q71_0 : zQ 71 0 [.ref a] st M Q ↔ zQ 71 1 [.ref a] (.ref a :: st) M Q := zq_go (i := .aload_n 0) (by decide +kernel) rfl
theorem q71_1 : zQ 71 1 L (.ref a :: st) M Q ↔ (a < zNC ∧ zk a = 5) ∧ zQ 71 4 L (zfv a 6 M :: st) M Q := zq_getf (n := 233) (b := false) (by decide +kernel) (by decide +kernel)
theorem q71_4 : zQ 71 4 L [.int x] M Q ↔ Q (zI x) M := zq_reI (by decide +kernel) (by decide +kernel)
-- 72 SandKeepers.fault()I
theorem q72_0 : zQ 72 0 [.ref a] st M Q ↔ zQ 72 1 [.ref a] (.ref a :: st) M Q := zq_go (i := .aload_n 0) (by decide +kernel) rfl
theorem q72_1 : zQ 72 1 L (.ref a :: st) M Q ↔ (a < zNC ∧ zk a = 5) ∧ zQ 72 4 L (zfv a 7 M :: st) M Q := zq_getf (n := 49) (b := false) (by decide +kernel) (by decide +kernel)
theorem q72_4 : zQ 72 4 L [.int x] M Q ↔ Q (zI x) M := zq_reI (by decide +kernel) (by decide +kernel)
-- 73 SandKeepers.many(I)I
theorem q73_0 : zQ 73 0 [v0, .int x] st M Q ↔ zQ 73 1 [v0, .int x] (.int x :: st) M Q := zq_go (i := .iload_n 1) (by decide +kernel) rfl
theorem q73_1 : zQ 73 1 L (.int x :: st) M Q ↔ zQ 73 (ztgt 1 (ztabo 66 0 3 #[31, 39, 50, 58] x.toInt)) L st M Q := zq_tab (by decide +kernel) (by decide) (by decide)
theorem q73_32 : zQ 73 32 [.ref a, v1] st M Q ↔ zQ 73 33 [.ref a, v1] (.ref a :: st) M Q := zq_go (i := .aload_n 0) (by decide +kernel) rfl
theorem q73_33 : zQ 73 33 L (.ref a :: st) M Q ↔ (a < zNC ∧ zk a = 5) ∧ zQ 73 36 L (zfv a 0 M :: st) M Q := zq_getf (n := 12) (b := false) (by decide +kernel) (by decide +kernel)
theorem q73_36 : zQ 73 36 L (.ref a :: st) M Q ↔ (a < zNC ∧ zk a = 4) ∧ zQ 73 39 L (zfv a 7 M :: st) M Q := zq_getf (n := 76) (b := true) (by decide +kernel) (by decide +kernel)
theorem q73_39 : zQ 73 39 L [.int x] M Q ↔ Q (zI x) M := zq_reI (by decide +kernel) (by decide +kernel)
theorem q73_40 : zQ 73 40 [.ref a, v1] st M Q ↔ zQ 73 41 [.ref a, v1] (.ref a :: st) M Q := zq_go (i := .aload_n 0) (by decide +kernel) rfl
theorem q73_41 : zQ 73 41 L (.ref a :: st) M Q ↔ (a < zNC ∧ zk a = 5) ∧ zQ 73 44 L (zfv a 0 M :: st) M Q := zq_getf (n := 12) (b := false) (by decide +kernel) (by decide +kernel)
theorem q73_44 : zQ 73 44 L (.ref a :: st) M Q ↔ (zcs st ≤ 8 ∧ a < zNC ∧ zk a = 4) ∧ zQ 27 0 [.ref a, .null, .null] [] M (fun r M1 => zQ 73 47 L (zpush r st) M1 Q) := zq_callV (n := 113) (j := 27) (b := true) (As := []) (by decide +kernel) (by decide +kernel) ⟨by decide +kernel, by decide +kernel, rfl, by decide +kernel, by decide +kernel, Nat.le_of_ble_eq_true rfl⟩ rfl
theorem q73_47 : zQ 73 47 L (.int x1 :: st) M Q ↔ zcs st ≤ 8 ∧ zQ 156 0 [.int x1] [] M (fun r M1 => zQ 73 50 L (zpush r st) M1 Q) := zq_callS (n := 126) (j := 156) (b := false) (As := [.int x1]) (by decide +kernel) (by decide +kernel) ⟨by decide +kernel, by decide +kernel, rfl, by decide +kernel, by decide +kernel, Nat.le_of_ble_eq_true rfl⟩ rfl
theorem q73_50 : zQ 73 50 L [.int x] M Q ↔ Q (zI x) M := zq_reI (by decide +kernel) (by decide +kernel)
theorem q73_51 : zQ 73 51 [.ref a, v1] st M Q ↔ zQ 73 52 [.ref a, v1] (.ref a :: st) M Q := zq_go (i := .aload_n 0) (by decide +kernel) rfl
theorem q73_52 : zQ 73 52 L (.ref a :: st) M Q ↔ (a < zNC ∧ zk a = 5) ∧ zQ 73 55 L (zfv a 0 M :: st) M Q := zq_getf (n := 12) (b := false) (by decide +kernel) (by decide +kernel)
theorem q73_55 : zQ 73 55 L (.ref a :: st) M Q ↔ (a < zNC ∧ zk a = 4) ∧ zQ 73 58 L (zfv a 8 M :: st) M Q := zq_getf (n := 123) (b := true) (by decide +kernel) (by decide +kernel)
theorem q73_58 : zQ 73 58 L [.int x] M Q ↔ Q (zI x) M := zq_reI (by decide +kernel) (by decide +kernel)
theorem q73_59 : zQ 73 59 [.ref a, v1] st M Q ↔ zQ 73 60 [.ref a, v1] (.ref a :: st) M Q := zq_go (i := .aload_n 0) (by decide +kernel) rfl
theorem q73_60 : zQ 73 60 L (.ref a :: st) M Q ↔ (a < zNC ∧ zk a = 5) ∧ zQ 73 63 L (zfv a 4 M :: st) M Q := zq_getf (n := 38) (b := false) (by decide +kernel) (by decide +kernel)
theorem q73_63 : zQ 73 63 L (.ref a :: st) M Q ↔ (a < zNC ∧ zk a = 0) ∧ zQ 73 66 L (zfv a 3 M :: st) M Q := zq_getf (n := 73) (b := true) (by decide +kernel) (by decide +kernel)
theorem q73_66 : zQ 73 66 L [.int x] M Q ↔ Q (zI x) M := zq_reI (by decide +kernel) (by decide +kernel)
theorem q73_67 : zQ 73 67 L st M Q ↔ zQ 73 69 L (.int (-2) :: st) M Q := zq_bip (n := (-2)) (by decide +kernel) (by decide +kernel) rfl
theorem q73_69 : zQ 73 69 L [.int x] M Q ↔ Q (zI x) M := zq_reI (by decide +kernel) (by decide +kernel)
-- 74 SandKeepers.isWithin(II)Z
theorem q74_0 : zQ 74 0 [.int x, v1] st M Q ↔ zQ 74 1 [.int x, v1] (.int x :: st) M Q := zq_go (i := .iload_n 0) (by decide +kernel) rfl
theorem q74_1 : zQ 74 1 L (.int x :: st) M Q ↔ (x < 0 → zQ 74 13 L st M Q) ∧ (¬ x < 0 → zQ 74 4 L st M Q) := zq_br (i := .ifCond .lt 12) (off := 12) (by decide +kernel) rfl (by decide) rfl
theorem q74_4 : zQ 74 4 [.int x, v1] st M Q ↔ zQ 74 5 [.int x, v1] (.int x :: st) M Q := zq_go (i := .iload_n 0) (by decide +kernel) rfl
theorem q74_5 : zQ 74 5 [v0, .int x] st M Q ↔ zQ 74 6 [v0, .int x] (.int x :: st) M Q := zq_go (i := .iload_n 1) (by decide +kernel) rfl
theorem q74_6 : zQ 74 6 L (.int y :: .int x :: st) M Q ↔ (y ≤ x → zQ 74 13 L st M Q) ∧ (¬ y ≤ x → zQ 74 9 L st M Q) := zq_br (i := .if_icmp .ge 7) (off := 7) (by decide +kernel) rfl (by decide) rfl
theorem q74_9 : zQ 74 9 L st M Q ↔ zQ 74 10 L (.int 1 :: st) M Q := zq_con (n := 1) (by decide +kernel) (by decide +kernel) rfl
theorem q74_10 : zQ 74 10 L st M Q ↔ zQ 74 14 L st M Q := zq_jmp (off := 4) (by decide +kernel) (by decide)
theorem q74_13 : zQ 74 13 L st M Q ↔ zQ 74 14 L (.int 0 :: st) M Q := zq_con (n := 0) (by decide +kernel) (by decide +kernel) rfl
theorem q74_14 : zQ 74 14 L [.int x] M Q ↔ (x = 0 ∨ x = 1) ∧ Q (zI x) M := zq_reZ (by decide +kernel) (by decide +kernel)
-- 75 SandKeepers.greatestDivisor(II)I
theorem q75_0 : zQ 75 0 [.int x, v1, v2] st M Q ↔ zQ 75 1 [.int x, v1, v2] (.int x :: st) M Q := zq_go (i := .iload_n 0) (by decide +kernel) rfl
theorem q75_1i : zQ 75 1 [v0, .int y, v2] (.int x :: st) M Q ↔ zQ 75 2 [v0, .int y, .int x] st M Q := zq_stI (i := .istore_n 2) (k := 2) (by decide +kernel) rfl (Nat.le_of_ble_eq_true rfl) rfl rfl
theorem q75_1r : zQ 75 1 [v0, .ref r1, v2] (.int x :: st) M Q ↔ zQ 75 2 [v0, .ref r1, .int x] st M Q := zq_stI (i := .istore_n 2) (k := 2) (by decide +kernel) rfl (Nat.le_of_ble_eq_true rfl) rfl rfl
theorem q75_1n : zQ 75 1 [v0, .null, v2] (.int x :: st) M Q ↔ zQ 75 2 [v0, .null, .int x] st M Q := zq_stI (i := .istore_n 2) (k := 2) (by decide +kernel) rfl (Nat.le_of_ble_eq_true rfl) rfl rfl
theorem q75_2 : zQ 75 2 [v0, v1, .int x] st M Q ↔ zQ 75 3 [v0, v1, .int x] (.int x :: st) M Q := zq_go (i := .iload_n 2) (by decide +kernel) rfl
theorem q75_3 : zQ 75 3 L st M Q ↔ zQ 75 4 L (.int 1 :: st) M Q := zq_con (n := 1) (by decide +kernel) (by decide +kernel) rfl
theorem q75_4 : zQ 75 4 L (.int y :: .int x :: st) M Q ↔ (x ≤ y → zQ 75 27 L st M Q) ∧ (¬ x ≤ y → zQ 75 7 L st M Q) := zq_br (i := .if_icmp .le 23) (off := 23) (by decide +kernel) rfl (by decide) rfl
theorem q75_7 : zQ 75 7 [.int x, v1, v2] st M Q ↔ zQ 75 8 [.int x, v1, v2] (.int x :: st) M Q := zq_go (i := .iload_n 0) (by decide +kernel) rfl
theorem q75_8 : zQ 75 8 [v0, v1, .int x] st M Q ↔ zQ 75 9 [v0, v1, .int x] (.int x :: st) M Q := zq_go (i := .iload_n 2) (by decide +kernel) rfl
theorem q75_9 : zQ 75 9 L (.int y :: .int x :: st) M Q ↔ ¬ y = 0 ∧ zQ 75 10 L (.int (x - x / y * y) :: st) M Q := zq_rem (by decide +kernel)
theorem q75_10 : zQ 75 10 L (.int x :: st) M Q ↔ (x = 0 → zQ 75 13 L st M Q) ∧ (¬ x = 0 → zQ 75 21 L st M Q) := zq_bn (i := .ifCond .ne 11) (off := 11) (by decide +kernel) rfl (by decide) rfl
theorem q75_13 : zQ 75 13 [v0, .int x, v2] st M Q ↔ zQ 75 14 [v0, .int x, v2] (.int x :: st) M Q := zq_go (i := .iload_n 1) (by decide +kernel) rfl
theorem q75_14 : zQ 75 14 [v0, v1, .int x] st M Q ↔ zQ 75 15 [v0, v1, .int x] (.int x :: st) M Q := zq_go (i := .iload_n 2) (by decide +kernel) rfl
theorem q75_15 : zQ 75 15 L (.int y :: .int x :: st) M Q ↔ ¬ y = 0 ∧ zQ 75 16 L (.int (x - x / y * y) :: st) M Q := zq_rem (by decide +kernel)
theorem q75_16 : zQ 75 16 L (.int x :: st) M Q ↔ (x = 0 → zQ 75 19 L st M Q) ∧ (¬ x = 0 → zQ 75 21 L st M Q) := zq_bn (i := .ifCond .ne 5) (off := 5) (by decide +kernel) rfl (by decide) rfl
theorem q75_19 : zQ 75 19 [v0, v1, .int x] st M Q ↔ zQ 75 20 [v0, v1, .int x] (.int x :: st) M Q := zq_go (i := .iload_n 2) (by decide +kernel) rfl
theorem q75_20 : zQ 75 20 L [.int x] M Q ↔ Q (zI x) M := zq_reI (by decide +kernel) (by decide +kernel)
theorem q75_21i : zQ 75 21 [v0, .int y, .int x] st M Q ↔ zQ 75 24 [v0, .int y, .int (x + (-1))] st M Q := zq_inc (k := 2) (n := (-1)) (x := x) (v := (-1)) (by decide +kernel) (by decide +kernel) rfl rfl rfl rfl
theorem q75_21r : zQ 75 21 [v0, .ref r1, .int x] st M Q ↔ zQ 75 24 [v0, .ref r1, .int (x + (-1))] st M Q := zq_inc (k := 2) (n := (-1)) (x := x) (v := (-1)) (by decide +kernel) (by decide +kernel) rfl rfl rfl rfl
theorem q75_21n : zQ 75 21 [v0, .null, .int x] st M Q ↔ zQ 75 24 [v0, .null, .int (x + (-1))] st M Q := zq_inc (k := 2) (n := (-1)) (x := x) (v := (-1)) (by decide +kernel) (by decide +kernel) rfl rfl rfl rfl
theorem q75_24 : zQ 75 24 L st M Q ↔ zQ 75 2 L st M Q := zq_jmp (off := (-22)) (by decide +kernel) (by decide)
theorem q75_27 : zQ 75 27 L st M Q ↔ zQ 75 28 L (.int 1 :: st) M Q := zq_con (n := 1) (by decide +kernel) (by decide +kernel) rfl
theorem q75_28 : zQ 75 28 L [.int x] M Q ↔ Q (zI x) M := zq_reI (by decide +kernel) (by decide +kernel)
-- 76 SandKeepers.failBy(I)I
theorem q76_0 : zQ 76 0 [.ref a, v1] st M Q ↔ zQ 76 1 [.ref a, v1] (.ref a :: st) M Q := zq_go (i := .aload_n 0) (by decide +kernel) rfl
theorem q76_1 : zQ 76 1 [v0, .int x] st M Q ↔ zQ 76 2 [v0, .int x] (.int x :: st) M Q := zq_go (i := .iload_n 1) (by decide +kernel) rfl
theorem q76_2 : zQ 76 2 L (.int x :: .ref a :: st) M Q ↔ (a < zNC ∧ zk a = 5 ∧ zf a 7 = none) ∧ zQ 76 5 L st (zup M a 7 x) Q := zq_putf (n := 49) (b := false) (by decide +kernel) (by decide +kernel) (by decide +kernel)
theorem q76_5 : zQ 76 5 L st M Q ↔ zQ 76 7 L (.int (-10) :: st) M Q := zq_bip (n := (-10)) (by decide +kernel) (by decide +kernel) rfl
theorem q76_7 : zQ 76 7 [v0, .int x] st M Q ↔ zQ 76 8 [v0, .int x] (.int x :: st) M Q := zq_go (i := .iload_n 1) (by decide +kernel) rfl
theorem q76_8 : zQ 76 8 L (.int y :: .int x :: st) M Q ↔ zQ 76 9 L (.int (x - y) :: st) M Q := zq_go (i := .isub) (by decide +kernel) rfl
theorem q76_9 : zQ 76 9 L [.int x] M Q ↔ Q (zI x) M := zq_reI (by decide +kernel) (by decide +kernel)
-- 77 SandKeepers.actNow(II)I
theorem q77_0 : zQ 77 0 [.ref a, v1, v2] st M Q ↔ zQ 77 1 [.ref a, v1, v2] (.ref a :: st) M Q := zq_go (i := .aload_n 0) (by decide +kernel) rfl
theorem q77_1 : zQ 77 1 L (.ref a :: st) M Q ↔ (a < zNC ∧ zk a = 5) ∧ zQ 77 4 L (zfv a 0 M :: st) M Q := zq_getf (n := 12) (b := false) (by decide +kernel) (by decide +kernel)
theorem q77_4 : zQ 77 4 [v0, .int x, v2] st M Q ↔ zQ 77 5 [v0, .int x, v2] (.int x :: st) M Q := zq_go (i := .iload_n 1) (by decide +kernel) rfl
theorem q77_5 : zQ 77 5 L (.int x1 :: .ref a :: st) M Q ↔ (zcs st ≤ 8 ∧ a < zNC ∧ zk a = 4) ∧ zQ 17 0 [.ref a, .int x1] [] M (fun r M1 => zQ 77 8 L (zpush r st) M1 Q) := zq_callV (n := 79) (j := 17) (b := true) (As := [.int x1]) (by decide +kernel) (by decide +kernel) ⟨by decide +kernel, by decide +kernel, rfl, by decide +kernel, by decide +kernel, Nat.le_of_ble_eq_true rfl⟩ rfl
theorem q77_8 : zQ 77 8 L (.int x :: st) M Q ↔ (x = 0 → zQ 77 11 L st M Q) ∧ (¬ x = 0 → zQ 77 13 L st M Q) := zq_bn (i := .ifCond .ne 5) (off := 5) (by decide +kernel) rfl (by decide) rfl
theorem q77_11 : zQ 77 11 L st M Q ↔ zQ 77 12 L (.int (-1) :: st) M Q := zq_con (n := (-1)) (by decide +kernel) (by decide +kernel) rfl
theorem q77_12 : zQ 77 12 L [.int x] M Q ↔ Q (zI x) M := zq_reI (by decide +kernel) (by decide +kernel)
theorem q77_13 : zQ 77 13 [.ref a, v1, v2] st M Q ↔ zQ 77 14 [.ref a, v1, v2] (.ref a :: st) M Q := zq_go (i := .aload_n 0) (by decide +kernel) rfl
theorem q77_14 : zQ 77 14 L (.ref a :: st) M Q ↔ (a < zNC ∧ zk a = 5) ∧ zQ 77 17 L (zfv a 0 M :: st) M Q := zq_getf (n := 12) (b := false) (by decide +kernel) (by decide +kernel)
theorem q77_17 : zQ 77 17 [v0, .int x, v2] st M Q ↔ zQ 77 18 [v0, .int x, v2] (.int x :: st) M Q := zq_go (i := .iload_n 1) (by decide +kernel) rfl
theorem q77_18 : zQ 77 18 [v0, v1, .int x] st M Q ↔ zQ 77 19 [v0, v1, .int x] (.int x :: st) M Q := zq_go (i := .iload_n 2) (by decide +kernel) rfl
theorem q77_19 : zQ 77 19 L (.int x2 :: .int x1 :: .ref a :: st) M Q ↔ (zcs st ≤ 8 ∧ a < zNC ∧ zk a = 4) ∧ zQ 32 0 [.ref a, .int x1, .int x2] [] M (fun r M1 => zQ 77 22 L (zpush r st) M1 Q) := zq_callV (n := 236) (j := 32) (b := true) (As := [.int x1, .int x2]) (by decide +kernel) (by decide +kernel) ⟨by decide +kernel, by decide +kernel, rfl, by decide +kernel, by decide +kernel, Nat.le_of_ble_eq_true rfl⟩ rfl
theorem q77_22 : zQ 77 22 L (.int x :: st) M Q ↔ (x = 0 → zQ 77 37 L st M Q) ∧ (¬ x = 0 → zQ 77 25 L st M Q) := zq_br (i := .ifCond .eq 15) (off := 15) (by decide +kernel) rfl (by decide) rfl
theorem q77_25 : zQ 77 25 [.ref a, v1, v2] st M Q ↔ zQ 77 26 [.ref a, v1, v2] (.ref a :: st) M Q := zq_go (i := .aload_n 0) (by decide +kernel) rfl
theorem q77_26 : zQ 77 26 L (.ref a :: st) M Q ↔ (a < zNC ∧ zk a = 5) ∧ zQ 77 29 L (zfv a 0 M :: st) M Q := zq_getf (n := 12) (b := false) (by decide +kernel) (by decide +kernel)
theorem q77_29 : zQ 77 29 L (.ref a :: st) M Q ↔ (a < zNC ∧ zk a = 4) ∧ zQ 77 32 L (zfv a 1 M :: st) M Q := zq_getf (n := 87) (b := true) (by decide +kernel) (by decide +kernel)
theorem q77_32 : zQ 77 32 [v0, .int x, v2] st M Q ↔ zQ 77 33 [v0, .int x, v2] (.int x :: st) M Q := zq_go (i := .iload_n 1) (by decide +kernel) rfl
theorem q77_33 : zQ 77 33 L (.int x :: .ref a :: st) M Q ↔ (a < zNC ∧ zk a = 7 ∧ zin x (zn a) = true) ∧ zQ 77 34 L (.int (M a x.toNatClampNeg) :: st) M Q := zq_iald (by decide +kernel)
theorem q77_34 : zQ 77 34 L st M Q ↔ zQ 77 39 L st M Q := zq_jmp (off := 5) (by decide +kernel) (by decide)
theorem q77_37 : zQ 77 37 L st M Q ↔ zQ 77 39 L (.int (-3) :: st) M Q := zq_bip (n := (-3)) (by decide +kernel) (by decide +kernel) rfl
theorem q77_39 : zQ 77 39 L [.int x] M Q ↔ Q (zI x) M := zq_reI (by decide +kernel) (by decide +kernel)
-- 78 SandKeepers.isAskedOfChronicle(I)Z
theorem q78_0 : zQ 78 0 [.int x] st M Q ↔ zQ 78 1 [.int x] (.int x :: st) M Q := zq_go (i := .iload_n 0) (by decide +kernel) rfl
theorem q78_1 : zQ 78 1 L st M Q ↔ zQ 78 2 L (.int 4 :: st) M Q := zq_con (n := 4) (by decide +kernel) (by decide +kernel) rfl
theorem q78_2 : zQ 78 2 L (.int x2 :: .int x1 :: st) M Q ↔ zcs st ≤ 8 ∧ zQ 74 0 [.int x1, .int x2] [] M (fun r M1 => zQ 78 5 L (zpush r st) M1 Q) := zq_callS (n := 53) (j := 74) (b := false) (As := [.int x1, .int x2]) (by decide +kernel) (by decide +kernel) ⟨by decide +kernel, by decide +kernel, rfl, by decide +kernel, by decide +kernel, Nat.le_of_ble_eq_true rfl⟩ rfl
theorem q78_5 : zQ 78 5 L (.int x :: st) M Q ↔ (x = 0 → zQ 78 8 L st M Q) ∧ (¬ x = 0 → zQ 78 32 L st M Q) := zq_bn (i := .ifCond .ne 27) (off := 27) (by decide +kernel) rfl (by decide) rfl
theorem q78_8 : zQ 78 8 [.int x] st M Q ↔ zQ 78 9 [.int x] (.int x :: st) M Q := zq_go (i := .iload_n 0) (by decide +kernel) rfl
theorem q78_9 : zQ 78 9 L st M Q ↔ zQ 78 11 L (.int 10 :: st) M Q := zq_bip (n := 10) (by decide +kernel) (by decide +kernel) rfl
theorem q78_11 : zQ 78 11 L (.int y :: .int x :: st) M Q ↔ zQ 78 12 L (.int (x - y) :: st) M Q := zq_go (i := .isub) (by decide +kernel) rfl
theorem q78_12 : zQ 78 12 L st M Q ↔ zQ 78 14 L (.int 6 :: st) M Q := zq_bip (n := 6) (by decide +kernel) (by decide +kernel) rfl
theorem q78_14 : zQ 78 14 L (.int x2 :: .int x1 :: st) M Q ↔ zcs st ≤ 8 ∧ zQ 74 0 [.int x1, .int x2] [] M (fun r M1 => zQ 78 17 L (zpush r st) M1 Q) := zq_callS (n := 53) (j := 74) (b := false) (As := [.int x1, .int x2]) (by decide +kernel) (by decide +kernel) ⟨by decide +kernel, by decide +kernel, rfl, by decide +kernel, by decide +kernel, Nat.le_of_ble_eq_true rfl⟩ rfl
theorem q78_17 : zQ 78 17 L (.int x :: st) M Q ↔ (x = 0 → zQ 78 20 L st M Q) ∧ (¬ x = 0 → zQ 78 32 L st M Q) := zq_bn (i := .ifCond .ne 15) (off := 15) (by decide +kernel) rfl (by decide) rfl
theorem q78_20 : zQ 78 20 [.int x] st M Q ↔ zQ 78 21 [.int x] (.int x :: st) M Q := zq_go (i := .iload_n 0) (by decide +kernel) rfl
theorem q78_21 : zQ 78 21 L st M Q ↔ zQ 78 23 L (.int 20 :: st) M Q := zq_bip (n := 20) (by decide +kernel) (by decide +kernel) rfl
theorem q78_23 : zQ 78 23 L (.int y :: .int x :: st) M Q ↔ zQ 78 24 L (.int (x - y) :: st) M Q := zq_go (i := .isub) (by decide +kernel) rfl
theorem q78_24 : zQ 78 24 L st M Q ↔ zQ 78 26 L (.int 6 :: st) M Q := zq_bip (n := 6) (by decide +kernel) (by decide +kernel) rfl
theorem q78_26 : zQ 78 26 L (.int x2 :: .int x1 :: st) M Q ↔ zcs st ≤ 8 ∧ zQ 74 0 [.int x1, .int x2] [] M (fun r M1 => zQ 78 29 L (zpush r st) M1 Q) := zq_callS (n := 53) (j := 74) (b := false) (As := [.int x1, .int x2]) (by decide +kernel) (by decide +kernel) ⟨by decide +kernel, by decide +kernel, rfl, by decide +kernel, by decide +kernel, Nat.le_of_ble_eq_true rfl⟩ rfl
theorem q78_29 : zQ 78 29 L (.int x :: st) M Q ↔ (x = 0 → zQ 78 36 L st M Q) ∧ (¬ x = 0 → zQ 78 32 L st M Q) := zq_br (i := .ifCond .eq 7) (off := 7) (by decide +kernel) rfl (by decide) rfl
theorem q78_32 : zQ 78 32 L st M Q ↔ zQ 78 33 L (.int 1 :: st) M Q := zq_con (n := 1) (by decide +kernel) (by decide +kernel) rfl
theorem q78_33 : zQ 78 33 L st M Q ↔ zQ 78 37 L st M Q := zq_jmp (off := 4) (by decide +kernel) (by decide)
theorem q78_36 : zQ 78 36 L st M Q ↔ zQ 78 37 L (.int 0 :: st) M Q := zq_con (n := 0) (by decide +kernel) (by decide +kernel) rfl
theorem q78_37 : zQ 78 37 L [.int x] M Q ↔ (x = 0 ∨ x = 1) ∧ Q (zI x) M := zq_reZ (by decide +kernel) (by decide +kernel)
-- 79 SandKeepers.refusalOfPairs(LSandKeepers$Sheet;II)I
theorem q79_0 : zQ 79 0 L st M Q ↔ zQ 79 1 L (.int 0 :: st) M Q := zq_con (n := 0) (by decide +kernel) (by decide +kernel) rfl
theorem q79_1i : zQ 79 1 [v0, v1, v2, .int y, v4, v5, v6] (.int x :: st) M Q ↔ zQ 79 3 [v0, v1, v2, .int y, .int x, v5, v6] st M Q := zq_stI (i := .istore 4) (k := 4) (by decide +kernel) rfl (Nat.le_of_ble_eq_true rfl) rfl rfl
theorem q79_1r : zQ 79 1 [v0, v1, v2, .ref r1, v4, v5, v6] (.int x :: st) M Q ↔ zQ 79 3 [v0, v1, v2, .ref r1, .int x, v5, v6] st M Q := zq_stI (i := .istore 4) (k := 4) (by decide +kernel) rfl (Nat.le_of_ble_eq_true rfl) rfl rfl
theorem q79_1n : zQ 79 1 [v0, v1, v2, .null, v4, v5, v6] (.int x :: st) M Q ↔ zQ 79 3 [v0, v1, v2, .null, .int x, v5, v6] st M Q := zq_stI (i := .istore 4) (k := 4) (by decide +kernel) rfl (Nat.le_of_ble_eq_true rfl) rfl rfl
theorem q79_3 : zQ 79 3 [v0, v1, v2, v3, .int x, v5, v6] st M Q ↔ zQ 79 5 [v0, v1, v2, v3, .int x, v5, v6] (.int x :: st) M Q := zq_go (i := .iload 4) (by decide +kernel) rfl
theorem q79_5 : zQ 79 5 [v0, v1, v2, .int x, v4, v5, v6] st M Q ↔ zQ 79 6 [v0, v1, v2, .int x, v4, v5, v6] (.int x :: st) M Q := zq_go (i := .iload_n 3) (by decide +kernel) rfl
theorem q79_6 : zQ 79 6 L (.int y :: .int x :: st) M Q ↔ (y ≤ x → zQ 79 89 L st M Q) ∧ (¬ y ≤ x → zQ 79 9 L st M Q) := zq_br (i := .if_icmp .ge 83) (off := 83) (by decide +kernel) rfl (by decide) rfl
theorem q79_9 : zQ 79 9 [v0, .ref a, v2, v3, v4, v5, v6] st M Q ↔ zQ 79 10 [v0, .ref a, v2, v3, v4, v5, v6] (.ref a :: st) M Q := zq_go (i := .aload_n 1) (by decide +kernel) rfl
theorem q79_10 : zQ 79 10 L (.ref a :: st) M Q ↔ (a < zNC ∧ zk a = 2) ∧ zQ 79 13 L (zfv a 0 M :: st) M Q := zq_getf (n := 199) (b := true) (by decide +kernel) (by decide +kernel)
theorem q79_13 : zQ 79 13 [v0, v1, .int x, v3, v4, v5, v6] st M Q ↔ zQ 79 14 [v0, v1, .int x, v3, v4, v5, v6] (.int x :: st) M Q := zq_go (i := .iload_n 2) (by decide +kernel) rfl
theorem q79_14 : zQ 79 14 L st M Q ↔ zQ 79 15 L (.int 2 :: st) M Q := zq_con (n := 2) (by decide +kernel) (by decide +kernel) rfl
theorem q79_15 : zQ 79 15 [v0, v1, v2, v3, .int x, v5, v6] st M Q ↔ zQ 79 17 [v0, v1, v2, v3, .int x, v5, v6] (.int x :: st) M Q := zq_go (i := .iload 4) (by decide +kernel) rfl
theorem q79_17 : zQ 79 17 L (.int y :: .int x :: st) M Q ↔ zQ 79 18 L (.int (x * y) :: st) M Q := zq_go (i := .imul) (by decide +kernel) rfl
theorem q79_18 : zQ 79 18 L (.int y :: .int x :: st) M Q ↔ zQ 79 19 L (.int (x + y) :: st) M Q := zq_go (i := .iadd) (by decide +kernel) rfl
theorem q79_19 : zQ 79 19 L (.int x :: .ref a :: st) M Q ↔ (a < zNC ∧ zk a = 7 ∧ zin x (zn a) = true) ∧ zQ 79 20 L (.int (M a x.toNatClampNeg) :: st) M Q := zq_iald (by decide +kernel)
theorem q79_20i : zQ 79 20 [v0, v1, v2, v3, .int y, v5, v6] (.int x :: st) M Q ↔ zQ 79 22 [v0, v1, v2, v3, .int y, .int x, v6] st M Q := zq_stI (i := .istore 5) (k := 5) (by decide +kernel) rfl (Nat.le_of_ble_eq_true rfl) rfl rfl
theorem q79_20r : zQ 79 20 [v0, v1, v2, v3, .ref r1, v5, v6] (.int x :: st) M Q ↔ zQ 79 22 [v0, v1, v2, v3, .ref r1, .int x, v6] st M Q := zq_stI (i := .istore 5) (k := 5) (by decide +kernel) rfl (Nat.le_of_ble_eq_true rfl) rfl rfl
theorem q79_20n : zQ 79 20 [v0, v1, v2, v3, .null, v5, v6] (.int x :: st) M Q ↔ zQ 79 22 [v0, v1, v2, v3, .null, .int x, v6] st M Q := zq_stI (i := .istore 5) (k := 5) (by decide +kernel) rfl (Nat.le_of_ble_eq_true rfl) rfl rfl
theorem q79_22 : zQ 79 22 [v0, .ref a, v2, v3, v4, v5, v6] st M Q ↔ zQ 79 23 [v0, .ref a, v2, v3, v4, v5, v6] (.ref a :: st) M Q := zq_go (i := .aload_n 1) (by decide +kernel) rfl
theorem q79_23 : zQ 79 23 L (.ref a :: st) M Q ↔ (a < zNC ∧ zk a = 2) ∧ zQ 79 26 L (zfv a 0 M :: st) M Q := zq_getf (n := 199) (b := true) (by decide +kernel) (by decide +kernel)
theorem q79_26 : zQ 79 26 [v0, v1, .int x, v3, v4, v5, v6] st M Q ↔ zQ 79 27 [v0, v1, .int x, v3, v4, v5, v6] (.int x :: st) M Q := zq_go (i := .iload_n 2) (by decide +kernel) rfl
theorem q79_27 : zQ 79 27 L st M Q ↔ zQ 79 28 L (.int 2 :: st) M Q := zq_con (n := 2) (by decide +kernel) (by decide +kernel) rfl
theorem q79_28 : zQ 79 28 [v0, v1, v2, v3, .int x, v5, v6] st M Q ↔ zQ 79 30 [v0, v1, v2, v3, .int x, v5, v6] (.int x :: st) M Q := zq_go (i := .iload 4) (by decide +kernel) rfl
theorem q79_30 : zQ 79 30 L (.int y :: .int x :: st) M Q ↔ zQ 79 31 L (.int (x * y) :: st) M Q := zq_go (i := .imul) (by decide +kernel) rfl
theorem q79_31 : zQ 79 31 L (.int y :: .int x :: st) M Q ↔ zQ 79 32 L (.int (x + y) :: st) M Q := zq_go (i := .iadd) (by decide +kernel) rfl
theorem q79_32 : zQ 79 32 L st M Q ↔ zQ 79 33 L (.int 1 :: st) M Q := zq_con (n := 1) (by decide +kernel) (by decide +kernel) rfl
theorem q79_33 : zQ 79 33 L (.int y :: .int x :: st) M Q ↔ zQ 79 34 L (.int (x + y) :: st) M Q := zq_go (i := .iadd) (by decide +kernel) rfl
theorem q79_34 : zQ 79 34 L (.int x :: .ref a :: st) M Q ↔ (a < zNC ∧ zk a = 7 ∧ zin x (zn a) = true) ∧ zQ 79 35 L (.int (M a x.toNatClampNeg) :: st) M Q := zq_iald (by decide +kernel)
theorem q79_35i : zQ 79 35 [v0, v1, v2, v3, v4, .int y, v6] (.int x :: st) M Q ↔ zQ 79 37 [v0, v1, v2, v3, v4, .int y, .int x] st M Q := zq_stI (i := .istore 6) (k := 6) (by decide +kernel) rfl (Nat.le_of_ble_eq_true rfl) rfl rfl
theorem q79_35r : zQ 79 35 [v0, v1, v2, v3, v4, .ref r1, v6] (.int x :: st) M Q ↔ zQ 79 37 [v0, v1, v2, v3, v4, .ref r1, .int x] st M Q := zq_stI (i := .istore 6) (k := 6) (by decide +kernel) rfl (Nat.le_of_ble_eq_true rfl) rfl rfl
theorem q79_35n : zQ 79 35 [v0, v1, v2, v3, v4, .null, v6] (.int x :: st) M Q ↔ zQ 79 37 [v0, v1, v2, v3, v4, .null, .int x] st M Q := zq_stI (i := .istore 6) (k := 6) (by decide +kernel) rfl (Nat.le_of_ble_eq_true rfl) rfl rfl
theorem q79_37 : zQ 79 37 [v0, v1, v2, v3, v4, v5, .int x] st M Q ↔ zQ 79 39 [v0, v1, v2, v3, v4, v5, .int x] (.int x :: st) M Q := zq_go (i := .iload 6) (by decide +kernel) rfl
theorem q79_39 : zQ 79 39 L st M Q ↔ zQ 79 41 L (.int 9 :: st) M Q := zq_bip (n := 9) (by decide +kernel) (by decide +kernel) rfl
theorem q79_41 : zQ 79 41 L (.int y :: .int x :: st) M Q ↔ (x = y → zQ 79 44 L st M Q) ∧ (¬ x = y → zQ 79 57 L st M Q) := zq_bn (i := .if_icmp .ne 16) (off := 16) (by decide +kernel) rfl (by decide) rfl
theorem q79_44 : zQ 79 44 [v0, v1, v2, v3, v4, .int x, v6] st M Q ↔ zQ 79 46 [v0, v1, v2, v3, v4, .int x, v6] (.int x :: st) M Q := zq_go (i := .iload 5) (by decide +kernel) rfl
theorem q79_46 : zQ 79 46 L st M Q ↔ zQ 79 48 L (.int 10 :: st) M Q := zq_bip (n := 10) (by decide +kernel) (by decide +kernel) rfl
theorem q79_48 : zQ 79 48 L (.int x2 :: .int x1 :: st) M Q ↔ zcs st ≤ 8 ∧ zQ 74 0 [.int x1, .int x2] [] M (fun r M1 => zQ 79 51 L (zpush r st) M1 Q) := zq_callS (n := 53) (j := 74) (b := false) (As := [.int x1, .int x2]) (by decide +kernel) (by decide +kernel) ⟨by decide +kernel, by decide +kernel, rfl, by decide +kernel, by decide +kernel, Nat.le_of_ble_eq_true rfl⟩ rfl
theorem q79_51 : zQ 79 51 L (.int x :: st) M Q ↔ (x = 0 → zQ 79 54 L st M Q) ∧ (¬ x = 0 → zQ 79 83 L st M Q) := zq_bn (i := .ifCond .ne 32) (off := 32) (by decide +kernel) rfl (by decide) rfl
theorem q79_54 : zQ 79 54 L st M Q ↔ zQ 79 56 L (.int (-2) :: st) M Q := zq_bip (n := (-2)) (by decide +kernel) (by decide +kernel) rfl
theorem q79_56 : zQ 79 56 L [.int x] M Q ↔ Q (zI x) M := zq_reI (by decide +kernel) (by decide +kernel)
theorem q79_57 : zQ 79 57 [v0, v1, v2, v3, v4, v5, .int x] st M Q ↔ zQ 79 59 [v0, v1, v2, v3, v4, v5, .int x] (.int x :: st) M Q := zq_go (i := .iload 6) (by decide +kernel) rfl
theorem q79_59 : zQ 79 59 L st M Q ↔ zQ 79 60 L (.int 3 :: st) M Q := zq_con (n := 3) (by decide +kernel) (by decide +kernel) rfl
theorem q79_60 : zQ 79 60 L (.int x2 :: .int x1 :: st) M Q ↔ zcs st ≤ 8 ∧ zQ 74 0 [.int x1, .int x2] [] M (fun r M1 => zQ 79 63 L (zpush r st) M1 Q) := zq_callS (n := 53) (j := 74) (b := false) (As := [.int x1, .int x2]) (by decide +kernel) (by decide +kernel) ⟨by decide +kernel, by decide +kernel, rfl, by decide +kernel, by decide +kernel, Nat.le_of_ble_eq_true rfl⟩ rfl
theorem q79_63 : zQ 79 63 L (.int x :: st) M Q ↔ (x = 0 → zQ 79 66 L st M Q) ∧ (¬ x = 0 → zQ 79 69 L st M Q) := zq_bn (i := .ifCond .ne 6) (off := 6) (by decide +kernel) rfl (by decide) rfl
theorem q79_66 : zQ 79 66 L st M Q ↔ zQ 79 68 L (.int (-2) :: st) M Q := zq_bip (n := (-2)) (by decide +kernel) (by decide +kernel) rfl
theorem q79_68 : zQ 79 68 L [.int x] M Q ↔ Q (zI x) M := zq_reI (by decide +kernel) (by decide +kernel)
theorem q79_69 : zQ 79 69 [.ref a, v1, v2, v3, v4, v5, v6] st M Q ↔ zQ 79 70 [.ref a, v1, v2, v3, v4, v5, v6] (.ref a :: st) M Q := zq_go (i := .aload_n 0) (by decide +kernel) rfl
theorem q79_70 : zQ 79 70 L (.ref a :: st) M Q ↔ (a < zNC ∧ zk a = 5) ∧ zQ 79 73 L (zfv a 0 M :: st) M Q := zq_getf (n := 12) (b := false) (by decide +kernel) (by decide +kernel)
theorem q79_73 : zQ 79 73 [v0, v1, v2, v3, v4, .int x, v6] st M Q ↔ zQ 79 75 [v0, v1, v2, v3, v4, .int x, v6] (.int x :: st) M Q := zq_go (i := .iload 5) (by decide +kernel) rfl
theorem q79_75 : zQ 79 75 L (.int x1 :: .ref a :: st) M Q ↔ (zcs st ≤ 8 ∧ a < zNC ∧ zk a = 4) ∧ zQ 17 0 [.ref a, .int x1] [] M (fun r M1 => zQ 79 78 L (zpush r st) M1 Q) := zq_callV (n := 79) (j := 17) (b := true) (As := [.int x1]) (by decide +kernel) (by decide +kernel) ⟨by decide +kernel, by decide +kernel, rfl, by decide +kernel, by decide +kernel, Nat.le_of_ble_eq_true rfl⟩ rfl
theorem q79_78 : zQ 79 78 L (.int x :: st) M Q ↔ (x = 0 → zQ 79 81 L st M Q) ∧ (¬ x = 0 → zQ 79 83 L st M Q) := zq_bn (i := .ifCond .ne 5) (off := 5) (by decide +kernel) rfl (by decide) rfl
theorem q79_81 : zQ 79 81 L st M Q ↔ zQ 79 82 L (.int (-1) :: st) M Q := zq_con (n := (-1)) (by decide +kernel) (by decide +kernel) rfl
theorem q79_82 : zQ 79 82 L [.int x] M Q ↔ Q (zI x) M := zq_reI (by decide +kernel) (by decide +kernel)
theorem q79_83i : zQ 79 83 [v0, v1, v2, .int y, .int x, v5, v6] st M Q ↔ zQ 79 86 [v0, v1, v2, .int y, .int (x + 1), v5, v6] st M Q := zq_inc (k := 4) (n := 1) (x := x) (v := 1) (by decide +kernel) (by decide +kernel) rfl rfl rfl rfl
theorem q79_83r : zQ 79 83 [v0, v1, v2, .ref r1, .int x, v5, v6] st M Q ↔ zQ 79 86 [v0, v1, v2, .ref r1, .int (x + 1), v5, v6] st M Q := zq_inc (k := 4) (n := 1) (x := x) (v := 1) (by decide +kernel) (by decide +kernel) rfl rfl rfl rfl
theorem q79_83n : zQ 79 83 [v0, v1, v2, .null, .int x, v5, v6] st M Q ↔ zQ 79 86 [v0, v1, v2, .null, .int (x + 1), v5, v6] st M Q := zq_inc (k := 4) (n := 1) (x := x) (v := 1) (by decide +kernel) (by decide +kernel) rfl rfl rfl rfl
theorem q79_86 : zQ 79 86 L st M Q ↔ zQ 79 3 L st M Q := zq_jmp (off := (-83)) (by decide +kernel) (by decide)
theorem q79_89 : zQ 79 89 L st M Q ↔ zQ 79 90 L (.int 0 :: st) M Q := zq_con (n := 0) (by decide +kernel) (by decide +kernel) rfl
theorem q79_90 : zQ 79 90 L [.int x] M Q ↔ Q (zI x) M := zq_reI (by decide +kernel) (by decide +kernel)
-- 80 SandKeepers.leaveTrace(I)V
theorem q80_0 : zQ 80 0 [.ref a, v1] st M Q ↔ zQ 80 1 [.ref a, v1] (.ref a :: st) M Q := zq_go (i := .aload_n 0) (by decide +kernel) rfl
theorem q80_1 : zQ 80 1 L st M Q ↔ zQ 80 3 L (.int 31 :: st) M Q := zq_bip (n := 31) (by decide +kernel) (by decide +kernel) rfl
theorem q80_3 : zQ 80 3 [.ref a, v1] st M Q ↔ zQ 80 4 [.ref a, v1] (.ref a :: st) M Q := zq_go (i := .aload_n 0) (by decide +kernel) rfl
theorem q80_4 : zQ 80 4 L (.ref a :: st) M Q ↔ (a < zNC ∧ zk a = 5) ∧ zQ 80 7 L (zfv a 6 M :: st) M Q := zq_getf (n := 233) (b := false) (by decide +kernel) (by decide +kernel)
theorem q80_7 : zQ 80 7 L (.int y :: .int x :: st) M Q ↔ zQ 80 8 L (.int (x * y) :: st) M Q := zq_go (i := .imul) (by decide +kernel) rfl
theorem q80_8 : zQ 80 8 [v0, .int x] st M Q ↔ zQ 80 9 [v0, .int x] (.int x :: st) M Q := zq_go (i := .iload_n 1) (by decide +kernel) rfl
theorem q80_9 : zQ 80 9 L (.int y :: .int x :: st) M Q ↔ zQ 80 10 L (.int (x + y) :: st) M Q := zq_go (i := .iadd) (by decide +kernel) rfl
theorem q80_10 : zQ 80 10 L (.int x :: .ref a :: st) M Q ↔ (a < zNC ∧ zk a = 5 ∧ zf a 6 = none) ∧ zQ 80 13 L st (zup M a 6 x) Q := zq_putf (n := 233) (b := false) (by decide +kernel) (by decide +kernel) (by decide +kernel)
theorem q80_13 : zQ 80 13 L [] M Q ↔ Q none M := zq_reV (by decide +kernel) (by decide +kernel)
-- 81 SandKeepers.tellAsPlain(I)I
theorem q81_0 : zQ 81 0 [.ref a, v1] st M Q ↔ zQ 81 1 [.ref a, v1] (.ref a :: st) M Q := zq_go (i := .aload_n 0) (by decide +kernel) rfl
theorem q81_1 : zQ 81 1 L st M Q ↔ zQ 81 2 L (.int 1 :: st) M Q := zq_con (n := 1) (by decide +kernel) (by decide +kernel) rfl
theorem q81_2 : zQ 81 2 L (.int x1 :: .ref a :: st) M Q ↔ (zcs st ≤ 8 ∧ a < zNC ∧ zk a = 5) ∧ zQ 80 0 [.ref a, .int x1] [] M (fun r M1 => zQ 81 5 L (zpush r st) M1 Q) := zq_callV (n := 229) (j := 80) (b := false) (As := [.int x1]) (by decide +kernel) (by decide +kernel) ⟨by decide +kernel, by decide +kernel, rfl, by decide +kernel, by decide +kernel, Nat.le_of_ble_eq_true rfl⟩ rfl
theorem q81_5 : zQ 81 5 [.ref a, v1] st M Q ↔ zQ 81 6 [.ref a, v1] (.ref a :: st) M Q := zq_go (i := .aload_n 0) (by decide +kernel) rfl
theorem q81_6 : zQ 81 6 L (.ref a :: st) M Q ↔ (a < zNC ∧ zk a = 5) ∧ zQ 81 9 L (zfv a 0 M :: st) M Q := zq_getf (n := 12) (b := false) (by decide +kernel) (by decide +kernel)
theorem q81_9 : zQ 81 9 L (.ref a :: st) M Q ↔ (a < zNC ∧ zk a = 4) ∧ zQ 81 12 L (zfv a 3 M :: st) M Q := zq_getf (n := 90) (b := true) (by decide +kernel) (by decide +kernel)
theorem q81_12 : zQ 81 12 [v0, .int x] st M Q ↔ zQ 81 13 [v0, .int x] (.int x :: st) M Q := zq_go (i := .iload_n 1) (by decide +kernel) rfl
theorem q81_13 : zQ 81 13 L (.int x :: .ref a :: st) M Q ↔ (a < zNC ∧ zk a = 7 ∧ zin x (zn a) = true) ∧ zQ 81 14 L (.int (M a x.toNatClampNeg) :: st) M Q := zq_iald (by decide +kernel)
theorem q81_14 : zQ 81 14 L [.int x] M Q ↔ Q (zI x) M := zq_reI (by decide +kernel) (by decide +kernel)
-- 82 SandKeepers.tellAsWide(I)I
theorem q82_0 : zQ 82 0 [.ref a, v1] st M Q ↔ zQ 82 1 [.ref a, v1] (.ref a :: st) M Q := zq_go (i := .aload_n 0) (by decide +kernel) rfl
theorem q82_1 : zQ 82 1 L st M Q ↔ zQ 82 2 L (.int 2 :: st) M Q := zq_con (n := 2) (by decide +kernel) (by decide +kernel) rfl
theorem q82_2 : zQ 82 2 L (.int x1 :: .ref a :: st) M Q ↔ (zcs st ≤ 8 ∧ a < zNC ∧ zk a = 5) ∧ zQ 80 0 [.ref a, .int x1] [] M (fun r M1 => zQ 82 5 L (zpush r st) M1 Q) := zq_callV (n := 229) (j := 80) (b := false) (As := [.int x1]) (by decide +kernel) (by decide +kernel) ⟨by decide +kernel, by decide +kernel, rfl, by decide +kernel, by decide +kernel, Nat.le_of_ble_eq_true rfl⟩ rfl
theorem q82_5 : zQ 82 5 [.ref a, v1] st M Q ↔ zQ 82 6 [.ref a, v1] (.ref a :: st) M Q := zq_go (i := .aload_n 0) (by decide +kernel) rfl
theorem q82_6 : zQ 82 6 [v0, .int x] st M Q ↔ zQ 82 7 [v0, .int x] (.int x :: st) M Q := zq_go (i := .iload_n 1) (by decide +kernel) rfl
theorem q82_7 : zQ 82 7 L (.int x1 :: .ref a :: st) M Q ↔ (zcs st ≤ 8 ∧ a < zNC ∧ zk a = 5) ∧ zQ 81 0 [.ref a, .int x1] [] M (fun r M1 => zQ 82 10 L (zpush r st) M1 Q) := zq_callV (n := 220) (j := 81) (b := false) (As := [.int x1]) (by decide +kernel) (by decide +kernel) ⟨by decide +kernel, by decide +kernel, rfl, by decide +kernel, by decide +kernel, Nat.le_of_ble_eq_true rfl⟩ rfl
theorem q82_10 : zQ 82 10 L st M Q ↔ zQ 82 12 L (.int 100 :: st) M Q := zq_bip (n := 100) (by decide +kernel) (by decide +kernel) rfl
theorem q82_12 : zQ 82 12 L (.int y :: .int x :: st) M Q ↔ zQ 82 13 L (.int (x + y) :: st) M Q := zq_go (i := .iadd) (by decide +kernel) rfl
theorem q82_13 : zQ 82 13 L [.int x] M Q ↔ Q (zI x) M := zq_reI (by decide +kernel) (by decide +kernel)
-- 83 SandKeepers.tellAsCracked(I)I
theorem q83_0 : zQ 83 0 [.ref a, v1, v2] st M Q ↔ zQ 83 1 [.ref a, v1, v2] (.ref a :: st) M Q := zq_go (i := .aload_n 0) (by decide +kernel) rfl
theorem q83_1 : zQ 83 1 L st M Q ↔ zQ 83 2 L (.int 3 :: st) M Q := zq_con (n := 3) (by decide +kernel) (by decide +kernel) rfl
theorem q83_2 : zQ 83 2 L (.int x1 :: .ref a :: st) M Q ↔ (zcs st ≤ 8 ∧ a < zNC ∧ zk a = 5) ∧ zQ 80 0 [.ref a, .int x1] [] M (fun r M1 => zQ 83 5 L (zpush r st) M1 Q) := zq_callV (n := 229) (j := 80) (b := false) (As := [.int x1]) (by decide +kernel) (by decide +kernel) ⟨by decide +kernel, by decide +kernel, rfl, by decide +kernel, by decide +kernel, Nat.le_of_ble_eq_true rfl⟩ rfl
theorem q83_5 : zQ 83 5 [.ref a, v1, v2] st M Q ↔ zQ 83 6 [.ref a, v1, v2] (.ref a :: st) M Q := zq_go (i := .aload_n 0) (by decide +kernel) rfl
theorem q83_6 : zQ 83 6 [v0, .int x, v2] st M Q ↔ zQ 83 7 [v0, .int x, v2] (.int x :: st) M Q := zq_go (i := .iload_n 1) (by decide +kernel) rfl
theorem q83_7 : zQ 83 7 L (.int x1 :: .ref a :: st) M Q ↔ (zcs st ≤ 8 ∧ a < zNC ∧ zk a = 5) ∧ zQ 82 0 [.ref a, .int x1] [] M (fun r M1 => zQ 83 10 L (zpush r st) M1 Q) := zq_callV (n := 223) (j := 82) (b := false) (As := [.int x1]) (by decide +kernel) (by decide +kernel) ⟨by decide +kernel, by decide +kernel, rfl, by decide +kernel, by decide +kernel, Nat.le_of_ble_eq_true rfl⟩ rfl
theorem q83_10i : zQ 83 10 [v0, .int y, v2] (.int x :: st) M Q ↔ zQ 83 11 [v0, .int y, .int x] st M Q := zq_stI (i := .istore_n 2) (k := 2) (by decide +kernel) rfl (Nat.le_of_ble_eq_true rfl) rfl rfl
theorem q83_10r : zQ 83 10 [v0, .ref r1, v2] (.int x :: st) M Q ↔ zQ 83 11 [v0, .ref r1, .int x] st M Q := zq_stI (i := .istore_n 2) (k := 2) (by decide +kernel) rfl (Nat.le_of_ble_eq_true rfl) rfl rfl
theorem q83_10n : zQ 83 10 [v0, .null, v2] (.int x :: st) M Q ↔ zQ 83 11 [v0, .null, .int x] st M Q := zq_stI (i := .istore_n 2) (k := 2) (by decide +kernel) rfl (Nat.le_of_ble_eq_true rfl) rfl rfl
theorem q83_11 : zQ 83 11 [v0, v1, .int x] st M Q ↔ zQ 83 12 [v0, v1, .int x] (.int x :: st) M Q := zq_go (i := .iload_n 2) (by decide +kernel) rfl
theorem q83_12 : zQ 83 12 [.ref a, v1, v2] st M Q ↔ zQ 83 13 [.ref a, v1, v2] (.ref a :: st) M Q := zq_go (i := .aload_n 0) (by decide +kernel) rfl
theorem q83_13 : zQ 83 13 [v0, .int x, v2] st M Q ↔ zQ 83 14 [v0, .int x, v2] (.int x :: st) M Q := zq_go (i := .iload_n 1) (by decide +kernel) rfl
theorem q83_14 : zQ 83 14 L (.int x1 :: .ref a :: st) M Q ↔ (zcs st ≤ 8 ∧ a < zNC ∧ zk a = 5) ∧ zQ 81 0 [.ref a, .int x1] [] M (fun r M1 => zQ 83 17 L (zpush r st) M1 Q) := zq_callV (n := 220) (j := 81) (b := false) (As := [.int x1]) (by decide +kernel) (by decide +kernel) ⟨by decide +kernel, by decide +kernel, rfl, by decide +kernel, by decide +kernel, Nat.le_of_ble_eq_true rfl⟩ rfl
theorem q83_17 : zQ 83 17 L (.int y :: .int x :: st) M Q ↔ zQ 83 18 L (.int (x + y) :: st) M Q := zq_go (i := .iadd) (by decide +kernel) rfl
theorem q83_18 : zQ 83 18 L [.int x] M Q ↔ Q (zI x) M := zq_reI (by decide +kernel) (by decide +kernel)
end QI
