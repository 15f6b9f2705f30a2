section SW
variable {L st : List Value} {M : zM} {Q : zR → zM → Prop} {x : Int32}
theorem w8_4 : zQ 8 4 L (.int x :: st) M Q ↔ (x = 0 → zQ 8 32 L st M Q) ∧ (x = 1 → zQ 8 35 L st M Q) ∧ (¬ x = 0 → ¬ x = 1 → zQ 8 38 L st M Q) := by
  by_cases e0 : x = 0
  · subst e0
    rw [zq_look (d := 34) (ps := #[(0, 28), (1, 31)]) (by decide +kernel) (by decide +kernel) (by decide +kernel), show ztgt 4 (Op.lookupswitch.offset (#[(0, 28), (1, 31)] : Array (Int × Int)).toList 34 (0 : Int32).toInt) = 32 from by decide +kernel]; simp
  by_cases e1 : x = 1
  · subst e1
    rw [zq_look (d := 34) (ps := #[(0, 28), (1, 31)]) (by decide +kernel) (by decide +kernel) (by decide +kernel), show ztgt 4 (Op.lookupswitch.offset (#[(0, 28), (1, 31)] : Array (Int × Int)).toList 34 (1 : Int32).toInt) = 35 from by decide +kernel]; simp
  have hd : Op.lookupswitch.offset (#[(0, 28), (1, 31)] : Array (Int × Int)).toList 34 x.toInt = 34 := by
    rw [show (#[(0, 28), (1, 31)] : Array (Int × Int)).toList = [(0, 28), (1, 31)] from rfl, lv_osw e0 (by decide), lv_osw e1 (by decide)]; rfl
  rw [zq_look (d := 34) (ps := #[(0, 28), (1, 31)]) (by decide +kernel) (by decide +kernel) (by rw [hd]; decide), hd, show ztgt 4 34 = 38 from by decide]; simp [e0, e1]
theorem w21_7 : zQ 21 7 L (.int x :: st) M Q ↔ (x = 0 → zQ 21 44 L st M Q) ∧ (x = 1 → zQ 21 56 L st M Q) ∧ (x = 2 → zQ 21 81 L st M Q) ∧ (x = 3 → zQ 21 103 L st M Q) ∧ (x = 4 → zQ 21 134 L st M Q) ∧ (x = 5 → zQ 21 153 L st M Q) ∧ (¬ x = 0 → ¬ x = 1 → ¬ x = 2 → ¬ x = 3 → ¬ x = 4 → ¬ x = 5 → zQ 21 168 L st M Q) := by
  by_cases e0 : x = 0
  · subst e0
    rw [q21_7, show ztgt 7 (ztabo 161 0 5 #[37, 49, 74, 96, 127, 146] (0 : Int32).toInt) = 44 from by decide +kernel]; simp
  by_cases e1 : x = 1
  · subst e1
    rw [q21_7, show ztgt 7 (ztabo 161 0 5 #[37, 49, 74, 96, 127, 146] (1 : Int32).toInt) = 56 from by decide +kernel]; simp
  by_cases e2 : x = 2
  · subst e2
    rw [q21_7, show ztgt 7 (ztabo 161 0 5 #[37, 49, 74, 96, 127, 146] (2 : Int32).toInt) = 81 from by decide +kernel]; simp
  by_cases e3 : x = 3
  · subst e3
    rw [q21_7, show ztgt 7 (ztabo 161 0 5 #[37, 49, 74, 96, 127, 146] (3 : Int32).toInt) = 103 from by decide +kernel]; simp
  by_cases e4 : x = 4
  · subst e4
    rw [q21_7, show ztgt 7 (ztabo 161 0 5 #[37, 49, 74, 96, 127, 146] (4 : Int32).toInt) = 134 from by decide +kernel]; simp
  by_cases e5 : x = 5
  · subst e5
    rw [q21_7, show ztgt 7 (ztabo 161 0 5 #[37, 49, 74, 96, 127, 146] (5 : Int32).toInt) = 153 from by decide +kernel]; simp
  have hd : x.toInt < 0 ∨ 5 < x.toInt := by simp only [fa_lt, fa_le, fa_eq, zt_0, zt_1, zt_2, zt_3, zt_4, zt_5, zt_6, zt_7, zt_8, zt_9, zt_10, zt_11, zt_12, zt_13, zt_14, zt_15, zt_16, zt_17, zt_18, zt_19, zt_20, zt_21, zt_22, zt_23, zt_24, zt_25, zt_31, zt_40, zt_48, zt_50, zt_57, zt_59, zt_60, zt_97, zt_98, zt_99, zt_100, zt_112, zt_115, zt_119, zt_120, zt_255, zt_999, zt_m1, zt_m2, zt_m3, zt_m4, zt_m9, zt_m10, zt_m100] at *; omega
  rw [q21_7, show ztabo 161 0 5 #[37, 49, 74, 96, 127, 146] x.toInt = 161 from if_pos hd, show ztgt 7 161 = 168 from by decide]; simp [e0, e1, e2, e3, e4, e5]
theorem w23_1 : zQ 23 1 L (.int x :: st) M Q ↔ (x = 99 → zQ 23 40 L st M Q) ∧ (x = 112 → zQ 23 36 L st M Q) ∧ (x = 119 → zQ 23 38 L st M Q) ∧ (¬ x = 99 → ¬ x = 112 → ¬ x = 119 → zQ 23 42 L st M Q) := by
  by_cases e0 : x = 99
  · subst e0
    rw [zq_look (d := 41) (ps := #[(99, 39), (112, 35), (119, 37)]) (by decide +kernel) (by decide +kernel) (by decide +kernel), show ztgt 1 (Op.lookupswitch.offset (#[(99, 39), (112, 35), (119, 37)] : Array (Int × Int)).toList 41 (99 : Int32).toInt) = 40 from by decide +kernel]; simp
  by_cases e1 : x = 112
  · subst e1
    rw [zq_look (d := 41) (ps := #[(99, 39), (112, 35), (119, 37)]) (by decide +kernel) (by decide +kernel) (by decide +kernel), show ztgt 1 (Op.lookupswitch.offset (#[(99, 39), (112, 35), (119, 37)] : Array (Int × Int)).toList 41 (112 : Int32).toInt) = 36 from by decide +kernel]; simp
  by_cases e2 : x = 119
  · subst e2
    rw [zq_look (d := 41) (ps := #[(99, 39), (112, 35), (119, 37)]) (by decide +kernel) (by decide +kernel) (by decide +kernel), show ztgt 1 (Op.lookupswitch.offset (#[(99, 39), (112, 35), (119, 37)] : Array (Int × Int)).toList 41 (119 : Int32).toInt) = 38 from by decide +kernel]; simp
  have hd : Op.lookupswitch.offset (#[(99, 39), (112, 35), (119, 37)] : Array (Int × Int)).toList 41 x.toInt = 41 := by
    rw [show (#[(99, 39), (112, 35), (119, 37)] : Array (Int × Int)).toList = [(99, 39), (112, 35), (119, 37)] from rfl, lv_osw e0 (by decide), lv_osw e1 (by decide), lv_osw e2 (by decide)]; rfl
  rw [zq_look (d := 41) (ps := #[(99, 39), (112, 35), (119, 37)]) (by decide +kernel) (by decide +kernel) (by rw [hd]; decide), hd, show ztgt 1 41 = 42 from by decide]; simp [e0, e1, e2]
theorem w24_20 : zQ 24 20 L (.int x :: st) M Q ↔ (x = 0 → zQ 24 48 L st M Q) ∧ (x = 1 → zQ 24 50 L st M Q) ∧ (¬ x = 0 → ¬ x = 1 → zQ 24 54 L st M Q) := by
  by_cases e0 : x = 0
  · subst e0
    rw [zq_look (d := 34) (ps := #[(0, 28), (1, 30)]) (by decide +kernel) (by decide +kernel) (by decide +kernel), show ztgt 20 (Op.lookupswitch.offset (#[(0, 28), (1, 30)] : Array (Int × Int)).toList 34 (0 : Int32).toInt) = 48 from by decide +kernel]; simp
  by_cases e1 : x = 1
  · subst e1
    rw [zq_look (d := 34) (ps := #[(0, 28), (1, 30)]) (by decide +kernel) (by decide +kernel) (by decide +kernel), show ztgt 20 (Op.lookupswitch.offset (#[(0, 28), (1, 30)] : Array (Int × Int)).toList 34 (1 : Int32).toInt) = 50 from by decide +kernel]; simp
  have hd : Op.lookupswitch.offset (#[(0, 28), (1, 30)] : Array (Int × Int)).toList 34 x.toInt = 34 := by
    rw [show (#[(0, 28), (1, 30)] : Array (Int × Int)).toList = [(0, 28), (1, 30)] from rfl, lv_osw e0 (by decide), lv_osw e1 (by decide)]; rfl
  rw [zq_look (d := 34) (ps := #[(0, 28), (1, 30)]) (by decide +kernel) (by decide +kernel) (by rw [hd]; decide), hd, show ztgt 20 34 = 54 from by decide]; simp [e0, e1]
theorem w39_14 : zQ 39 14 L (.int x :: st) M Q ↔ (x = 0 → zQ 39 60 L st M Q) ∧ (x = 1 → zQ 39 70 L st M Q) ∧ (x = 2 → zQ 39 80 L st M Q) ∧ (x = 3 → zQ 39 90 L st M Q) ∧ (x = 4 → zQ 39 100 L st M Q) ∧ (x = 5 → zQ 39 110 L st M Q) ∧ (x = 6 → zQ 39 128 L st M Q) ∧ (x = 7 → zQ 39 146 L st M Q) ∧ (¬ x = 0 → ¬ x = 1 → ¬ x = 2 → ¬ x = 3 → ¬ x = 4 → ¬ x = 5 → ¬ x = 6 → ¬ x = 7 → zQ 39 156 L st M Q) := by
  by_cases e0 : x = 0
  · subst e0
    rw [q39_14, show ztgt 14 (ztabo 142 0 7 #[46, 56, 66, 76, 86, 96, 114, 132] (0 : Int32).toInt) = 60 from by decide +kernel]; simp
  by_cases e1 : x = 1
  · subst e1
    rw [q39_14, show ztgt 14 (ztabo 142 0 7 #[46, 56, 66, 76, 86, 96, 114, 132] (1 : Int32).toInt) = 70 from by decide +kernel]; simp
  by_cases e2 : x = 2
  · subst e2
    rw [q39_14, show ztgt 14 (ztabo 142 0 7 #[46, 56, 66, 76, 86, 96, 114, 132] (2 : Int32).toInt) = 80 from by decide +kernel]; simp
  by_cases e3 : x = 3
  · subst e3
    rw [q39_14, show ztgt 14 (ztabo 142 0 7 #[46, 56, 66, 76, 86, 96, 114, 132] (3 : Int32).toInt) = 90 from by decide +kernel]; simp
  by_cases e4 : x = 4
  · subst e4
    rw [q39_14, show ztgt 14 (ztabo 142 0 7 #[46, 56, 66, 76, 86, 96, 114, 132] (4 : Int32).toInt) = 100 from by decide +kernel]; simp
  by_cases e5 : x = 5
  · subst e5
    rw [q39_14, show ztgt 14 (ztabo 142 0 7 #[46, 56, 66, 76, 86, 96, 114, 132] (5 : Int32).toInt) = 110 from by decide +kernel]; simp
  by_cases e6 : x = 6
  · subst e6
    rw [q39_14, show ztgt 14 (ztabo 142 0 7 #[46, 56, 66, 76, 86, 96, 114, 132] (6 : Int32).toInt) = 128 from by decide +kernel]; simp
  by_cases e7 : x = 7
  · subst e7
    rw [q39_14, show ztgt 14 (ztabo 142 0 7 #[46, 56, 66, 76, 86, 96, 114, 132] (7 : Int32).toInt) = 146 from by decide +kernel]; simp
  have hd : x.toInt < 0 ∨ 7 < x.toInt := by simp only [fa_lt, fa_le, fa_eq, zt_0, zt_1, zt_2, zt_3, zt_4, zt_5, zt_6, zt_7, zt_8, zt_9, zt_10, zt_11, zt_12, zt_13, zt_14, zt_15, zt_16, zt_17, zt_18, zt_19, zt_20, zt_21, zt_22, zt_23, zt_24, zt_25, zt_31, zt_40, zt_48, zt_50, zt_57, zt_59, zt_60, zt_97, zt_98, zt_99, zt_100, zt_112, zt_115, zt_119, zt_120, zt_255, zt_999, zt_m1, zt_m2, zt_m3, zt_m4, zt_m9, zt_m10, zt_m100] at *; omega
  rw [q39_14, show ztabo 142 0 7 #[46, 56, 66, 76, 86, 96, 114, 132] x.toInt = 142 from if_pos hd, show ztgt 14 142 = 156 from by decide]; simp [e0, e1, e2, e3, e4, e5, e6, e7]
theorem w68_22 : zQ 68 22 L (.int x :: st) M Q ↔ (x = 0 → zQ 68 48 L st M Q) ∧ (x = 1 → zQ 68 54 L st M Q) ∧ (¬ x = 0 → ¬ x = 1 → zQ 68 60 L st M Q) := by
  by_cases e0 : x = 0
  · subst e0
    rw [zq_look (d := 38) (ps := #[(0, 26), (1, 32)]) (by decide +kernel) (by decide +kernel) (by decide +kernel), show ztgt 22 (Op.lookupswitch.offset (#[(0, 26), (1, 32)] : Array (Int × Int)).toList 38 (0 : Int32).toInt) = 48 from by decide +kernel]; simp
  by_cases e1 : x = 1
  · subst e1
    rw [zq_look (d := 38) (ps := #[(0, 26), (1, 32)]) (by decide +kernel) (by decide +kernel) (by decide +kernel), show ztgt 22 (Op.lookupswitch.offset (#[(0, 26), (1, 32)] : Array (Int × Int)).toList 38 (1 : Int32).toInt) = 54 from by decide +kernel]; simp
  have hd : Op.lookupswitch.offset (#[(0, 26), (1, 32)] : Array (Int × Int)).toList 38 x.toInt = 38 := by
    rw [show (#[(0, 26), (1, 32)] : Array (Int × Int)).toList = [(0, 26), (1, 32)] from rfl, lv_osw e0 (by decide), lv_osw e1 (by decide)]; rfl
  rw [zq_look (d := 38) (ps := #[(0, 26), (1, 32)]) (by decide +kernel) (by decide +kernel) (by rw [hd]; decide), hd, show ztgt 22 38 = 60 from by decide]; simp [e0, e1]
theorem w73_1 : zQ 73 1 L (.int x :: st) M Q ↔ (x = 0 → zQ 73 32 L st M Q) ∧ (x = 1 → zQ 73 40 L st M Q) ∧ (x = 2 → zQ 73 51 L st M Q) ∧ (x = 3 → zQ 73 59 L st M Q) ∧ (¬ x = 0 → ¬ x = 1 → ¬ x = 2 → ¬ x = 3 → zQ 73 67 L st M Q) := by
  by_cases e0 : x = 0
  · subst e0
    rw [q73_1, show ztgt 1 (ztabo 66 0 3 #[31, 39, 50, 58] (0 : Int32).toInt) = 32 from by decide +kernel]; simp
  by_cases e1 : x = 1
  · subst e1
    rw [q73_1, show ztgt 1 (ztabo 66 0 3 #[31, 39, 50, 58] (1 : Int32).toInt) = 40 from by decide +kernel]; simp
  by_cases e2 : x = 2
  · subst e2
    rw [q73_1, show ztgt 1 (ztabo 66 0 3 #[31, 39, 50, 58] (2 : Int32).toInt) = 51 from by decide +kernel]; simp
  by_cases e3 : x = 3
  · subst e3
    rw [q73_1, show ztgt 1 (ztabo 66 0 3 #[31, 39, 50, 58] (3 : Int32).toInt) = 59 from by decide +kernel]; simp
  have hd : x.toInt < 0 ∨ 3 < x.toInt := by simp only [fa_lt, fa_le, fa_eq, zt_0, zt_1, zt_2, zt_3, zt_4, zt_5, zt_6, zt_7, zt_8, zt_9, zt_10, zt_11, zt_12, zt_13, zt_14, zt_15, zt_16, zt_17, zt_18, zt_19, zt_20, zt_21, zt_22, zt_23, zt_24, zt_25, zt_31, zt_40, zt_48, zt_50, zt_57, zt_59, zt_60, zt_97, zt_98, zt_99, zt_100, zt_112, zt_115, zt_119, zt_120, zt_255, zt_999, zt_m1, zt_m2, zt_m3, zt_m4, zt_m9, zt_m10, zt_m100] at *; omega
  rw [q73_1, show ztabo 66 0 3 #[31, 39, 50, 58] x.toInt = 66 from if_pos hd, show ztgt 1 66 = 67 from by decide]; simp [e0, e1, e2, e3]
theorem w101_11 : zQ 101 11 L (.int x :: st) M Q ↔ (x = 0 → zQ 101 56 L st M Q) ∧ (x = 1 → zQ 101 63 L st M Q) ∧ (x = 2 → zQ 101 70 L st M Q) ∧ (x = 3 → zQ 101 77 L st M Q) ∧ (x = 4 → zQ 101 84 L st M Q) ∧ (x = 5 → zQ 101 91 L st M Q) ∧ (x = 6 → zQ 101 97 L st M Q) ∧ (x = 7 → zQ 101 106 L st M Q) ∧ (¬ x = 0 → ¬ x = 1 → ¬ x = 2 → ¬ x = 3 → ¬ x = 4 → ¬ x = 5 → ¬ x = 6 → ¬ x = 7 → zQ 101 113 L st M Q) := by
  by_cases e0 : x = 0
  · subst e0
    rw [q101_11, show ztgt 11 (ztabo 102 0 7 #[45, 52, 59, 66, 73, 80, 86, 95] (0 : Int32).toInt) = 56 from by decide +kernel]; simp
  by_cases e1 : x = 1
  · subst e1
    rw [q101_11, show ztgt 11 (ztabo 102 0 7 #[45, 52, 59, 66, 73, 80, 86, 95] (1 : Int32).toInt) = 63 from by decide +kernel]; simp
  by_cases e2 : x = 2
  · subst e2
    rw [q101_11, show ztgt 11 (ztabo 102 0 7 #[45, 52, 59, 66, 73, 80, 86, 95] (2 : Int32).toInt) = 70 from by decide +kernel]; simp
  by_cases e3 : x = 3
  · subst e3
    rw [q101_11, show ztgt 11 (ztabo 102 0 7 #[45, 52, 59, 66, 73, 80, 86, 95] (3 : Int32).toInt) = 77 from by decide +kernel]; simp
  by_cases e4 : x = 4
  · subst e4
    rw [q101_11, show ztgt 11 (ztabo 102 0 7 #[45, 52, 59, 66, 73, 80, 86, 95] (4 : Int32).toInt) = 84 from by decide +kernel]; simp
  by_cases e5 : x = 5
  · subst e5
    rw [q101_11, show ztgt 11 (ztabo 102 0 7 #[45, 52, 59, 66, 73, 80, 86, 95] (5 : Int32).toInt) = 91 from by decide +kernel]; simp
  by_cases e6 : x = 6
  · subst e6
    rw [q101_11, show ztgt 11 (ztabo 102 0 7 #[45, 52, 59, 66, 73, 80, 86, 95] (6 : Int32).toInt) = 97 from by decide +kernel]; simp
  by_cases e7 : x = 7
  · subst e7
    rw [q101_11, show ztgt 11 (ztabo 102 0 7 #[45, 52, 59, 66, 73, 80, 86, 95] (7 : Int32).toInt) = 106 from by decide +kernel]; simp
  have hd : x.toInt < 0 ∨ 7 < x.toInt := by simp only [fa_lt, fa_le, fa_eq, zt_0, zt_1, zt_2, zt_3, zt_4, zt_5, zt_6, zt_7, zt_8, zt_9, zt_10, zt_11, zt_12, zt_13, zt_14, zt_15, zt_16, zt_17, zt_18, zt_19, zt_20, zt_21, zt_22, zt_23, zt_24, zt_25, zt_31, zt_40, zt_48, zt_50, zt_57, zt_59, zt_60, zt_97, zt_98, zt_99, zt_100, zt_112, zt_115, zt_119, zt_120, zt_255, zt_999, zt_m1, zt_m2, zt_m3, zt_m4, zt_m9, zt_m10, zt_m100] at *; omega
  rw [q101_11, show ztabo 102 0 7 #[45, 52, 59, 66, 73, 80, 86, 95] x.toInt = 102 from if_pos hd, show ztgt 11 102 = 113 from by decide]; simp [e0, e1, e2, e3, e4, e5, e6, e7]
theorem w155_1 : zQ 155 1 L (.int x :: st) M Q ↔ (x = 0 → zQ 155 32 L st M Q) ∧ (x = 1 → zQ 155 37 L st M Q) ∧ (x = 2 → zQ 155 45 L st M Q) ∧ (x = 3 → zQ 155 50 L st M Q) ∧ (¬ x = 0 → ¬ x = 1 → ¬ x = 2 → ¬ x = 3 → zQ 155 55 L st M Q) := by
  by_cases e0 : x = 0
  · subst e0
    rw [q155_1, show ztgt 1 (ztabo 54 0 3 #[31, 36, 44, 49] (0 : Int32).toInt) = 32 from by decide +kernel]; simp
  by_cases e1 : x = 1
  · subst e1
    rw [q155_1, show ztgt 1 (ztabo 54 0 3 #[31, 36, 44, 49] (1 : Int32).toInt) = 37 from by decide +kernel]; simp
  by_cases e2 : x = 2
  · subst e2
    rw [q155_1, show ztgt 1 (ztabo 54 0 3 #[31, 36, 44, 49] (2 : Int32).toInt) = 45 from by decide +kernel]; simp
  by_cases e3 : x = 3
  · subst e3
    rw [q155_1, show ztgt 1 (ztabo 54 0 3 #[31, 36, 44, 49] (3 : Int32).toInt) = 50 from by decide +kernel]; simp
  have hd : x.toInt < 0 ∨ 3 < x.toInt := by simp only [fa_lt, fa_le, fa_eq, zt_0, zt_1, zt_2, zt_3, zt_4, zt_5, zt_6, zt_7, zt_8, zt_9, zt_10, zt_11, zt_12, zt_13, zt_14, zt_15, zt_16, zt_17, zt_18, zt_19, zt_20, zt_21, zt_22, zt_23, zt_24, zt_25, zt_31, zt_40, zt_48, zt_50, zt_57, zt_59, zt_60, zt_97, zt_98, zt_99, zt_100, zt_112, zt_115, zt_119, zt_120, zt_255, zt_999, zt_m1, zt_m2, zt_m3, zt_m4, zt_m9, zt_m10, zt_m100] at *; omega
  rw [q155_1, show ztabo 54 0 3 #[31, 36, 44, 49] x.toInt = 54 from if_pos hd, show ztgt 1 54 = 55 from by decide]; simp [e0, e1, e2, e3]
end SW
