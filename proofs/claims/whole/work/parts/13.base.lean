theorem zk_0 : zk 0 = 5 := rfl
theorem zfv_0_0 (M : zM) : zfv 0 0 M = .ref 1 := rfl
theorem zfv_0_1 (M : zM) : zfv 0 1 M = .ref 9 := rfl
theorem zfv_0_2 (M : zM) : zfv 0 2 M = .ref 25 := rfl
theorem zfv_0_3 (M : zM) : zfv 0 3 M = .ref 27 := rfl
theorem zfv_0_4 (M : zM) : zfv 0 4 M = .ref 29 := rfl
theorem zfv_0_5 (M : zM) : zfv 0 5 M = .ref 33 := rfl
theorem zfv_0_6 (M : zM) : zfv 0 6 M = .int (M 0 6) := rfl
theorem zf_0_6 : zf 0 6 = none := rfl
theorem zfv_0_7 (M : zM) : zfv 0 7 M = .int (M 0 7) := rfl
theorem zf_0_7 : zf 0 7 = none := rfl
theorem zk_1 : zk 1 = 4 := rfl
theorem zfv_1_0 (M : zM) : zfv 1 0 M = .ref 2 := rfl
theorem zfv_1_1 (M : zM) : zfv 1 1 M = .ref 3 := rfl
theorem zfv_1_2 (M : zM) : zfv 1 2 M = .ref 4 := rfl
theorem zfv_1_3 (M : zM) : zfv 1 3 M = .ref 5 := rfl
theorem zfv_1_4 (M : zM) : zfv 1 4 M = .ref 6 := rfl
theorem zfv_1_5 (M : zM) : zfv 1 5 M = .ref 7 := rfl
theorem zfv_1_6 (M : zM) : zfv 1 6 M = .ref 8 := rfl
theorem zfv_1_7 (M : zM) : zfv 1 7 M = .int (M 1 7) := rfl
theorem zf_1_7 : zf 1 7 = none := rfl
theorem zfv_1_8 (M : zM) : zfv 1 8 M = .int (M 1 8) := rfl
theorem zf_1_8 : zf 1 8 = none := rfl
theorem zk_2 : zk 2 = 7 := rfl
theorem zn_2 : zn 2 = 6 := rfl
theorem zk_3 : zk 3 = 7 := rfl
theorem zn_3 : zn 3 = 6 := rfl
theorem zk_4 : zk 4 = 7 := rfl
theorem zn_4 : zn 4 = 6 := rfl
theorem zk_5 : zk 5 = 7 := rfl
theorem zn_5 : zn 5 = 6 := rfl
theorem zk_6 : zk 6 = 7 := rfl
theorem zn_6 : zn 6 = 6 := rfl
theorem zk_7 : zk 7 = 7 := rfl
theorem zn_7 : zn 7 = 6 := rfl
theorem zk_8 : zk 8 = 8 := rfl
theorem zn_8 : zn 8 = 6 := rfl
theorem zk_9 : zk 9 = 4 := rfl
theorem zfv_9_0 (M : zM) : zfv 9 0 M = .ref 10 := rfl
theorem zfv_9_1 (M : zM) : zfv 9 1 M = .ref 11 := rfl
theorem zfv_9_2 (M : zM) : zfv 9 2 M = .ref 12 := rfl
theorem zfv_9_3 (M : zM) : zfv 9 3 M = .ref 13 := rfl
theorem zfv_9_4 (M : zM) : zfv 9 4 M = .ref 14 := rfl
theorem zfv_9_5 (M : zM) : zfv 9 5 M = .ref 15 := rfl
theorem zfv_9_6 (M : zM) : zfv 9 6 M = .ref 16 := rfl
theorem zfv_9_7 (M : zM) : zfv 9 7 M = .int (M 9 7) := rfl
theorem zf_9_7 : zf 9 7 = none := rfl
theorem zfv_9_8 (M : zM) : zfv 9 8 M = .int (M 9 8) := rfl
theorem zf_9_8 : zf 9 8 = none := rfl
theorem zk_10 : zk 10 = 7 := rfl
theorem zn_10 : zn 10 = 6 := rfl
theorem zk_11 : zk 11 = 7 := rfl
theorem zn_11 : zn 11 = 6 := rfl
theorem zk_12 : zk 12 = 7 := rfl
theorem zn_12 : zn 12 = 6 := rfl
theorem zk_13 : zk 13 = 7 := rfl
theorem zn_13 : zn 13 = 6 := rfl
theorem zk_14 : zk 14 = 7 := rfl
theorem zn_14 : zn 14 = 6 := rfl
theorem zk_15 : zk 15 = 7 := rfl
theorem zn_15 : zn 15 = 6 := rfl
theorem zk_16 : zk 16 = 8 := rfl
theorem zn_16 : zn 16 = 6 := rfl
theorem zk_17 : zk 17 = 4 := rfl
theorem zfv_17_0 (M : zM) : zfv 17 0 M = .ref 18 := rfl
theorem zfv_17_1 (M : zM) : zfv 17 1 M = .ref 19 := rfl
theorem zfv_17_2 (M : zM) : zfv 17 2 M = .ref 20 := rfl
theorem zfv_17_3 (M : zM) : zfv 17 3 M = .ref 21 := rfl
theorem zfv_17_4 (M : zM) : zfv 17 4 M = .ref 22 := rfl
theorem zfv_17_5 (M : zM) : zfv 17 5 M = .ref 23 := rfl
theorem zfv_17_6 (M : zM) : zfv 17 6 M = .ref 24 := rfl
theorem zfv_17_7 (M : zM) : zfv 17 7 M = .int (M 17 7) := rfl
theorem zf_17_7 : zf 17 7 = none := rfl
theorem zfv_17_8 (M : zM) : zfv 17 8 M = .int (M 17 8) := rfl
theorem zf_17_8 : zf 17 8 = none := rfl
theorem zk_18 : zk 18 = 7 := rfl
theorem zn_18 : zn 18 = 6 := rfl
theorem zk_19 : zk 19 = 7 := rfl
theorem zn_19 : zn 19 = 6 := rfl
theorem zk_20 : zk 20 = 7 := rfl
theorem zn_20 : zn 20 = 6 := rfl
theorem zk_21 : zk 21 = 7 := rfl
theorem zn_21 : zn 21 = 6 := rfl
theorem zk_22 : zk 22 = 7 := rfl
theorem zn_22 : zn 22 = 6 := rfl
theorem zk_23 : zk 23 = 7 := rfl
theorem zn_23 : zn 23 = 6 := rfl
theorem zk_24 : zk 24 = 8 := rfl
theorem zn_24 : zn 24 = 6 := rfl
theorem zk_25 : zk 25 = 3 := rfl
theorem zfv_25_0 (M : zM) : zfv 25 0 M = .ref 17 := rfl
theorem zfv_25_1 (M : zM) : zfv 25 1 M = .ref 26 := rfl
theorem zfv_25_2 (M : zM) : zfv 25 2 M = .int (M 25 2) := rfl
theorem zf_25_2 : zf 25 2 = none := rfl
theorem zk_26 : zk 26 = 7 := rfl
theorem zn_26 : zn 26 = 6 := rfl
theorem zk_27 : zk 27 = 1 := rfl
theorem zfv_27_0 (M : zM) : zfv 27 0 M = .ref 28 := rfl
theorem zk_28 : zk 28 = 7 := rfl
theorem zn_28 : zn 28 = 64 := rfl
theorem zk_29 : zk 29 = 0 := rfl
theorem zfv_29_0 (M : zM) : zfv 29 0 M = .ref 30 := rfl
theorem zfv_29_1 (M : zM) : zfv 29 1 M = .ref 31 := rfl
theorem zfv_29_2 (M : zM) : zfv 29 2 M = .ref 32 := rfl
theorem zfv_29_3 (M : zM) : zfv 29 3 M = .int (M 29 3) := rfl
theorem zf_29_3 : zf 29 3 = none := rfl
theorem zk_30 : zk 30 = 7 := rfl
theorem zn_30 : zn 30 = 8 := rfl
theorem zk_31 : zk 31 = 7 := rfl
theorem zn_31 : zn 31 = 8 := rfl
theorem zk_32 : zk 32 = 7 := rfl
theorem zn_32 : zn 32 = 8 := rfl
theorem zk_33 : zk 33 = 9 := rfl
theorem zn_33 : zn 33 = 4 := rfl
theorem zk_34 : zk 34 = 2 := rfl
theorem zfv_34_0 (M : zM) : zfv 34 0 M = .ref 35 := rfl
theorem zfv_34_1 (M : zM) : zfv 34 1 M = .int (M 34 1) := rfl
theorem zf_34_1 : zf 34 1 = none := rfl
theorem zfv_34_2 (M : zM) : zfv 34 2 M = .int (M 34 2) := rfl
theorem zf_34_2 : zf 34 2 = none := rfl
theorem zfv_34_3 (M : zM) : zfv 34 3 M = .int (M 34 3) := rfl
theorem zf_34_3 : zf 34 3 = none := rfl
theorem zk_35 : zk 35 = 7 := rfl
theorem zn_35 : zn 35 = 60 := rfl
theorem zk_36 : zk 36 = 2 := rfl
theorem zfv_36_0 (M : zM) : zfv 36 0 M = .ref 37 := rfl
theorem zfv_36_1 (M : zM) : zfv 36 1 M = .int (M 36 1) := rfl
theorem zf_36_1 : zf 36 1 = none := rfl
theorem zfv_36_2 (M : zM) : zfv 36 2 M = .int (M 36 2) := rfl
theorem zf_36_2 : zf 36 2 = none := rfl
theorem zfv_36_3 (M : zM) : zfv 36 3 M = .int (M 36 3) := rfl
theorem zf_36_3 : zf 36 3 = none := rfl
theorem zk_37 : zk 37 = 7 := rfl
theorem zn_37 : zn 37 = 60 := rfl
theorem zk_38 : zk 38 = 2 := rfl
theorem zfv_38_0 (M : zM) : zfv 38 0 M = .ref 39 := rfl
theorem zfv_38_1 (M : zM) : zfv 38 1 M = .int (M 38 1) := rfl
theorem zf_38_1 : zf 38 1 = none := rfl
theorem zfv_38_2 (M : zM) : zfv 38 2 M = .int (M 38 2) := rfl
theorem zf_38_2 : zf 38 2 = none := rfl
theorem zfv_38_3 (M : zM) : zfv 38 3 M = .int (M 38 3) := rfl
theorem zf_38_3 : zf 38 3 = none := rfl
theorem zk_39 : zk 39 = 7 := rfl
theorem zn_39 : zn 39 = 60 := rfl
theorem zk_40 : zk 40 = 2 := rfl
theorem zfv_40_0 (M : zM) : zfv 40 0 M = .ref 41 := rfl
theorem zfv_40_1 (M : zM) : zfv 40 1 M = .int (M 40 1) := rfl
theorem zf_40_1 : zf 40 1 = none := rfl
theorem zfv_40_2 (M : zM) : zfv 40 2 M = .int (M 40 2) := rfl
theorem zf_40_2 : zf 40 2 = none := rfl
theorem zfv_40_3 (M : zM) : zfv 40 3 M = .int (M 40 3) := rfl
theorem zf_40_3 : zf 40 3 = none := rfl
theorem zk_41 : zk 41 = 7 := rfl
theorem zn_41 : zn 41 = 60 := rfl
theorem zk_42 : zk 42 = 6 := rfl
theorem zfv_42_0 (M : zM) : zfv 42 0 M = .int (M 42 0) := rfl
theorem zf_42_0 : zf 42 0 = none := rfl
theorem zfv_42_1 (M : zM) : zfv 42 1 M = .int (M 42 1) := rfl
theorem zf_42_1 : zf 42 1 = none := rfl
theorem zfv_42_2 (M : zM) : zfv 42 2 M = .int (M 42 2) := rfl
theorem zf_42_2 : zf 42 2 = none := rfl
theorem zfv_42_3 (M : zM) : zfv 42 3 M = .ref 43 := rfl
theorem zfv_42_4 (M : zM) : zfv 42 4 M = .ref 44 := rfl
theorem zfv_42_5 (M : zM) : zfv 42 5 M = .ref 45 := rfl
theorem zfv_42_6 (M : zM) : zfv 42 6 M = .ref 46 := rfl
theorem zfv_42_7 (M : zM) : zfv 42 7 M = .ref 47 := rfl
theorem zfv_42_8 (M : zM) : zfv 42 8 M = .ref 48 := rfl
theorem zfv_42_9 (M : zM) : zfv 42 9 M = .int (M 42 9) := rfl
theorem zf_42_9 : zf 42 9 = none := rfl
theorem zfv_42_10 (M : zM) : zfv 42 10 M = .int (M 42 10) := rfl
theorem zf_42_10 : zf 42 10 = none := rfl
theorem zfv_42_11 (M : zM) : zfv 42 11 M = .int (M 42 11) := rfl
theorem zf_42_11 : zf 42 11 = none := rfl
theorem zfv_42_12 (M : zM) : zfv 42 12 M = .ref 49 := rfl
theorem zfv_42_13 (M : zM) : zfv 42 13 M = .ref 50 := rfl
theorem zfv_42_14 (M : zM) : zfv 42 14 M = .ref 51 := rfl
theorem zfv_42_15 (M : zM) : zfv 42 15 M = .ref 52 := rfl
theorem zfv_42_16 (M : zM) : zfv 42 16 M = .ref 53 := rfl
theorem zfv_42_17 (M : zM) : zfv 42 17 M = .ref 54 := rfl
theorem zfv_42_18 (M : zM) : zfv 42 18 M = .int (M 42 18) := rfl
theorem zf_42_18 : zf 42 18 = none := rfl
theorem zfv_42_19 (M : zM) : zfv 42 19 M = .int (M 42 19) := rfl
theorem zf_42_19 : zf 42 19 = none := rfl
theorem zfv_42_20 (M : zM) : zfv 42 20 M = .ref 55 := rfl
theorem zfv_42_21 (M : zM) : zfv 42 21 M = .ref 56 := rfl
theorem zfv_42_22 (M : zM) : zfv 42 22 M = .ref 57 := rfl
theorem zfv_42_23 (M : zM) : zfv 42 23 M = .int (M 42 23) := rfl
theorem zf_42_23 : zf 42 23 = none := rfl
theorem zfv_42_24 (M : zM) : zfv 42 24 M = .ref 58 := rfl
theorem zfv_42_25 (M : zM) : zfv 42 25 M = .ref 59 := rfl
theorem zfv_42_26 (M : zM) : zfv 42 26 M = .ref 60 := rfl
theorem zfv_42_27 (M : zM) : zfv 42 27 M = .ref 61 := rfl
theorem zfv_42_28 (M : zM) : zfv 42 28 M = .ref 62 := rfl
theorem zfv_42_29 (M : zM) : zfv 42 29 M = .ref 63 := rfl
theorem zfv_42_30 (M : zM) : zfv 42 30 M = .ref 64 := rfl
theorem zfv_42_31 (M : zM) : zfv 42 31 M = .int (M 42 31) := rfl
theorem zf_42_31 : zf 42 31 = none := rfl
theorem zk_43 : zk 43 = 7 := rfl
theorem zn_43 : zn 43 = 6 := rfl
theorem zk_44 : zk 44 = 7 := rfl
theorem zn_44 : zn 44 = 6 := rfl
theorem zk_45 : zk 45 = 7 := rfl
theorem zn_45 : zn 45 = 6 := rfl
theorem zk_46 : zk 46 = 7 := rfl
theorem zn_46 : zn 46 = 6 := rfl
theorem zk_47 : zk 47 = 7 := rfl
theorem zn_47 : zn 47 = 6 := rfl
theorem zk_48 : zk 48 = 7 := rfl
theorem zn_48 : zn 48 = 6 := rfl
theorem zk_49 : zk 49 = 7 := rfl
theorem zn_49 : zn 49 = 6 := rfl
theorem zk_50 : zk 50 = 7 := rfl
theorem zn_50 : zn 50 = 6 := rfl
theorem zk_51 : zk 51 = 7 := rfl
theorem zn_51 : zn 51 = 6 := rfl
theorem zk_52 : zk 52 = 7 := rfl
theorem zn_52 : zn 52 = 6 := rfl
theorem zk_53 : zk 53 = 7 := rfl
theorem zn_53 : zn 53 = 6 := rfl
theorem zk_54 : zk 54 = 7 := rfl
theorem zn_54 : zn 54 = 6 := rfl
theorem zk_55 : zk 55 = 7 := rfl
theorem zn_55 : zn 55 = 6 := rfl
theorem zk_56 : zk 56 = 7 := rfl
theorem zn_56 : zn 56 = 6 := rfl
theorem zk_57 : zk 57 = 7 := rfl
theorem zn_57 : zn 57 = 6 := rfl
theorem zk_58 : zk 58 = 7 := rfl
theorem zn_58 : zn 58 = 8 := rfl
theorem zk_59 : zk 59 = 7 := rfl
theorem zn_59 : zn 59 = 8 := rfl
theorem zk_60 : zk 60 = 7 := rfl
theorem zn_60 : zn 60 = 8 := rfl
theorem zk_61 : zk 61 = 7 := rfl
theorem zn_61 : zn 61 = 4 := rfl
theorem zk_62 : zk 62 = 7 := rfl
theorem zn_62 : zn 62 = 4 := rfl
theorem zk_63 : zk 63 = 7 := rfl
theorem zn_63 : zn 63 = 240 := rfl
theorem zk_64 : zk 64 = 7 := rfl
theorem zn_64 : zn 64 = 60 := rfl
theorem zt_0 : (0 : Int32).toInt = 0 := by decide
theorem zt_1 : (1 : Int32).toInt = 1 := by decide
theorem zt_2 : (2 : Int32).toInt = 2 := by decide
theorem zt_3 : (3 : Int32).toInt = 3 := by decide
theorem zt_4 : (4 : Int32).toInt = 4 := by decide
theorem zt_5 : (5 : Int32).toInt = 5 := by decide
theorem zt_6 : (6 : Int32).toInt = 6 := by decide
theorem zt_7 : (7 : Int32).toInt = 7 := by decide
theorem zt_8 : (8 : Int32).toInt = 8 := by decide
theorem zt_9 : (9 : Int32).toInt = 9 := by decide
theorem zt_10 : (10 : Int32).toInt = 10 := by decide
theorem zt_11 : (11 : Int32).toInt = 11 := by decide
theorem zt_12 : (12 : Int32).toInt = 12 := by decide
theorem zt_13 : (13 : Int32).toInt = 13 := by decide
theorem zt_14 : (14 : Int32).toInt = 14 := by decide
theorem zt_15 : (15 : Int32).toInt = 15 := by decide
theorem zt_16 : (16 : Int32).toInt = 16 := by decide
theorem zt_17 : (17 : Int32).toInt = 17 := by decide
theorem zt_18 : (18 : Int32).toInt = 18 := by decide
theorem zt_19 : (19 : Int32).toInt = 19 := by decide
theorem zt_20 : (20 : Int32).toInt = 20 := by decide
theorem zt_21 : (21 : Int32).toInt = 21 := by decide
theorem zt_22 : (22 : Int32).toInt = 22 := by decide
theorem zt_23 : (23 : Int32).toInt = 23 := by decide
theorem zt_24 : (24 : Int32).toInt = 24 := by decide
theorem zt_25 : (25 : Int32).toInt = 25 := by decide
theorem zt_31 : (31 : Int32).toInt = 31 := by decide
theorem zt_40 : (40 : Int32).toInt = 40 := by decide
theorem zt_48 : (48 : Int32).toInt = 48 := by decide
theorem zt_50 : (50 : Int32).toInt = 50 := by decide
theorem zt_57 : (57 : Int32).toInt = 57 := by decide
theorem zt_59 : (59 : Int32).toInt = 59 := by decide
theorem zt_60 : (60 : Int32).toInt = 60 := by decide
theorem zt_97 : (97 : Int32).toInt = 97 := by decide
theorem zt_98 : (98 : Int32).toInt = 98 := by decide
theorem zt_99 : (99 : Int32).toInt = 99 := by decide
theorem zt_100 : (100 : Int32).toInt = 100 := by decide
theorem zt_112 : (112 : Int32).toInt = 112 := by decide
theorem zt_115 : (115 : Int32).toInt = 115 := by decide
theorem zt_119 : (119 : Int32).toInt = 119 := by decide
theorem zt_120 : (120 : Int32).toInt = 120 := by decide
theorem zt_255 : (255 : Int32).toInt = 255 := by decide
theorem zt_999 : (999 : Int32).toInt = 999 := by decide
theorem zt_m1 : (-1 : Int32).toInt = -1 := by decide
theorem zt_m2 : (-2 : Int32).toInt = -2 := by decide
theorem zt_m3 : (-3 : Int32).toInt = -3 := by decide
theorem zt_m4 : (-4 : Int32).toInt = -4 := by decide
theorem zt_m9 : (-9 : Int32).toInt = -9 := by decide
theorem zt_m10 : (-10 : Int32).toInt = -10 := by decide
theorem zt_m100 : (-100 : Int32).toInt = -100 := by decide
theorem zfr_3 : zfr 3 = 3 := rfl
theorem zlo_3 : zlo 3 = 71 := rfl
theorem zfr_30 : zfr 30 = 1 := rfl
theorem zlo_30 : zlo 30 = 23 := rfl
