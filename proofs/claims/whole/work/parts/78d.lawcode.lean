-- the law's code, forty rows at once
def zLaw15 : List (Nat × Instr × Nat) := [(914, .aload_n 1, 1), (915, .aload_n 0, 1), (916, .iload_n 3, 1), (917, .iconst 1, 1), (918, .iadd, 1), (919, .iaload, 1), (920, .aload_n 0, 1), (921, .iload_n 3, 1), (922, .iconst 2, 1), (923, .iadd, 1), (924, .iaload, 1), (925, .aload_n 0, 1), (926, .iload_n 3, 1), (927, .iconst 3, 1), (928, .iadd, 1), (929, .iaload, 1), (930, .invokevirtual 114, 3), (933, .aload_n 2, 1), (934, .aload_n 0, 1), (935, .iload_n 3, 1), (936, .iconst 1, 1), (937, .iadd, 1), (938, .iaload, 1), (939, .aload_n 0, 1), (940, .iload_n 3, 1), (941, .iconst 2, 1), (942, .iadd, 1), (943, .iaload, 1), (944, .aload_n 0, 1), (945, .iload_n 3, 1), (946, .iconst 3, 1), (947, .iadd, 1), (948, .iaload, 1), (949, .invokevirtual 118, 3), (952, .lcmp, 1), (953, .ifCond .eq 349, 3), (956, .iconst 0, 1), (957, .ireturn, 1), (958, .aload_n 1, 1), (959, .aload_n 0, 1)]
theorem zLaw15_ok : zLaw15.all (fun e => match decode code e.1 with | .ok x => decide (x.1 = e.2.1 ∧ x.2 = e.2.2) | _ => false) = true := by decide +kernel
set_option maxRecDepth 100000 in
theorem dL_914 : decode code 914 = .ok (.aload_n 1, 1) := dLg zLaw15_ok (by decide +kernel)
set_option maxRecDepth 100000 in
theorem dL_915 : decode code 915 = .ok (.aload_n 0, 1) := dLg zLaw15_ok (by decide +kernel)
set_option maxRecDepth 100000 in
theorem dL_916 : decode code 916 = .ok (.iload_n 3, 1) := dLg zLaw15_ok (by decide +kernel)
set_option maxRecDepth 100000 in
theorem dL_917 : decode code 917 = .ok (.iconst 1, 1) := dLg zLaw15_ok (by decide +kernel)
set_option maxRecDepth 100000 in
theorem dL_918 : decode code 918 = .ok (.iadd, 1) := dLg zLaw15_ok (by decide +kernel)
set_option maxRecDepth 100000 in
theorem dL_919 : decode code 919 = .ok (.iaload, 1) := dLg zLaw15_ok (by decide +kernel)
set_option maxRecDepth 100000 in
theorem dL_920 : decode code 920 = .ok (.aload_n 0, 1) := dLg zLaw15_ok (by decide +kernel)
set_option maxRecDepth 100000 in
theorem dL_921 : decode code 921 = .ok (.iload_n 3, 1) := dLg zLaw15_ok (by decide +kernel)
set_option maxRecDepth 100000 in
theorem dL_922 : decode code 922 = .ok (.iconst 2, 1) := dLg zLaw15_ok (by decide +kernel)
set_option maxRecDepth 100000 in
theorem dL_923 : decode code 923 = .ok (.iadd, 1) := dLg zLaw15_ok (by decide +kernel)
set_option maxRecDepth 100000 in
theorem dL_924 : decode code 924 = .ok (.iaload, 1) := dLg zLaw15_ok (by decide +kernel)
set_option maxRecDepth 100000 in
theorem dL_925 : decode code 925 = .ok (.aload_n 0, 1) := dLg zLaw15_ok (by decide +kernel)
set_option maxRecDepth 100000 in
theorem dL_926 : decode code 926 = .ok (.iload_n 3, 1) := dLg zLaw15_ok (by decide +kernel)
set_option maxRecDepth 100000 in
theorem dL_927 : decode code 927 = .ok (.iconst 3, 1) := dLg zLaw15_ok (by decide +kernel)
set_option maxRecDepth 100000 in
theorem dL_928 : decode code 928 = .ok (.iadd, 1) := dLg zLaw15_ok (by decide +kernel)
set_option maxRecDepth 100000 in
theorem dL_929 : decode code 929 = .ok (.iaload, 1) := dLg zLaw15_ok (by decide +kernel)
set_option maxRecDepth 100000 in
theorem dL_930 : decode code 930 = .ok (.invokevirtual 114, 3) := dLg zLaw15_ok (by decide +kernel)
set_option maxRecDepth 100000 in
theorem dL_933 : decode code 933 = .ok (.aload_n 2, 1) := dLg zLaw15_ok (by decide +kernel)
set_option maxRecDepth 100000 in
theorem dL_934 : decode code 934 = .ok (.aload_n 0, 1) := dLg zLaw15_ok (by decide +kernel)
set_option maxRecDepth 100000 in
theorem dL_935 : decode code 935 = .ok (.iload_n 3, 1) := dLg zLaw15_ok (by decide +kernel)
set_option maxRecDepth 100000 in
theorem dL_936 : decode code 936 = .ok (.iconst 1, 1) := dLg zLaw15_ok (by decide +kernel)
set_option maxRecDepth 100000 in
theorem dL_937 : decode code 937 = .ok (.iadd, 1) := dLg zLaw15_ok (by decide +kernel)
set_option maxRecDepth 100000 in
theorem dL_938 : decode code 938 = .ok (.iaload, 1) := dLg zLaw15_ok (by decide +kernel)
set_option maxRecDepth 100000 in
theorem dL_939 : decode code 939 = .ok (.aload_n 0, 1) := dLg zLaw15_ok (by decide +kernel)
set_option maxRecDepth 100000 in
theorem dL_940 : decode code 940 = .ok (.iload_n 3, 1) := dLg zLaw15_ok (by decide +kernel)
set_option maxRecDepth 100000 in
theorem dL_941 : decode code 941 = .ok (.iconst 2, 1) := dLg zLaw15_ok (by decide +kernel)
set_option maxRecDepth 100000 in
theorem dL_942 : decode code 942 = .ok (.iadd, 1) := dLg zLaw15_ok (by decide +kernel)
set_option maxRecDepth 100000 in
theorem dL_943 : decode code 943 = .ok (.iaload, 1) := dLg zLaw15_ok (by decide +kernel)
set_option maxRecDepth 100000 in
theorem dL_944 : decode code 944 = .ok (.aload_n 0, 1) := dLg zLaw15_ok (by decide +kernel)
set_option maxRecDepth 100000 in
theorem dL_945 : decode code 945 = .ok (.iload_n 3, 1) := dLg zLaw15_ok (by decide +kernel)
set_option maxRecDepth 100000 in
theorem dL_946 : decode code 946 = .ok (.iconst 3, 1) := dLg zLaw15_ok (by decide +kernel)
set_option maxRecDepth 100000 in
theorem dL_947 : decode code 947 = .ok (.iadd, 1) := dLg zLaw15_ok (by decide +kernel)
set_option maxRecDepth 100000 in
theorem dL_948 : decode code 948 = .ok (.iaload, 1) := dLg zLaw15_ok (by decide +kernel)
set_option maxRecDepth 100000 in
theorem dL_949 : decode code 949 = .ok (.invokevirtual 118, 3) := dLg zLaw15_ok (by decide +kernel)
set_option maxRecDepth 100000 in
theorem dL_952 : decode code 952 = .ok (.lcmp, 1) := dLg zLaw15_ok (by decide +kernel)
set_option maxRecDepth 100000 in
theorem dL_953 : decode code 953 = .ok (.ifCond .eq 349, 3) := dLg zLaw15_ok (by decide +kernel)
set_option maxRecDepth 100000 in
theorem dL_956 : decode code 956 = .ok (.iconst 0, 1) := dLg zLaw15_ok (by decide +kernel)
set_option maxRecDepth 100000 in
theorem dL_957 : decode code 957 = .ok (.ireturn, 1) := dLg zLaw15_ok (by decide +kernel)
set_option maxRecDepth 100000 in
theorem dL_958 : decode code 958 = .ok (.aload_n 1, 1) := dLg zLaw15_ok (by decide +kernel)
set_option maxRecDepth 100000 in
theorem dL_959 : decode code 959 = .ok (.aload_n 0, 1) := dLg zLaw15_ok (by decide +kernel)
def zLaw16 : List (Nat × Instr × Nat) := [(960, .iload_n 3, 1), (961, .iconst 1, 1), (962, .iadd, 1), (963, .iaload, 1), (964, .aload_n 0, 1), (965, .iload_n 3, 1), (966, .iconst 2, 1), (967, .iadd, 1), (968, .iaload, 1), (969, .aload_n 0, 1), (970, .iload_n 3, 1), (971, .iconst 3, 1), (972, .iadd, 1), (973, .iaload, 1), (974, .invokevirtual 119, 3), (977, .aload_n 2, 1), (978, .aload_n 0, 1), (979, .iload_n 3, 1), (980, .iconst 1, 1), (981, .iadd, 1), (982, .iaload, 1), (983, .aload_n 0, 1), (984, .iload_n 3, 1), (985, .iconst 2, 1), (986, .iadd, 1), (987, .iaload, 1), (988, .aload_n 0, 1), (989, .iload_n 3, 1), (990, .iconst 3, 1), (991, .iadd, 1), (992, .iaload, 1), (993, .invokevirtual 122, 3), (996, .if_icmp .eq 306, 3), (999, .iconst 0, 1), (1000, .ireturn, 1), (1001, .aload_n 1, 1), (1002, .aload_n 0, 1), (1003, .iload_n 3, 1), (1004, .iconst 1, 1), (1005, .iadd, 1)]
theorem zLaw16_ok : zLaw16.all (fun e => match decode code e.1 with | .ok x => decide (x.1 = e.2.1 ∧ x.2 = e.2.2) | _ => false) = true := by decide +kernel
set_option maxRecDepth 100000 in
theorem dL_960 : decode code 960 = .ok (.iload_n 3, 1) := dLg zLaw16_ok (by decide +kernel)
set_option maxRecDepth 100000 in
theorem dL_961 : decode code 961 = .ok (.iconst 1, 1) := dLg zLaw16_ok (by decide +kernel)
set_option maxRecDepth 100000 in
theorem dL_962 : decode code 962 = .ok (.iadd, 1) := dLg zLaw16_ok (by decide +kernel)
set_option maxRecDepth 100000 in
theorem dL_963 : decode code 963 = .ok (.iaload, 1) := dLg zLaw16_ok (by decide +kernel)
set_option maxRecDepth 100000 in
theorem dL_964 : decode code 964 = .ok (.aload_n 0, 1) := dLg zLaw16_ok (by decide +kernel)
set_option maxRecDepth 100000 in
theorem dL_965 : decode code 965 = .ok (.iload_n 3, 1) := dLg zLaw16_ok (by decide +kernel)
set_option maxRecDepth 100000 in
theorem dL_966 : decode code 966 = .ok (.iconst 2, 1) := dLg zLaw16_ok (by decide +kernel)
set_option maxRecDepth 100000 in
theorem dL_967 : decode code 967 = .ok (.iadd, 1) := dLg zLaw16_ok (by decide +kernel)
set_option maxRecDepth 100000 in
theorem dL_968 : decode code 968 = .ok (.iaload, 1) := dLg zLaw16_ok (by decide +kernel)
set_option maxRecDepth 100000 in
theorem dL_969 : decode code 969 = .ok (.aload_n 0, 1) := dLg zLaw16_ok (by decide +kernel)
set_option maxRecDepth 100000 in
theorem dL_970 : decode code 970 = .ok (.iload_n 3, 1) := dLg zLaw16_ok (by decide +kernel)
set_option maxRecDepth 100000 in
theorem dL_971 : decode code 971 = .ok (.iconst 3, 1) := dLg zLaw16_ok (by decide +kernel)
set_option maxRecDepth 100000 in
theorem dL_972 : decode code 972 = .ok (.iadd, 1) := dLg zLaw16_ok (by decide +kernel)
set_option maxRecDepth 100000 in
theorem dL_973 : decode code 973 = .ok (.iaload, 1) := dLg zLaw16_ok (by decide +kernel)
set_option maxRecDepth 100000 in
theorem dL_974 : decode code 974 = .ok (.invokevirtual 119, 3) := dLg zLaw16_ok (by decide +kernel)
set_option maxRecDepth 100000 in
theorem dL_977 : decode code 977 = .ok (.aload_n 2, 1) := dLg zLaw16_ok (by decide +kernel)
set_option maxRecDepth 100000 in
theorem dL_978 : decode code 978 = .ok (.aload_n 0, 1) := dLg zLaw16_ok (by decide +kernel)
set_option maxRecDepth 100000 in
theorem dL_979 : decode code 979 = .ok (.iload_n 3, 1) := dLg zLaw16_ok (by decide +kernel)
set_option maxRecDepth 100000 in
theorem dL_980 : decode code 980 = .ok (.iconst 1, 1) := dLg zLaw16_ok (by decide +kernel)
set_option maxRecDepth 100000 in
theorem dL_981 : decode code 981 = .ok (.iadd, 1) := dLg zLaw16_ok (by decide +kernel)
set_option maxRecDepth 100000 in
theorem dL_982 : decode code 982 = .ok (.iaload, 1) := dLg zLaw16_ok (by decide +kernel)
set_option maxRecDepth 100000 in
theorem dL_983 : decode code 983 = .ok (.aload_n 0, 1) := dLg zLaw16_ok (by decide +kernel)
set_option maxRecDepth 100000 in
theorem dL_984 : decode code 984 = .ok (.iload_n 3, 1) := dLg zLaw16_ok (by decide +kernel)
set_option maxRecDepth 100000 in
theorem dL_985 : decode code 985 = .ok (.iconst 2, 1) := dLg zLaw16_ok (by decide +kernel)
set_option maxRecDepth 100000 in
theorem dL_986 : decode code 986 = .ok (.iadd, 1) := dLg zLaw16_ok (by decide +kernel)
set_option maxRecDepth 100000 in
theorem dL_987 : decode code 987 = .ok (.iaload, 1) := dLg zLaw16_ok (by decide +kernel)
set_option maxRecDepth 100000 in
theorem dL_988 : decode code 988 = .ok (.aload_n 0, 1) := dLg zLaw16_ok (by decide +kernel)
set_option maxRecDepth 100000 in
theorem dL_989 : decode code 989 = .ok (.iload_n 3, 1) := dLg zLaw16_ok (by decide +kernel)
set_option maxRecDepth 100000 in
theorem dL_990 : decode code 990 = .ok (.iconst 3, 1) := dLg zLaw16_ok (by decide +kernel)
set_option maxRecDepth 100000 in
theorem dL_991 : decode code 991 = .ok (.iadd, 1) := dLg zLaw16_ok (by decide +kernel)
set_option maxRecDepth 100000 in
theorem dL_992 : decode code 992 = .ok (.iaload, 1) := dLg zLaw16_ok (by decide +kernel)
set_option maxRecDepth 100000 in
theorem dL_993 : decode code 993 = .ok (.invokevirtual 122, 3) := dLg zLaw16_ok (by decide +kernel)
set_option maxRecDepth 100000 in
theorem dL_996 : decode code 996 = .ok (.if_icmp .eq 306, 3) := dLg zLaw16_ok (by decide +kernel)
set_option maxRecDepth 100000 in
theorem dL_999 : decode code 999 = .ok (.iconst 0, 1) := dLg zLaw16_ok (by decide +kernel)
set_option maxRecDepth 100000 in
theorem dL_1000 : decode code 1000 = .ok (.ireturn, 1) := dLg zLaw16_ok (by decide +kernel)
set_option maxRecDepth 100000 in
theorem dL_1001 : decode code 1001 = .ok (.aload_n 1, 1) := dLg zLaw16_ok (by decide +kernel)
set_option maxRecDepth 100000 in
theorem dL_1002 : decode code 1002 = .ok (.aload_n 0, 1) := dLg zLaw16_ok (by decide +kernel)
set_option maxRecDepth 100000 in
theorem dL_1003 : decode code 1003 = .ok (.iload_n 3, 1) := dLg zLaw16_ok (by decide +kernel)
set_option maxRecDepth 100000 in
theorem dL_1004 : decode code 1004 = .ok (.iconst 1, 1) := dLg zLaw16_ok (by decide +kernel)
set_option maxRecDepth 100000 in
theorem dL_1005 : decode code 1005 = .ok (.iadd, 1) := dLg zLaw16_ok (by decide +kernel)
def zLaw17 : List (Nat × Instr × Nat) := [(1006, .iaload, 1), (1007, .invokevirtual 123, 3), (1010, .aload_n 2, 1), (1011, .aload_n 0, 1), (1012, .iload_n 3, 1), (1013, .iconst 1, 1), (1014, .iadd, 1), (1015, .iaload, 1), (1016, .invokevirtual 126, 3), (1019, .if_icmp .eq 283, 3), (1022, .iconst 0, 1), (1023, .ireturn, 1), (1024, .aload_n 1, 1), (1025, .aload_n 0, 1), (1026, .iload_n 3, 1), (1027, .iconst 1, 1), (1028, .iadd, 1), (1029, .iaload, 1), (1030, .aload_n 0, 1), (1031, .iload_n 3, 1), (1032, .iconst 2, 1), (1033, .iadd, 1), (1034, .iaload, 1), (1035, .aload_n 0, 1), (1036, .iload_n 3, 1), (1037, .iconst 3, 1), (1038, .iadd, 1), (1039, .iaload, 1), (1040, .invokevirtual 127, 3), (1043, .aload_n 2, 1), (1044, .aload_n 0, 1), (1045, .iload_n 3, 1), (1046, .iconst 1, 1), (1047, .iadd, 1), (1048, .iaload, 1), (1049, .aload_n 0, 1), (1050, .iload_n 3, 1), (1051, .iconst 2, 1), (1052, .iadd, 1), (1053, .iaload, 1)]
theorem zLaw17_ok : zLaw17.all (fun e => match decode code e.1 with | .ok x => decide (x.1 = e.2.1 ∧ x.2 = e.2.2) | _ => false) = true := by decide +kernel
set_option maxRecDepth 100000 in
theorem dL_1006 : decode code 1006 = .ok (.iaload, 1) := dLg zLaw17_ok (by decide +kernel)
set_option maxRecDepth 100000 in
theorem dL_1007 : decode code 1007 = .ok (.invokevirtual 123, 3) := dLg zLaw17_ok (by decide +kernel)
set_option maxRecDepth 100000 in
theorem dL_1010 : decode code 1010 = .ok (.aload_n 2, 1) := dLg zLaw17_ok (by decide +kernel)
set_option maxRecDepth 100000 in
theorem dL_1011 : decode code 1011 = .ok (.aload_n 0, 1) := dLg zLaw17_ok (by decide +kernel)
set_option maxRecDepth 100000 in
theorem dL_1012 : decode code 1012 = .ok (.iload_n 3, 1) := dLg zLaw17_ok (by decide +kernel)
set_option maxRecDepth 100000 in
theorem dL_1013 : decode code 1013 = .ok (.iconst 1, 1) := dLg zLaw17_ok (by decide +kernel)
set_option maxRecDepth 100000 in
theorem dL_1014 : decode code 1014 = .ok (.iadd, 1) := dLg zLaw17_ok (by decide +kernel)
set_option maxRecDepth 100000 in
theorem dL_1015 : decode code 1015 = .ok (.iaload, 1) := dLg zLaw17_ok (by decide +kernel)
set_option maxRecDepth 100000 in
theorem dL_1016 : decode code 1016 = .ok (.invokevirtual 126, 3) := dLg zLaw17_ok (by decide +kernel)
set_option maxRecDepth 100000 in
theorem dL_1019 : decode code 1019 = .ok (.if_icmp .eq 283, 3) := dLg zLaw17_ok (by decide +kernel)
set_option maxRecDepth 100000 in
theorem dL_1022 : decode code 1022 = .ok (.iconst 0, 1) := dLg zLaw17_ok (by decide +kernel)
set_option maxRecDepth 100000 in
theorem dL_1023 : decode code 1023 = .ok (.ireturn, 1) := dLg zLaw17_ok (by decide +kernel)
set_option maxRecDepth 100000 in
theorem dL_1024 : decode code 1024 = .ok (.aload_n 1, 1) := dLg zLaw17_ok (by decide +kernel)
set_option maxRecDepth 100000 in
theorem dL_1025 : decode code 1025 = .ok (.aload_n 0, 1) := dLg zLaw17_ok (by decide +kernel)
set_option maxRecDepth 100000 in
theorem dL_1026 : decode code 1026 = .ok (.iload_n 3, 1) := dLg zLaw17_ok (by decide +kernel)
set_option maxRecDepth 100000 in
theorem dL_1027 : decode code 1027 = .ok (.iconst 1, 1) := dLg zLaw17_ok (by decide +kernel)
set_option maxRecDepth 100000 in
theorem dL_1028 : decode code 1028 = .ok (.iadd, 1) := dLg zLaw17_ok (by decide +kernel)
set_option maxRecDepth 100000 in
theorem dL_1029 : decode code 1029 = .ok (.iaload, 1) := dLg zLaw17_ok (by decide +kernel)
set_option maxRecDepth 100000 in
theorem dL_1030 : decode code 1030 = .ok (.aload_n 0, 1) := dLg zLaw17_ok (by decide +kernel)
set_option maxRecDepth 100000 in
theorem dL_1031 : decode code 1031 = .ok (.iload_n 3, 1) := dLg zLaw17_ok (by decide +kernel)
set_option maxRecDepth 100000 in
theorem dL_1032 : decode code 1032 = .ok (.iconst 2, 1) := dLg zLaw17_ok (by decide +kernel)
set_option maxRecDepth 100000 in
theorem dL_1033 : decode code 1033 = .ok (.iadd, 1) := dLg zLaw17_ok (by decide +kernel)
set_option maxRecDepth 100000 in
theorem dL_1034 : decode code 1034 = .ok (.iaload, 1) := dLg zLaw17_ok (by decide +kernel)
set_option maxRecDepth 100000 in
theorem dL_1035 : decode code 1035 = .ok (.aload_n 0, 1) := dLg zLaw17_ok (by decide +kernel)
set_option maxRecDepth 100000 in
theorem dL_1036 : decode code 1036 = .ok (.iload_n 3, 1) := dLg zLaw17_ok (by decide +kernel)
set_option maxRecDepth 100000 in
theorem dL_1037 : decode code 1037 = .ok (.iconst 3, 1) := dLg zLaw17_ok (by decide +kernel)
set_option maxRecDepth 100000 in
theorem dL_1038 : decode code 1038 = .ok (.iadd, 1) := dLg zLaw17_ok (by decide +kernel)
set_option maxRecDepth 100000 in
theorem dL_1039 : decode code 1039 = .ok (.iaload, 1) := dLg zLaw17_ok (by decide +kernel)
set_option maxRecDepth 100000 in
theorem dL_1040 : decode code 1040 = .ok (.invokevirtual 127, 3) := dLg zLaw17_ok (by decide +kernel)
set_option maxRecDepth 100000 in
theorem dL_1043 : decode code 1043 = .ok (.aload_n 2, 1) := dLg zLaw17_ok (by decide +kernel)
set_option maxRecDepth 100000 in
theorem dL_1044 : decode code 1044 = .ok (.aload_n 0, 1) := dLg zLaw17_ok (by decide +kernel)
set_option maxRecDepth 100000 in
theorem dL_1045 : decode code 1045 = .ok (.iload_n 3, 1) := dLg zLaw17_ok (by decide +kernel)
set_option maxRecDepth 100000 in
theorem dL_1046 : decode code 1046 = .ok (.iconst 1, 1) := dLg zLaw17_ok (by decide +kernel)
set_option maxRecDepth 100000 in
theorem dL_1047 : decode code 1047 = .ok (.iadd, 1) := dLg zLaw17_ok (by decide +kernel)
set_option maxRecDepth 100000 in
theorem dL_1048 : decode code 1048 = .ok (.iaload, 1) := dLg zLaw17_ok (by decide +kernel)
set_option maxRecDepth 100000 in
theorem dL_1049 : decode code 1049 = .ok (.aload_n 0, 1) := dLg zLaw17_ok (by decide +kernel)
set_option maxRecDepth 100000 in
theorem dL_1050 : decode code 1050 = .ok (.iload_n 3, 1) := dLg zLaw17_ok (by decide +kernel)
set_option maxRecDepth 100000 in
theorem dL_1051 : decode code 1051 = .ok (.iconst 2, 1) := dLg zLaw17_ok (by decide +kernel)
set_option maxRecDepth 100000 in
theorem dL_1052 : decode code 1052 = .ok (.iadd, 1) := dLg zLaw17_ok (by decide +kernel)
set_option maxRecDepth 100000 in
theorem dL_1053 : decode code 1053 = .ok (.iaload, 1) := dLg zLaw17_ok (by decide +kernel)
def zLaw18 : List (Nat × Instr × Nat) := [(1054, .aload_n 0, 1), (1055, .iload_n 3, 1), (1056, .iconst 3, 1), (1057, .iadd, 1), (1058, .iaload, 1), (1059, .invokevirtual 130, 3), (1062, .if_icmp .eq 240, 3), (1065, .iconst 0, 1), (1066, .ireturn, 1), (1067, .aload_n 1, 1), (1068, .aload_n 0, 1), (1069, .iload_n 3, 1), (1070, .iconst 1, 1), (1071, .iadd, 1), (1072, .iaload, 1), (1073, .aload_n 0, 1), (1074, .iload_n 3, 1), (1075, .iconst 2, 1), (1076, .iadd, 1), (1077, .iaload, 1), (1078, .aload_n 0, 1), (1079, .iload_n 3, 1), (1080, .iconst 3, 1), (1081, .iadd, 1), (1082, .iaload, 1), (1083, .invokevirtual 131, 3), (1086, .aload_n 2, 1), (1087, .aload_n 0, 1), (1088, .iload_n 3, 1), (1089, .iconst 1, 1), (1090, .iadd, 1), (1091, .iaload, 1), (1092, .aload_n 0, 1), (1093, .iload_n 3, 1), (1094, .iconst 2, 1), (1095, .iadd, 1), (1096, .iaload, 1), (1097, .aload_n 0, 1), (1098, .iload_n 3, 1), (1099, .iconst 3, 1)]
theorem zLaw18_ok : zLaw18.all (fun e => match decode code e.1 with | .ok x => decide (x.1 = e.2.1 ∧ x.2 = e.2.2) | _ => false) = true := by decide +kernel
set_option maxRecDepth 100000 in
theorem dL_1054 : decode code 1054 = .ok (.aload_n 0, 1) := dLg zLaw18_ok (by decide +kernel)
set_option maxRecDepth 100000 in
theorem dL_1055 : decode code 1055 = .ok (.iload_n 3, 1) := dLg zLaw18_ok (by decide +kernel)
set_option maxRecDepth 100000 in
theorem dL_1056 : decode code 1056 = .ok (.iconst 3, 1) := dLg zLaw18_ok (by decide +kernel)
set_option maxRecDepth 100000 in
theorem dL_1057 : decode code 1057 = .ok (.iadd, 1) := dLg zLaw18_ok (by decide +kernel)
set_option maxRecDepth 100000 in
theorem dL_1058 : decode code 1058 = .ok (.iaload, 1) := dLg zLaw18_ok (by decide +kernel)
set_option maxRecDepth 100000 in
theorem dL_1059 : decode code 1059 = .ok (.invokevirtual 130, 3) := dLg zLaw18_ok (by decide +kernel)
set_option maxRecDepth 100000 in
theorem dL_1062 : decode code 1062 = .ok (.if_icmp .eq 240, 3) := dLg zLaw18_ok (by decide +kernel)
set_option maxRecDepth 100000 in
theorem dL_1065 : decode code 1065 = .ok (.iconst 0, 1) := dLg zLaw18_ok (by decide +kernel)
set_option maxRecDepth 100000 in
theorem dL_1066 : decode code 1066 = .ok (.ireturn, 1) := dLg zLaw18_ok (by decide +kernel)
set_option maxRecDepth 100000 in
theorem dL_1067 : decode code 1067 = .ok (.aload_n 1, 1) := dLg zLaw18_ok (by decide +kernel)
set_option maxRecDepth 100000 in
theorem dL_1068 : decode code 1068 = .ok (.aload_n 0, 1) := dLg zLaw18_ok (by decide +kernel)
set_option maxRecDepth 100000 in
theorem dL_1069 : decode code 1069 = .ok (.iload_n 3, 1) := dLg zLaw18_ok (by decide +kernel)
set_option maxRecDepth 100000 in
theorem dL_1070 : decode code 1070 = .ok (.iconst 1, 1) := dLg zLaw18_ok (by decide +kernel)
set_option maxRecDepth 100000 in
theorem dL_1071 : decode code 1071 = .ok (.iadd, 1) := dLg zLaw18_ok (by decide +kernel)
set_option maxRecDepth 100000 in
theorem dL_1072 : decode code 1072 = .ok (.iaload, 1) := dLg zLaw18_ok (by decide +kernel)
set_option maxRecDepth 100000 in
theorem dL_1073 : decode code 1073 = .ok (.aload_n 0, 1) := dLg zLaw18_ok (by decide +kernel)
set_option maxRecDepth 100000 in
theorem dL_1074 : decode code 1074 = .ok (.iload_n 3, 1) := dLg zLaw18_ok (by decide +kernel)
set_option maxRecDepth 100000 in
theorem dL_1075 : decode code 1075 = .ok (.iconst 2, 1) := dLg zLaw18_ok (by decide +kernel)
set_option maxRecDepth 100000 in
theorem dL_1076 : decode code 1076 = .ok (.iadd, 1) := dLg zLaw18_ok (by decide +kernel)
set_option maxRecDepth 100000 in
theorem dL_1077 : decode code 1077 = .ok (.iaload, 1) := dLg zLaw18_ok (by decide +kernel)
set_option maxRecDepth 100000 in
theorem dL_1078 : decode code 1078 = .ok (.aload_n 0, 1) := dLg zLaw18_ok (by decide +kernel)
set_option maxRecDepth 100000 in
theorem dL_1079 : decode code 1079 = .ok (.iload_n 3, 1) := dLg zLaw18_ok (by decide +kernel)
set_option maxRecDepth 100000 in
theorem dL_1080 : decode code 1080 = .ok (.iconst 3, 1) := dLg zLaw18_ok (by decide +kernel)
set_option maxRecDepth 100000 in
theorem dL_1081 : decode code 1081 = .ok (.iadd, 1) := dLg zLaw18_ok (by decide +kernel)
set_option maxRecDepth 100000 in
theorem dL_1082 : decode code 1082 = .ok (.iaload, 1) := dLg zLaw18_ok (by decide +kernel)
set_option maxRecDepth 100000 in
theorem dL_1083 : decode code 1083 = .ok (.invokevirtual 131, 3) := dLg zLaw18_ok (by decide +kernel)
set_option maxRecDepth 100000 in
theorem dL_1086 : decode code 1086 = .ok (.aload_n 2, 1) := dLg zLaw18_ok (by decide +kernel)
set_option maxRecDepth 100000 in
theorem dL_1087 : decode code 1087 = .ok (.aload_n 0, 1) := dLg zLaw18_ok (by decide +kernel)
set_option maxRecDepth 100000 in
theorem dL_1088 : decode code 1088 = .ok (.iload_n 3, 1) := dLg zLaw18_ok (by decide +kernel)
set_option maxRecDepth 100000 in
theorem dL_1089 : decode code 1089 = .ok (.iconst 1, 1) := dLg zLaw18_ok (by decide +kernel)
set_option maxRecDepth 100000 in
theorem dL_1090 : decode code 1090 = .ok (.iadd, 1) := dLg zLaw18_ok (by decide +kernel)
set_option maxRecDepth 100000 in
theorem dL_1091 : decode code 1091 = .ok (.iaload, 1) := dLg zLaw18_ok (by decide +kernel)
set_option maxRecDepth 100000 in
theorem dL_1092 : decode code 1092 = .ok (.aload_n 0, 1) := dLg zLaw18_ok (by decide +kernel)
set_option maxRecDepth 100000 in
theorem dL_1093 : decode code 1093 = .ok (.iload_n 3, 1) := dLg zLaw18_ok (by decide +kernel)
set_option maxRecDepth 100000 in
theorem dL_1094 : decode code 1094 = .ok (.iconst 2, 1) := dLg zLaw18_ok (by decide +kernel)
set_option maxRecDepth 100000 in
theorem dL_1095 : decode code 1095 = .ok (.iadd, 1) := dLg zLaw18_ok (by decide +kernel)
set_option maxRecDepth 100000 in
theorem dL_1096 : decode code 1096 = .ok (.iaload, 1) := dLg zLaw18_ok (by decide +kernel)
set_option maxRecDepth 100000 in
theorem dL_1097 : decode code 1097 = .ok (.aload_n 0, 1) := dLg zLaw18_ok (by decide +kernel)
set_option maxRecDepth 100000 in
theorem dL_1098 : decode code 1098 = .ok (.iload_n 3, 1) := dLg zLaw18_ok (by decide +kernel)
set_option maxRecDepth 100000 in
theorem dL_1099 : decode code 1099 = .ok (.iconst 3, 1) := dLg zLaw18_ok (by decide +kernel)
def zLaw19 : List (Nat × Instr × Nat) := [(1100, .iadd, 1), (1101, .iaload, 1), (1102, .invokevirtual 134, 3), (1105, .lcmp, 1), (1106, .ifCond .eq 196, 3), (1109, .iconst 0, 1), (1110, .ireturn, 1), (1111, .aload_n 1, 1), (1112, .aload_n 0, 1), (1113, .iload_n 3, 1), (1114, .iconst 1, 1), (1115, .iadd, 1), (1116, .iaload, 1), (1117, .aload_n 0, 1), (1118, .iload_n 3, 1), (1119, .iconst 2, 1), (1120, .iadd, 1), (1121, .iaload, 1), (1122, .aload_n 0, 1), (1123, .iload_n 3, 1), (1124, .iconst 3, 1), (1125, .iadd, 1), (1126, .iaload, 1), (1127, .aload_n 0, 1), (1128, .iload_n 3, 1), (1129, .iconst 4, 1), (1130, .iadd, 1), (1131, .iaload, 1), (1132, .aload_n 0, 1), (1133, .iload_n 3, 1), (1134, .iconst 5, 1), (1135, .iadd, 1), (1136, .iaload, 1), (1137, .invokevirtual 135, 3), (1140, .aload_n 2, 1), (1141, .aload_n 0, 1), (1142, .iload_n 3, 1), (1143, .iconst 1, 1), (1144, .iadd, 1), (1145, .iaload, 1)]
theorem zLaw19_ok : zLaw19.all (fun e => match decode code e.1 with | .ok x => decide (x.1 = e.2.1 ∧ x.2 = e.2.2) | _ => false) = true := by decide +kernel
set_option maxRecDepth 100000 in
theorem dL_1100 : decode code 1100 = .ok (.iadd, 1) := dLg zLaw19_ok (by decide +kernel)
set_option maxRecDepth 100000 in
theorem dL_1101 : decode code 1101 = .ok (.iaload, 1) := dLg zLaw19_ok (by decide +kernel)
set_option maxRecDepth 100000 in
theorem dL_1102 : decode code 1102 = .ok (.invokevirtual 134, 3) := dLg zLaw19_ok (by decide +kernel)
set_option maxRecDepth 100000 in
theorem dL_1105 : decode code 1105 = .ok (.lcmp, 1) := dLg zLaw19_ok (by decide +kernel)
set_option maxRecDepth 100000 in
theorem dL_1106 : decode code 1106 = .ok (.ifCond .eq 196, 3) := dLg zLaw19_ok (by decide +kernel)
set_option maxRecDepth 100000 in
theorem dL_1109 : decode code 1109 = .ok (.iconst 0, 1) := dLg zLaw19_ok (by decide +kernel)
set_option maxRecDepth 100000 in
theorem dL_1110 : decode code 1110 = .ok (.ireturn, 1) := dLg zLaw19_ok (by decide +kernel)
set_option maxRecDepth 100000 in
theorem dL_1111 : decode code 1111 = .ok (.aload_n 1, 1) := dLg zLaw19_ok (by decide +kernel)
set_option maxRecDepth 100000 in
theorem dL_1112 : decode code 1112 = .ok (.aload_n 0, 1) := dLg zLaw19_ok (by decide +kernel)
set_option maxRecDepth 100000 in
theorem dL_1113 : decode code 1113 = .ok (.iload_n 3, 1) := dLg zLaw19_ok (by decide +kernel)
set_option maxRecDepth 100000 in
theorem dL_1114 : decode code 1114 = .ok (.iconst 1, 1) := dLg zLaw19_ok (by decide +kernel)
set_option maxRecDepth 100000 in
theorem dL_1115 : decode code 1115 = .ok (.iadd, 1) := dLg zLaw19_ok (by decide +kernel)
set_option maxRecDepth 100000 in
theorem dL_1116 : decode code 1116 = .ok (.iaload, 1) := dLg zLaw19_ok (by decide +kernel)
set_option maxRecDepth 100000 in
theorem dL_1117 : decode code 1117 = .ok (.aload_n 0, 1) := dLg zLaw19_ok (by decide +kernel)
set_option maxRecDepth 100000 in
theorem dL_1118 : decode code 1118 = .ok (.iload_n 3, 1) := dLg zLaw19_ok (by decide +kernel)
set_option maxRecDepth 100000 in
theorem dL_1119 : decode code 1119 = .ok (.iconst 2, 1) := dLg zLaw19_ok (by decide +kernel)
set_option maxRecDepth 100000 in
theorem dL_1120 : decode code 1120 = .ok (.iadd, 1) := dLg zLaw19_ok (by decide +kernel)
set_option maxRecDepth 100000 in
theorem dL_1121 : decode code 1121 = .ok (.iaload, 1) := dLg zLaw19_ok (by decide +kernel)
set_option maxRecDepth 100000 in
theorem dL_1122 : decode code 1122 = .ok (.aload_n 0, 1) := dLg zLaw19_ok (by decide +kernel)
set_option maxRecDepth 100000 in
theorem dL_1123 : decode code 1123 = .ok (.iload_n 3, 1) := dLg zLaw19_ok (by decide +kernel)
set_option maxRecDepth 100000 in
theorem dL_1124 : decode code 1124 = .ok (.iconst 3, 1) := dLg zLaw19_ok (by decide +kernel)
set_option maxRecDepth 100000 in
theorem dL_1125 : decode code 1125 = .ok (.iadd, 1) := dLg zLaw19_ok (by decide +kernel)
set_option maxRecDepth 100000 in
theorem dL_1126 : decode code 1126 = .ok (.iaload, 1) := dLg zLaw19_ok (by decide +kernel)
set_option maxRecDepth 100000 in
theorem dL_1127 : decode code 1127 = .ok (.aload_n 0, 1) := dLg zLaw19_ok (by decide +kernel)
set_option maxRecDepth 100000 in
theorem dL_1128 : decode code 1128 = .ok (.iload_n 3, 1) := dLg zLaw19_ok (by decide +kernel)
set_option maxRecDepth 100000 in
theorem dL_1129 : decode code 1129 = .ok (.iconst 4, 1) := dLg zLaw19_ok (by decide +kernel)
set_option maxRecDepth 100000 in
theorem dL_1130 : decode code 1130 = .ok (.iadd, 1) := dLg zLaw19_ok (by decide +kernel)
set_option maxRecDepth 100000 in
theorem dL_1131 : decode code 1131 = .ok (.iaload, 1) := dLg zLaw19_ok (by decide +kernel)
set_option maxRecDepth 100000 in
theorem dL_1132 : decode code 1132 = .ok (.aload_n 0, 1) := dLg zLaw19_ok (by decide +kernel)
set_option maxRecDepth 100000 in
theorem dL_1133 : decode code 1133 = .ok (.iload_n 3, 1) := dLg zLaw19_ok (by decide +kernel)
set_option maxRecDepth 100000 in
theorem dL_1134 : decode code 1134 = .ok (.iconst 5, 1) := dLg zLaw19_ok (by decide +kernel)
set_option maxRecDepth 100000 in
theorem dL_1135 : decode code 1135 = .ok (.iadd, 1) := dLg zLaw19_ok (by decide +kernel)
set_option maxRecDepth 100000 in
theorem dL_1136 : decode code 1136 = .ok (.iaload, 1) := dLg zLaw19_ok (by decide +kernel)
set_option maxRecDepth 100000 in
theorem dL_1137 : decode code 1137 = .ok (.invokevirtual 135, 3) := dLg zLaw19_ok (by decide +kernel)
set_option maxRecDepth 100000 in
theorem dL_1140 : decode code 1140 = .ok (.aload_n 2, 1) := dLg zLaw19_ok (by decide +kernel)
set_option maxRecDepth 100000 in
theorem dL_1141 : decode code 1141 = .ok (.aload_n 0, 1) := dLg zLaw19_ok (by decide +kernel)
set_option maxRecDepth 100000 in
theorem dL_1142 : decode code 1142 = .ok (.iload_n 3, 1) := dLg zLaw19_ok (by decide +kernel)
set_option maxRecDepth 100000 in
theorem dL_1143 : decode code 1143 = .ok (.iconst 1, 1) := dLg zLaw19_ok (by decide +kernel)
set_option maxRecDepth 100000 in
theorem dL_1144 : decode code 1144 = .ok (.iadd, 1) := dLg zLaw19_ok (by decide +kernel)
set_option maxRecDepth 100000 in
theorem dL_1145 : decode code 1145 = .ok (.iaload, 1) := dLg zLaw19_ok (by decide +kernel)
