noncomputable def dL_law_896_l : List (Nat × Instr × Nat) := [(896, .goto 349, 3), (899, .aload_n 1, 1), (900, .aload_n 0, 1), (901, .iload_n 3, 1), (902, .iconst 1, 1), (903, .iadd, 1), (904, .iaload, 1), (905, .aload_n 0, 1), (906, .iload_n 3, 1), (907, .iconst 2, 1), (908, .iadd, 1), (909, .iaload, 1), (910, .aload_n 0, 1), (911, .iload_n 3, 1), (912, .iconst 3, 1), (913, .iadd, 1), (914, .iaload, 1), (915, .invokevirtual 107, 3), (918, .pop, 1), (919, .aload_n 2, 1), (920, .aload_n 0, 1), (921, .iload_n 3, 1), (922, .iconst 1, 1), (923, .iadd, 1), (924, .iaload, 1), (925, .aload_n 0, 1), (926, .iload_n 3, 1), (927, .iconst 2, 1), (928, .iadd, 1), (929, .iaload, 1), (930, .aload_n 0, 1), (931, .iload_n 3, 1), (932, .iconst 3, 1), (933, .iadd, 1), (934, .iaload, 1), (935, .invokevirtual 110, 3), (938, .pop, 1), (939, .goto 306, 3), (942, .aload_n 1, 1), (943, .aload_n 0, 1), (944, .iload_n 3, 1), (945, .iconst 1, 1), (946, .iadd, 1), (947, .iaload, 1), (948, .aload_n 0, 1), (949, .iload_n 3, 1), (950, .iconst 2, 1), (951, .iadd, 1), (952, .iaload, 1), (953, .aload_n 0, 1), (954, .iload_n 3, 1), (955, .iconst 3, 1), (956, .iadd, 1), (957, .iaload, 1), (958, .invokevirtual 111, 3), (961, .pop, 1), (962, .aload_n 2, 1), (963, .aload_n 0, 1), (964, .iload_n 3, 1), (965, .iconst 1, 1), (966, .iadd, 1), (967, .iaload, 1), (968, .aload_n 0, 1), (969, .iload_n 3, 1), (970, .iconst 2, 1), (971, .iadd, 1), (972, .iaload, 1), (973, .aload_n 0, 1), (974, .iload_n 3, 1), (975, .iconst 3, 1), (976, .iadd, 1), (977, .iaload, 1), (978, .invokevirtual 114, 3), (981, .pop, 1), (982, .goto 263, 3), (985, .aload_n 1, 1), (986, .aload_n 0, 1), (987, .iload_n 3, 1), (988, .iconst 1, 1), (989, .iadd, 1), (990, .iaload, 1), (991, .aload_n 0, 1), (992, .iload_n 3, 1), (993, .iconst 2, 1), (994, .iadd, 1), (995, .iaload, 1), (996, .invokevirtual 115, 3), (999, .pop, 1), (1000, .aload_n 2, 1), (1001, .aload_n 0, 1), (1002, .iload_n 3, 1), (1003, .iconst 1, 1), (1004, .iadd, 1), (1005, .iaload, 1), (1006, .aload_n 0, 1), (1007, .iload_n 3, 1), (1008, .iconst 2, 1), (1009, .iadd, 1), (1010, .iaload, 1), (1011, .invokevirtual 118, 3), (1014, .pop, 1), (1015, .goto 230, 3), (1018, .aload_n 1, 1), (1019, .aload_n 0, 1), (1020, .iload_n 3, 1), (1021, .iconst 1, 1), (1022, .iadd, 1), (1023, .iaload, 1), (1024, .aload_n 0, 1), (1025, .iload_n 3, 1), (1026, .iconst 2, 1), (1027, .iadd, 1), (1028, .iaload, 1), (1029, .aload_n 0, 1), (1030, .iload_n 3, 1), (1031, .iconst 3, 1), (1032, .iadd, 1), (1033, .iaload, 1), (1034, .invokevirtual 119, 3), (1037, .pop, 1), (1038, .aload_n 2, 1), (1039, .aload_n 0, 1), (1040, .iload_n 3, 1), (1041, .iconst 1, 1), (1042, .iadd, 1), (1043, .iaload, 1), (1044, .aload_n 0, 1), (1045, .iload_n 3, 1), (1046, .iconst 2, 1), (1047, .iadd, 1), (1048, .iaload, 1), (1049, .aload_n 0, 1), (1050, .iload_n 3, 1), (1051, .iconst 3, 1), (1052, .iadd, 1), (1053, .iaload, 1), (1054, .invokevirtual 122, 3), (1057, .pop, 1), (1058, .goto 187, 3), (1061, .aload_n 1, 1), (1062, .aload_n 0, 1), (1063, .iload_n 3, 1), (1064, .iconst 1, 1), (1065, .iadd, 1), (1066, .iaload, 1), (1067, .invokevirtual 123, 3), (1070, .pop, 1), (1071, .aload_n 2, 1), (1072, .aload_n 0, 1), (1073, .iload_n 3, 1)]
set_option maxRecDepth 100000 in
theorem dL_law_896_g : dL_law_896_l.all (fun x => decide (decode cL_law x.1 = .ok x.2)) = true := by decide +kernel
theorem dL_law_896 : decode cL_law 896 = .ok (.goto 349, 3) := nq_d dL_law_896_g (n := 0) rfl
theorem dL_law_899 : decode cL_law 899 = .ok (.aload_n 1, 1) := nq_d dL_law_896_g (n := 1) rfl
theorem dL_law_900 : decode cL_law 900 = .ok (.aload_n 0, 1) := nq_d dL_law_896_g (n := 2) rfl
theorem dL_law_901 : decode cL_law 901 = .ok (.iload_n 3, 1) := nq_d dL_law_896_g (n := 3) rfl
theorem dL_law_902 : decode cL_law 902 = .ok (.iconst 1, 1) := nq_d dL_law_896_g (n := 4) rfl
theorem dL_law_903 : decode cL_law 903 = .ok (.iadd, 1) := nq_d dL_law_896_g (n := 5) rfl
theorem dL_law_904 : decode cL_law 904 = .ok (.iaload, 1) := nq_d dL_law_896_g (n := 6) rfl
theorem dL_law_905 : decode cL_law 905 = .ok (.aload_n 0, 1) := nq_d dL_law_896_g (n := 7) rfl
theorem dL_law_906 : decode cL_law 906 = .ok (.iload_n 3, 1) := nq_d dL_law_896_g (n := 8) rfl
theorem dL_law_907 : decode cL_law 907 = .ok (.iconst 2, 1) := nq_d dL_law_896_g (n := 9) rfl
theorem dL_law_908 : decode cL_law 908 = .ok (.iadd, 1) := nq_d dL_law_896_g (n := 10) rfl
theorem dL_law_909 : decode cL_law 909 = .ok (.iaload, 1) := nq_d dL_law_896_g (n := 11) rfl
theorem dL_law_910 : decode cL_law 910 = .ok (.aload_n 0, 1) := nq_d dL_law_896_g (n := 12) rfl
theorem dL_law_911 : decode cL_law 911 = .ok (.iload_n 3, 1) := nq_d dL_law_896_g (n := 13) rfl
theorem dL_law_912 : decode cL_law 912 = .ok (.iconst 3, 1) := nq_d dL_law_896_g (n := 14) rfl
theorem dL_law_913 : decode cL_law 913 = .ok (.iadd, 1) := nq_d dL_law_896_g (n := 15) rfl
theorem dL_law_914 : decode cL_law 914 = .ok (.iaload, 1) := nq_d dL_law_896_g (n := 16) rfl
theorem dL_law_915 : decode cL_law 915 = .ok (.invokevirtual 107, 3) := nq_d dL_law_896_g (n := 17) rfl
theorem dL_law_918 : decode cL_law 918 = .ok (.pop, 1) := nq_d dL_law_896_g (n := 18) rfl
theorem dL_law_919 : decode cL_law 919 = .ok (.aload_n 2, 1) := nq_d dL_law_896_g (n := 19) rfl
theorem dL_law_920 : decode cL_law 920 = .ok (.aload_n 0, 1) := nq_d dL_law_896_g (n := 20) rfl
theorem dL_law_921 : decode cL_law 921 = .ok (.iload_n 3, 1) := nq_d dL_law_896_g (n := 21) rfl
theorem dL_law_922 : decode cL_law 922 = .ok (.iconst 1, 1) := nq_d dL_law_896_g (n := 22) rfl
theorem dL_law_923 : decode cL_law 923 = .ok (.iadd, 1) := nq_d dL_law_896_g (n := 23) rfl
theorem dL_law_924 : decode cL_law 924 = .ok (.iaload, 1) := nq_d dL_law_896_g (n := 24) rfl
theorem dL_law_925 : decode cL_law 925 = .ok (.aload_n 0, 1) := nq_d dL_law_896_g (n := 25) rfl
theorem dL_law_926 : decode cL_law 926 = .ok (.iload_n 3, 1) := nq_d dL_law_896_g (n := 26) rfl
theorem dL_law_927 : decode cL_law 927 = .ok (.iconst 2, 1) := nq_d dL_law_896_g (n := 27) rfl
theorem dL_law_928 : decode cL_law 928 = .ok (.iadd, 1) := nq_d dL_law_896_g (n := 28) rfl
theorem dL_law_929 : decode cL_law 929 = .ok (.iaload, 1) := nq_d dL_law_896_g (n := 29) rfl
theorem dL_law_930 : decode cL_law 930 = .ok (.aload_n 0, 1) := nq_d dL_law_896_g (n := 30) rfl
theorem dL_law_931 : decode cL_law 931 = .ok (.iload_n 3, 1) := nq_d dL_law_896_g (n := 31) rfl
theorem dL_law_932 : decode cL_law 932 = .ok (.iconst 3, 1) := nq_d dL_law_896_g (n := 32) rfl
theorem dL_law_933 : decode cL_law 933 = .ok (.iadd, 1) := nq_d dL_law_896_g (n := 33) rfl
theorem dL_law_934 : decode cL_law 934 = .ok (.iaload, 1) := nq_d dL_law_896_g (n := 34) rfl
theorem dL_law_935 : decode cL_law 935 = .ok (.invokevirtual 110, 3) := nq_d dL_law_896_g (n := 35) rfl
theorem dL_law_938 : decode cL_law 938 = .ok (.pop, 1) := nq_d dL_law_896_g (n := 36) rfl
theorem dL_law_939 : decode cL_law 939 = .ok (.goto 306, 3) := nq_d dL_law_896_g (n := 37) rfl
theorem dL_law_942 : decode cL_law 942 = .ok (.aload_n 1, 1) := nq_d dL_law_896_g (n := 38) rfl
theorem dL_law_943 : decode cL_law 943 = .ok (.aload_n 0, 1) := nq_d dL_law_896_g (n := 39) rfl
theorem dL_law_944 : decode cL_law 944 = .ok (.iload_n 3, 1) := nq_d dL_law_896_g (n := 40) rfl
theorem dL_law_945 : decode cL_law 945 = .ok (.iconst 1, 1) := nq_d dL_law_896_g (n := 41) rfl
theorem dL_law_946 : decode cL_law 946 = .ok (.iadd, 1) := nq_d dL_law_896_g (n := 42) rfl
theorem dL_law_947 : decode cL_law 947 = .ok (.iaload, 1) := nq_d dL_law_896_g (n := 43) rfl
theorem dL_law_948 : decode cL_law 948 = .ok (.aload_n 0, 1) := nq_d dL_law_896_g (n := 44) rfl
theorem dL_law_949 : decode cL_law 949 = .ok (.iload_n 3, 1) := nq_d dL_law_896_g (n := 45) rfl
theorem dL_law_950 : decode cL_law 950 = .ok (.iconst 2, 1) := nq_d dL_law_896_g (n := 46) rfl
theorem dL_law_951 : decode cL_law 951 = .ok (.iadd, 1) := nq_d dL_law_896_g (n := 47) rfl
theorem dL_law_952 : decode cL_law 952 = .ok (.iaload, 1) := nq_d dL_law_896_g (n := 48) rfl
theorem dL_law_953 : decode cL_law 953 = .ok (.aload_n 0, 1) := nq_d dL_law_896_g (n := 49) rfl
theorem dL_law_954 : decode cL_law 954 = .ok (.iload_n 3, 1) := nq_d dL_law_896_g (n := 50) rfl
theorem dL_law_955 : decode cL_law 955 = .ok (.iconst 3, 1) := nq_d dL_law_896_g (n := 51) rfl
theorem dL_law_956 : decode cL_law 956 = .ok (.iadd, 1) := nq_d dL_law_896_g (n := 52) rfl
theorem dL_law_957 : decode cL_law 957 = .ok (.iaload, 1) := nq_d dL_law_896_g (n := 53) rfl
theorem dL_law_958 : decode cL_law 958 = .ok (.invokevirtual 111, 3) := nq_d dL_law_896_g (n := 54) rfl
theorem dL_law_961 : decode cL_law 961 = .ok (.pop, 1) := nq_d dL_law_896_g (n := 55) rfl
theorem dL_law_962 : decode cL_law 962 = .ok (.aload_n 2, 1) := nq_d dL_law_896_g (n := 56) rfl
theorem dL_law_963 : decode cL_law 963 = .ok (.aload_n 0, 1) := nq_d dL_law_896_g (n := 57) rfl
theorem dL_law_964 : decode cL_law 964 = .ok (.iload_n 3, 1) := nq_d dL_law_896_g (n := 58) rfl
theorem dL_law_965 : decode cL_law 965 = .ok (.iconst 1, 1) := nq_d dL_law_896_g (n := 59) rfl
theorem dL_law_966 : decode cL_law 966 = .ok (.iadd, 1) := nq_d dL_law_896_g (n := 60) rfl
theorem dL_law_967 : decode cL_law 967 = .ok (.iaload, 1) := nq_d dL_law_896_g (n := 61) rfl
theorem dL_law_968 : decode cL_law 968 = .ok (.aload_n 0, 1) := nq_d dL_law_896_g (n := 62) rfl
theorem dL_law_969 : decode cL_law 969 = .ok (.iload_n 3, 1) := nq_d dL_law_896_g (n := 63) rfl
theorem dL_law_970 : decode cL_law 970 = .ok (.iconst 2, 1) := nq_d dL_law_896_g (n := 64) rfl
theorem dL_law_971 : decode cL_law 971 = .ok (.iadd, 1) := nq_d dL_law_896_g (n := 65) rfl
theorem dL_law_972 : decode cL_law 972 = .ok (.iaload, 1) := nq_d dL_law_896_g (n := 66) rfl
theorem dL_law_973 : decode cL_law 973 = .ok (.aload_n 0, 1) := nq_d dL_law_896_g (n := 67) rfl
theorem dL_law_974 : decode cL_law 974 = .ok (.iload_n 3, 1) := nq_d dL_law_896_g (n := 68) rfl
theorem dL_law_975 : decode cL_law 975 = .ok (.iconst 3, 1) := nq_d dL_law_896_g (n := 69) rfl
theorem dL_law_976 : decode cL_law 976 = .ok (.iadd, 1) := nq_d dL_law_896_g (n := 70) rfl
theorem dL_law_977 : decode cL_law 977 = .ok (.iaload, 1) := nq_d dL_law_896_g (n := 71) rfl
theorem dL_law_978 : decode cL_law 978 = .ok (.invokevirtual 114, 3) := nq_d dL_law_896_g (n := 72) rfl
theorem dL_law_981 : decode cL_law 981 = .ok (.pop, 1) := nq_d dL_law_896_g (n := 73) rfl
theorem dL_law_982 : decode cL_law 982 = .ok (.goto 263, 3) := nq_d dL_law_896_g (n := 74) rfl
theorem dL_law_985 : decode cL_law 985 = .ok (.aload_n 1, 1) := nq_d dL_law_896_g (n := 75) rfl
theorem dL_law_986 : decode cL_law 986 = .ok (.aload_n 0, 1) := nq_d dL_law_896_g (n := 76) rfl
theorem dL_law_987 : decode cL_law 987 = .ok (.iload_n 3, 1) := nq_d dL_law_896_g (n := 77) rfl
theorem dL_law_988 : decode cL_law 988 = .ok (.iconst 1, 1) := nq_d dL_law_896_g (n := 78) rfl
theorem dL_law_989 : decode cL_law 989 = .ok (.iadd, 1) := nq_d dL_law_896_g (n := 79) rfl
theorem dL_law_990 : decode cL_law 990 = .ok (.iaload, 1) := nq_d dL_law_896_g (n := 80) rfl
theorem dL_law_991 : decode cL_law 991 = .ok (.aload_n 0, 1) := nq_d dL_law_896_g (n := 81) rfl
theorem dL_law_992 : decode cL_law 992 = .ok (.iload_n 3, 1) := nq_d dL_law_896_g (n := 82) rfl
theorem dL_law_993 : decode cL_law 993 = .ok (.iconst 2, 1) := nq_d dL_law_896_g (n := 83) rfl
theorem dL_law_994 : decode cL_law 994 = .ok (.iadd, 1) := nq_d dL_law_896_g (n := 84) rfl
theorem dL_law_995 : decode cL_law 995 = .ok (.iaload, 1) := nq_d dL_law_896_g (n := 85) rfl
theorem dL_law_996 : decode cL_law 996 = .ok (.invokevirtual 115, 3) := nq_d dL_law_896_g (n := 86) rfl
theorem dL_law_999 : decode cL_law 999 = .ok (.pop, 1) := nq_d dL_law_896_g (n := 87) rfl
theorem dL_law_1000 : decode cL_law 1000 = .ok (.aload_n 2, 1) := nq_d dL_law_896_g (n := 88) rfl
theorem dL_law_1001 : decode cL_law 1001 = .ok (.aload_n 0, 1) := nq_d dL_law_896_g (n := 89) rfl
theorem dL_law_1002 : decode cL_law 1002 = .ok (.iload_n 3, 1) := nq_d dL_law_896_g (n := 90) rfl
theorem dL_law_1003 : decode cL_law 1003 = .ok (.iconst 1, 1) := nq_d dL_law_896_g (n := 91) rfl
theorem dL_law_1004 : decode cL_law 1004 = .ok (.iadd, 1) := nq_d dL_law_896_g (n := 92) rfl
theorem dL_law_1005 : decode cL_law 1005 = .ok (.iaload, 1) := nq_d dL_law_896_g (n := 93) rfl
theorem dL_law_1006 : decode cL_law 1006 = .ok (.aload_n 0, 1) := nq_d dL_law_896_g (n := 94) rfl
theorem dL_law_1007 : decode cL_law 1007 = .ok (.iload_n 3, 1) := nq_d dL_law_896_g (n := 95) rfl
theorem dL_law_1008 : decode cL_law 1008 = .ok (.iconst 2, 1) := nq_d dL_law_896_g (n := 96) rfl
theorem dL_law_1009 : decode cL_law 1009 = .ok (.iadd, 1) := nq_d dL_law_896_g (n := 97) rfl
theorem dL_law_1010 : decode cL_law 1010 = .ok (.iaload, 1) := nq_d dL_law_896_g (n := 98) rfl
theorem dL_law_1011 : decode cL_law 1011 = .ok (.invokevirtual 118, 3) := nq_d dL_law_896_g (n := 99) rfl
theorem dL_law_1014 : decode cL_law 1014 = .ok (.pop, 1) := nq_d dL_law_896_g (n := 100) rfl
theorem dL_law_1015 : decode cL_law 1015 = .ok (.goto 230, 3) := nq_d dL_law_896_g (n := 101) rfl
theorem dL_law_1018 : decode cL_law 1018 = .ok (.aload_n 1, 1) := nq_d dL_law_896_g (n := 102) rfl
theorem dL_law_1019 : decode cL_law 1019 = .ok (.aload_n 0, 1) := nq_d dL_law_896_g (n := 103) rfl
theorem dL_law_1020 : decode cL_law 1020 = .ok (.iload_n 3, 1) := nq_d dL_law_896_g (n := 104) rfl
theorem dL_law_1021 : decode cL_law 1021 = .ok (.iconst 1, 1) := nq_d dL_law_896_g (n := 105) rfl
theorem dL_law_1022 : decode cL_law 1022 = .ok (.iadd, 1) := nq_d dL_law_896_g (n := 106) rfl
theorem dL_law_1023 : decode cL_law 1023 = .ok (.iaload, 1) := nq_d dL_law_896_g (n := 107) rfl
theorem dL_law_1024 : decode cL_law 1024 = .ok (.aload_n 0, 1) := nq_d dL_law_896_g (n := 108) rfl
theorem dL_law_1025 : decode cL_law 1025 = .ok (.iload_n 3, 1) := nq_d dL_law_896_g (n := 109) rfl
theorem dL_law_1026 : decode cL_law 1026 = .ok (.iconst 2, 1) := nq_d dL_law_896_g (n := 110) rfl
theorem dL_law_1027 : decode cL_law 1027 = .ok (.iadd, 1) := nq_d dL_law_896_g (n := 111) rfl
theorem dL_law_1028 : decode cL_law 1028 = .ok (.iaload, 1) := nq_d dL_law_896_g (n := 112) rfl
theorem dL_law_1029 : decode cL_law 1029 = .ok (.aload_n 0, 1) := nq_d dL_law_896_g (n := 113) rfl
theorem dL_law_1030 : decode cL_law 1030 = .ok (.iload_n 3, 1) := nq_d dL_law_896_g (n := 114) rfl
theorem dL_law_1031 : decode cL_law 1031 = .ok (.iconst 3, 1) := nq_d dL_law_896_g (n := 115) rfl
theorem dL_law_1032 : decode cL_law 1032 = .ok (.iadd, 1) := nq_d dL_law_896_g (n := 116) rfl
theorem dL_law_1033 : decode cL_law 1033 = .ok (.iaload, 1) := nq_d dL_law_896_g (n := 117) rfl
theorem dL_law_1034 : decode cL_law 1034 = .ok (.invokevirtual 119, 3) := nq_d dL_law_896_g (n := 118) rfl
theorem dL_law_1037 : decode cL_law 1037 = .ok (.pop, 1) := nq_d dL_law_896_g (n := 119) rfl
theorem dL_law_1038 : decode cL_law 1038 = .ok (.aload_n 2, 1) := nq_d dL_law_896_g (n := 120) rfl
theorem dL_law_1039 : decode cL_law 1039 = .ok (.aload_n 0, 1) := nq_d dL_law_896_g (n := 121) rfl
theorem dL_law_1040 : decode cL_law 1040 = .ok (.iload_n 3, 1) := nq_d dL_law_896_g (n := 122) rfl
theorem dL_law_1041 : decode cL_law 1041 = .ok (.iconst 1, 1) := nq_d dL_law_896_g (n := 123) rfl
theorem dL_law_1042 : decode cL_law 1042 = .ok (.iadd, 1) := nq_d dL_law_896_g (n := 124) rfl
theorem dL_law_1043 : decode cL_law 1043 = .ok (.iaload, 1) := nq_d dL_law_896_g (n := 125) rfl
theorem dL_law_1044 : decode cL_law 1044 = .ok (.aload_n 0, 1) := nq_d dL_law_896_g (n := 126) rfl
theorem dL_law_1045 : decode cL_law 1045 = .ok (.iload_n 3, 1) := nq_d dL_law_896_g (n := 127) rfl
theorem dL_law_1046 : decode cL_law 1046 = .ok (.iconst 2, 1) := nq_d dL_law_896_g (n := 128) rfl
theorem dL_law_1047 : decode cL_law 1047 = .ok (.iadd, 1) := nq_d dL_law_896_g (n := 129) rfl
theorem dL_law_1048 : decode cL_law 1048 = .ok (.iaload, 1) := nq_d dL_law_896_g (n := 130) rfl
theorem dL_law_1049 : decode cL_law 1049 = .ok (.aload_n 0, 1) := nq_d dL_law_896_g (n := 131) rfl
theorem dL_law_1050 : decode cL_law 1050 = .ok (.iload_n 3, 1) := nq_d dL_law_896_g (n := 132) rfl
theorem dL_law_1051 : decode cL_law 1051 = .ok (.iconst 3, 1) := nq_d dL_law_896_g (n := 133) rfl
theorem dL_law_1052 : decode cL_law 1052 = .ok (.iadd, 1) := nq_d dL_law_896_g (n := 134) rfl
theorem dL_law_1053 : decode cL_law 1053 = .ok (.iaload, 1) := nq_d dL_law_896_g (n := 135) rfl
theorem dL_law_1054 : decode cL_law 1054 = .ok (.invokevirtual 122, 3) := nq_d dL_law_896_g (n := 136) rfl
theorem dL_law_1057 : decode cL_law 1057 = .ok (.pop, 1) := nq_d dL_law_896_g (n := 137) rfl
theorem dL_law_1058 : decode cL_law 1058 = .ok (.goto 187, 3) := nq_d dL_law_896_g (n := 138) rfl
theorem dL_law_1061 : decode cL_law 1061 = .ok (.aload_n 1, 1) := nq_d dL_law_896_g (n := 139) rfl
theorem dL_law_1062 : decode cL_law 1062 = .ok (.aload_n 0, 1) := nq_d dL_law_896_g (n := 140) rfl
theorem dL_law_1063 : decode cL_law 1063 = .ok (.iload_n 3, 1) := nq_d dL_law_896_g (n := 141) rfl
theorem dL_law_1064 : decode cL_law 1064 = .ok (.iconst 1, 1) := nq_d dL_law_896_g (n := 142) rfl
theorem dL_law_1065 : decode cL_law 1065 = .ok (.iadd, 1) := nq_d dL_law_896_g (n := 143) rfl
theorem dL_law_1066 : decode cL_law 1066 = .ok (.iaload, 1) := nq_d dL_law_896_g (n := 144) rfl
theorem dL_law_1067 : decode cL_law 1067 = .ok (.invokevirtual 123, 3) := nq_d dL_law_896_g (n := 145) rfl
theorem dL_law_1070 : decode cL_law 1070 = .ok (.pop, 1) := nq_d dL_law_896_g (n := 146) rfl
theorem dL_law_1071 : decode cL_law 1071 = .ok (.aload_n 2, 1) := nq_d dL_law_896_g (n := 147) rfl
theorem dL_law_1072 : decode cL_law 1072 = .ok (.aload_n 0, 1) := nq_d dL_law_896_g (n := 148) rfl
theorem dL_law_1073 : decode cL_law 1073 = .ok (.iload_n 3, 1) := nq_d dL_law_896_g (n := 149) rfl
noncomputable def dL_law_1074_l : List (Nat × Instr × Nat) := [(1074, .iconst 1, 1), (1075, .iadd, 1), (1076, .iaload, 1), (1077, .invokevirtual 126, 3), (1080, .pop, 1), (1081, .goto 164, 3), (1084, .aload_n 1, 1), (1085, .invokevirtual 127, 3), (1088, .pop2, 1), (1089, .aload_n 2, 1), (1090, .invokevirtual 131, 3), (1093, .pop2, 1), (1094, .goto 151, 3), (1097, .aload_n 1, 1), (1098, .aload_n 0, 1), (1099, .iload_n 3, 1), (1100, .iconst 1, 1), (1101, .iadd, 1), (1102, .iaload, 1), (1103, .invokevirtual 132, 3), (1106, .pop, 1), (1107, .aload_n 2, 1), (1108, .aload_n 0, 1), (1109, .iload_n 3, 1), (1110, .iconst 1, 1), (1111, .iadd, 1), (1112, .iaload, 1), (1113, .invokevirtual 135, 3), (1116, .pop, 1), (1117, .goto 128, 3), (1120, .aload_n 1, 1), (1121, .aload_n 0, 1), (1122, .iload_n 3, 1), (1123, .iconst 1, 1), (1124, .iadd, 1), (1125, .iaload, 1), (1126, .invokevirtual 136, 3), (1129, .pop, 1), (1130, .aload_n 2, 1), (1131, .aload_n 0, 1), (1132, .iload_n 3, 1), (1133, .iconst 1, 1), (1134, .iadd, 1), (1135, .iaload, 1), (1136, .invokevirtual 139, 3), (1139, .pop, 1), (1140, .goto 105, 3), (1143, .aload_n 1, 1), (1144, .aload_n 0, 1), (1145, .iload_n 3, 1), (1146, .iconst 1, 1), (1147, .iadd, 1), (1148, .iaload, 1), (1149, .aload_n 0, 1), (1150, .iload_n 3, 1), (1151, .iconst 2, 1), (1152, .iadd, 1), (1153, .iaload, 1), (1154, .invokevirtual 140, 3), (1157, .pop, 1), (1158, .aload_n 2, 1), (1159, .aload_n 0, 1), (1160, .iload_n 3, 1), (1161, .iconst 1, 1), (1162, .iadd, 1), (1163, .iaload, 1), (1164, .aload_n 0, 1), (1165, .iload_n 3, 1), (1166, .iconst 2, 1), (1167, .iadd, 1), (1168, .iaload, 1), (1169, .invokevirtual 143, 3), (1172, .pop, 1), (1173, .goto 72, 3), (1176, .aload_n 1, 1), (1177, .aload_n 0, 1), (1178, .iload_n 3, 1), (1179, .iconst 1, 1), (1180, .iadd, 1), (1181, .iaload, 1), (1182, .invokevirtual 144, 3), (1185, .pop, 1), (1186, .aload_n 2, 1), (1187, .aload_n 0, 1), (1188, .iload_n 3, 1), (1189, .iconst 1, 1), (1190, .iadd, 1), (1191, .iaload, 1), (1192, .invokevirtual 147, 3), (1195, .pop, 1), (1196, .goto 49, 3), (1199, .aload_n 1, 1), (1200, .aload_n 0, 1), (1201, .iload_n 3, 1), (1202, .iconst 1, 1), (1203, .iadd, 1), (1204, .iaload, 1), (1205, .invokevirtual 148, 3), (1208, .pop, 1), (1209, .aload_n 2, 1), (1210, .aload_n 0, 1), (1211, .iload_n 3, 1), (1212, .iconst 1, 1), (1213, .iadd, 1), (1214, .iaload, 1), (1215, .invokevirtual 151, 3), (1218, .pop, 1), (1219, .goto 26, 3), (1222, .aload_n 1, 1), (1223, .aload_n 0, 1), (1224, .iload_n 3, 1), (1225, .iconst 1, 1), (1226, .iadd, 1), (1227, .iaload, 1), (1228, .invokevirtual 152, 3), (1231, .pop, 1), (1232, .aload_n 2, 1), (1233, .aload_n 0, 1), (1234, .iload_n 3, 1), (1235, .iconst 1, 1), (1236, .iadd, 1), (1237, .iaload, 1), (1238, .invokevirtual 155, 3), (1241, .pop, 1), (1242, .goto 3, 3), (1245, .iinc 3 6, 3), (1248, .goto (-1230), 3), (1251, .iconst 1, 1), (1252, .ireturn, 1)]
set_option maxRecDepth 100000 in
theorem dL_law_1074_g : dL_law_1074_l.all (fun x => decide (decode cL_law x.1 = .ok x.2)) = true := by decide +kernel
theorem dL_law_1074 : decode cL_law 1074 = .ok (.iconst 1, 1) := nq_d dL_law_1074_g (n := 0) rfl
theorem dL_law_1075 : decode cL_law 1075 = .ok (.iadd, 1) := nq_d dL_law_1074_g (n := 1) rfl
theorem dL_law_1076 : decode cL_law 1076 = .ok (.iaload, 1) := nq_d dL_law_1074_g (n := 2) rfl
theorem dL_law_1077 : decode cL_law 1077 = .ok (.invokevirtual 126, 3) := nq_d dL_law_1074_g (n := 3) rfl
theorem dL_law_1080 : decode cL_law 1080 = .ok (.pop, 1) := nq_d dL_law_1074_g (n := 4) rfl
theorem dL_law_1081 : decode cL_law 1081 = .ok (.goto 164, 3) := nq_d dL_law_1074_g (n := 5) rfl
theorem dL_law_1084 : decode cL_law 1084 = .ok (.aload_n 1, 1) := nq_d dL_law_1074_g (n := 6) rfl
theorem dL_law_1085 : decode cL_law 1085 = .ok (.invokevirtual 127, 3) := nq_d dL_law_1074_g (n := 7) rfl
theorem dL_law_1088 : decode cL_law 1088 = .ok (.pop2, 1) := nq_d dL_law_1074_g (n := 8) rfl
theorem dL_law_1089 : decode cL_law 1089 = .ok (.aload_n 2, 1) := nq_d dL_law_1074_g (n := 9) rfl
theorem dL_law_1090 : decode cL_law 1090 = .ok (.invokevirtual 131, 3) := nq_d dL_law_1074_g (n := 10) rfl
theorem dL_law_1093 : decode cL_law 1093 = .ok (.pop2, 1) := nq_d dL_law_1074_g (n := 11) rfl
theorem dL_law_1094 : decode cL_law 1094 = .ok (.goto 151, 3) := nq_d dL_law_1074_g (n := 12) rfl
theorem dL_law_1097 : decode cL_law 1097 = .ok (.aload_n 1, 1) := nq_d dL_law_1074_g (n := 13) rfl
theorem dL_law_1098 : decode cL_law 1098 = .ok (.aload_n 0, 1) := nq_d dL_law_1074_g (n := 14) rfl
theorem dL_law_1099 : decode cL_law 1099 = .ok (.iload_n 3, 1) := nq_d dL_law_1074_g (n := 15) rfl
theorem dL_law_1100 : decode cL_law 1100 = .ok (.iconst 1, 1) := nq_d dL_law_1074_g (n := 16) rfl
theorem dL_law_1101 : decode cL_law 1101 = .ok (.iadd, 1) := nq_d dL_law_1074_g (n := 17) rfl
theorem dL_law_1102 : decode cL_law 1102 = .ok (.iaload, 1) := nq_d dL_law_1074_g (n := 18) rfl
theorem dL_law_1103 : decode cL_law 1103 = .ok (.invokevirtual 132, 3) := nq_d dL_law_1074_g (n := 19) rfl
theorem dL_law_1106 : decode cL_law 1106 = .ok (.pop, 1) := nq_d dL_law_1074_g (n := 20) rfl
theorem dL_law_1107 : decode cL_law 1107 = .ok (.aload_n 2, 1) := nq_d dL_law_1074_g (n := 21) rfl
theorem dL_law_1108 : decode cL_law 1108 = .ok (.aload_n 0, 1) := nq_d dL_law_1074_g (n := 22) rfl
theorem dL_law_1109 : decode cL_law 1109 = .ok (.iload_n 3, 1) := nq_d dL_law_1074_g (n := 23) rfl
theorem dL_law_1110 : decode cL_law 1110 = .ok (.iconst 1, 1) := nq_d dL_law_1074_g (n := 24) rfl
theorem dL_law_1111 : decode cL_law 1111 = .ok (.iadd, 1) := nq_d dL_law_1074_g (n := 25) rfl
theorem dL_law_1112 : decode cL_law 1112 = .ok (.iaload, 1) := nq_d dL_law_1074_g (n := 26) rfl
theorem dL_law_1113 : decode cL_law 1113 = .ok (.invokevirtual 135, 3) := nq_d dL_law_1074_g (n := 27) rfl
theorem dL_law_1116 : decode cL_law 1116 = .ok (.pop, 1) := nq_d dL_law_1074_g (n := 28) rfl
theorem dL_law_1117 : decode cL_law 1117 = .ok (.goto 128, 3) := nq_d dL_law_1074_g (n := 29) rfl
theorem dL_law_1120 : decode cL_law 1120 = .ok (.aload_n 1, 1) := nq_d dL_law_1074_g (n := 30) rfl
theorem dL_law_1121 : decode cL_law 1121 = .ok (.aload_n 0, 1) := nq_d dL_law_1074_g (n := 31) rfl
theorem dL_law_1122 : decode cL_law 1122 = .ok (.iload_n 3, 1) := nq_d dL_law_1074_g (n := 32) rfl
theorem dL_law_1123 : decode cL_law 1123 = .ok (.iconst 1, 1) := nq_d dL_law_1074_g (n := 33) rfl
theorem dL_law_1124 : decode cL_law 1124 = .ok (.iadd, 1) := nq_d dL_law_1074_g (n := 34) rfl
theorem dL_law_1125 : decode cL_law 1125 = .ok (.iaload, 1) := nq_d dL_law_1074_g (n := 35) rfl
theorem dL_law_1126 : decode cL_law 1126 = .ok (.invokevirtual 136, 3) := nq_d dL_law_1074_g (n := 36) rfl
theorem dL_law_1129 : decode cL_law 1129 = .ok (.pop, 1) := nq_d dL_law_1074_g (n := 37) rfl
theorem dL_law_1130 : decode cL_law 1130 = .ok (.aload_n 2, 1) := nq_d dL_law_1074_g (n := 38) rfl
theorem dL_law_1131 : decode cL_law 1131 = .ok (.aload_n 0, 1) := nq_d dL_law_1074_g (n := 39) rfl
theorem dL_law_1132 : decode cL_law 1132 = .ok (.iload_n 3, 1) := nq_d dL_law_1074_g (n := 40) rfl
theorem dL_law_1133 : decode cL_law 1133 = .ok (.iconst 1, 1) := nq_d dL_law_1074_g (n := 41) rfl
theorem dL_law_1134 : decode cL_law 1134 = .ok (.iadd, 1) := nq_d dL_law_1074_g (n := 42) rfl
theorem dL_law_1135 : decode cL_law 1135 = .ok (.iaload, 1) := nq_d dL_law_1074_g (n := 43) rfl
theorem dL_law_1136 : decode cL_law 1136 = .ok (.invokevirtual 139, 3) := nq_d dL_law_1074_g (n := 44) rfl
theorem dL_law_1139 : decode cL_law 1139 = .ok (.pop, 1) := nq_d dL_law_1074_g (n := 45) rfl
theorem dL_law_1140 : decode cL_law 1140 = .ok (.goto 105, 3) := nq_d dL_law_1074_g (n := 46) rfl
theorem dL_law_1143 : decode cL_law 1143 = .ok (.aload_n 1, 1) := nq_d dL_law_1074_g (n := 47) rfl
theorem dL_law_1144 : decode cL_law 1144 = .ok (.aload_n 0, 1) := nq_d dL_law_1074_g (n := 48) rfl
theorem dL_law_1145 : decode cL_law 1145 = .ok (.iload_n 3, 1) := nq_d dL_law_1074_g (n := 49) rfl
theorem dL_law_1146 : decode cL_law 1146 = .ok (.iconst 1, 1) := nq_d dL_law_1074_g (n := 50) rfl
theorem dL_law_1147 : decode cL_law 1147 = .ok (.iadd, 1) := nq_d dL_law_1074_g (n := 51) rfl
theorem dL_law_1148 : decode cL_law 1148 = .ok (.iaload, 1) := nq_d dL_law_1074_g (n := 52) rfl
theorem dL_law_1149 : decode cL_law 1149 = .ok (.aload_n 0, 1) := nq_d dL_law_1074_g (n := 53) rfl
theorem dL_law_1150 : decode cL_law 1150 = .ok (.iload_n 3, 1) := nq_d dL_law_1074_g (n := 54) rfl
theorem dL_law_1151 : decode cL_law 1151 = .ok (.iconst 2, 1) := nq_d dL_law_1074_g (n := 55) rfl
theorem dL_law_1152 : decode cL_law 1152 = .ok (.iadd, 1) := nq_d dL_law_1074_g (n := 56) rfl
theorem dL_law_1153 : decode cL_law 1153 = .ok (.iaload, 1) := nq_d dL_law_1074_g (n := 57) rfl
theorem dL_law_1154 : decode cL_law 1154 = .ok (.invokevirtual 140, 3) := nq_d dL_law_1074_g (n := 58) rfl
theorem dL_law_1157 : decode cL_law 1157 = .ok (.pop, 1) := nq_d dL_law_1074_g (n := 59) rfl
theorem dL_law_1158 : decode cL_law 1158 = .ok (.aload_n 2, 1) := nq_d dL_law_1074_g (n := 60) rfl
theorem dL_law_1159 : decode cL_law 1159 = .ok (.aload_n 0, 1) := nq_d dL_law_1074_g (n := 61) rfl
theorem dL_law_1160 : decode cL_law 1160 = .ok (.iload_n 3, 1) := nq_d dL_law_1074_g (n := 62) rfl
theorem dL_law_1161 : decode cL_law 1161 = .ok (.iconst 1, 1) := nq_d dL_law_1074_g (n := 63) rfl
theorem dL_law_1162 : decode cL_law 1162 = .ok (.iadd, 1) := nq_d dL_law_1074_g (n := 64) rfl
theorem dL_law_1163 : decode cL_law 1163 = .ok (.iaload, 1) := nq_d dL_law_1074_g (n := 65) rfl
theorem dL_law_1164 : decode cL_law 1164 = .ok (.aload_n 0, 1) := nq_d dL_law_1074_g (n := 66) rfl
theorem dL_law_1165 : decode cL_law 1165 = .ok (.iload_n 3, 1) := nq_d dL_law_1074_g (n := 67) rfl
theorem dL_law_1166 : decode cL_law 1166 = .ok (.iconst 2, 1) := nq_d dL_law_1074_g (n := 68) rfl
theorem dL_law_1167 : decode cL_law 1167 = .ok (.iadd, 1) := nq_d dL_law_1074_g (n := 69) rfl
theorem dL_law_1168 : decode cL_law 1168 = .ok (.iaload, 1) := nq_d dL_law_1074_g (n := 70) rfl
theorem dL_law_1169 : decode cL_law 1169 = .ok (.invokevirtual 143, 3) := nq_d dL_law_1074_g (n := 71) rfl
theorem dL_law_1172 : decode cL_law 1172 = .ok (.pop, 1) := nq_d dL_law_1074_g (n := 72) rfl
theorem dL_law_1173 : decode cL_law 1173 = .ok (.goto 72, 3) := nq_d dL_law_1074_g (n := 73) rfl
theorem dL_law_1176 : decode cL_law 1176 = .ok (.aload_n 1, 1) := nq_d dL_law_1074_g (n := 74) rfl
theorem dL_law_1177 : decode cL_law 1177 = .ok (.aload_n 0, 1) := nq_d dL_law_1074_g (n := 75) rfl
theorem dL_law_1178 : decode cL_law 1178 = .ok (.iload_n 3, 1) := nq_d dL_law_1074_g (n := 76) rfl
theorem dL_law_1179 : decode cL_law 1179 = .ok (.iconst 1, 1) := nq_d dL_law_1074_g (n := 77) rfl
theorem dL_law_1180 : decode cL_law 1180 = .ok (.iadd, 1) := nq_d dL_law_1074_g (n := 78) rfl
theorem dL_law_1181 : decode cL_law 1181 = .ok (.iaload, 1) := nq_d dL_law_1074_g (n := 79) rfl
theorem dL_law_1182 : decode cL_law 1182 = .ok (.invokevirtual 144, 3) := nq_d dL_law_1074_g (n := 80) rfl
theorem dL_law_1185 : decode cL_law 1185 = .ok (.pop, 1) := nq_d dL_law_1074_g (n := 81) rfl
theorem dL_law_1186 : decode cL_law 1186 = .ok (.aload_n 2, 1) := nq_d dL_law_1074_g (n := 82) rfl
theorem dL_law_1187 : decode cL_law 1187 = .ok (.aload_n 0, 1) := nq_d dL_law_1074_g (n := 83) rfl
theorem dL_law_1188 : decode cL_law 1188 = .ok (.iload_n 3, 1) := nq_d dL_law_1074_g (n := 84) rfl
theorem dL_law_1189 : decode cL_law 1189 = .ok (.iconst 1, 1) := nq_d dL_law_1074_g (n := 85) rfl
theorem dL_law_1190 : decode cL_law 1190 = .ok (.iadd, 1) := nq_d dL_law_1074_g (n := 86) rfl
theorem dL_law_1191 : decode cL_law 1191 = .ok (.iaload, 1) := nq_d dL_law_1074_g (n := 87) rfl
theorem dL_law_1192 : decode cL_law 1192 = .ok (.invokevirtual 147, 3) := nq_d dL_law_1074_g (n := 88) rfl
theorem dL_law_1195 : decode cL_law 1195 = .ok (.pop, 1) := nq_d dL_law_1074_g (n := 89) rfl
theorem dL_law_1196 : decode cL_law 1196 = .ok (.goto 49, 3) := nq_d dL_law_1074_g (n := 90) rfl
theorem dL_law_1199 : decode cL_law 1199 = .ok (.aload_n 1, 1) := nq_d dL_law_1074_g (n := 91) rfl
theorem dL_law_1200 : decode cL_law 1200 = .ok (.aload_n 0, 1) := nq_d dL_law_1074_g (n := 92) rfl
theorem dL_law_1201 : decode cL_law 1201 = .ok (.iload_n 3, 1) := nq_d dL_law_1074_g (n := 93) rfl
theorem dL_law_1202 : decode cL_law 1202 = .ok (.iconst 1, 1) := nq_d dL_law_1074_g (n := 94) rfl
theorem dL_law_1203 : decode cL_law 1203 = .ok (.iadd, 1) := nq_d dL_law_1074_g (n := 95) rfl
theorem dL_law_1204 : decode cL_law 1204 = .ok (.iaload, 1) := nq_d dL_law_1074_g (n := 96) rfl
theorem dL_law_1205 : decode cL_law 1205 = .ok (.invokevirtual 148, 3) := nq_d dL_law_1074_g (n := 97) rfl
theorem dL_law_1208 : decode cL_law 1208 = .ok (.pop, 1) := nq_d dL_law_1074_g (n := 98) rfl
theorem dL_law_1209 : decode cL_law 1209 = .ok (.aload_n 2, 1) := nq_d dL_law_1074_g (n := 99) rfl
theorem dL_law_1210 : decode cL_law 1210 = .ok (.aload_n 0, 1) := nq_d dL_law_1074_g (n := 100) rfl
theorem dL_law_1211 : decode cL_law 1211 = .ok (.iload_n 3, 1) := nq_d dL_law_1074_g (n := 101) rfl
theorem dL_law_1212 : decode cL_law 1212 = .ok (.iconst 1, 1) := nq_d dL_law_1074_g (n := 102) rfl
theorem dL_law_1213 : decode cL_law 1213 = .ok (.iadd, 1) := nq_d dL_law_1074_g (n := 103) rfl
theorem dL_law_1214 : decode cL_law 1214 = .ok (.iaload, 1) := nq_d dL_law_1074_g (n := 104) rfl
theorem dL_law_1215 : decode cL_law 1215 = .ok (.invokevirtual 151, 3) := nq_d dL_law_1074_g (n := 105) rfl
theorem dL_law_1218 : decode cL_law 1218 = .ok (.pop, 1) := nq_d dL_law_1074_g (n := 106) rfl
theorem dL_law_1219 : decode cL_law 1219 = .ok (.goto 26, 3) := nq_d dL_law_1074_g (n := 107) rfl
theorem dL_law_1222 : decode cL_law 1222 = .ok (.aload_n 1, 1) := nq_d dL_law_1074_g (n := 108) rfl
theorem dL_law_1223 : decode cL_law 1223 = .ok (.aload_n 0, 1) := nq_d dL_law_1074_g (n := 109) rfl
theorem dL_law_1224 : decode cL_law 1224 = .ok (.iload_n 3, 1) := nq_d dL_law_1074_g (n := 110) rfl
theorem dL_law_1225 : decode cL_law 1225 = .ok (.iconst 1, 1) := nq_d dL_law_1074_g (n := 111) rfl
theorem dL_law_1226 : decode cL_law 1226 = .ok (.iadd, 1) := nq_d dL_law_1074_g (n := 112) rfl
theorem dL_law_1227 : decode cL_law 1227 = .ok (.iaload, 1) := nq_d dL_law_1074_g (n := 113) rfl
theorem dL_law_1228 : decode cL_law 1228 = .ok (.invokevirtual 152, 3) := nq_d dL_law_1074_g (n := 114) rfl
theorem dL_law_1231 : decode cL_law 1231 = .ok (.pop, 1) := nq_d dL_law_1074_g (n := 115) rfl
theorem dL_law_1232 : decode cL_law 1232 = .ok (.aload_n 2, 1) := nq_d dL_law_1074_g (n := 116) rfl
theorem dL_law_1233 : decode cL_law 1233 = .ok (.aload_n 0, 1) := nq_d dL_law_1074_g (n := 117) rfl
theorem dL_law_1234 : decode cL_law 1234 = .ok (.iload_n 3, 1) := nq_d dL_law_1074_g (n := 118) rfl
theorem dL_law_1235 : decode cL_law 1235 = .ok (.iconst 1, 1) := nq_d dL_law_1074_g (n := 119) rfl
theorem dL_law_1236 : decode cL_law 1236 = .ok (.iadd, 1) := nq_d dL_law_1074_g (n := 120) rfl
theorem dL_law_1237 : decode cL_law 1237 = .ok (.iaload, 1) := nq_d dL_law_1074_g (n := 121) rfl
theorem dL_law_1238 : decode cL_law 1238 = .ok (.invokevirtual 155, 3) := nq_d dL_law_1074_g (n := 122) rfl
theorem dL_law_1241 : decode cL_law 1241 = .ok (.pop, 1) := nq_d dL_law_1074_g (n := 123) rfl
theorem dL_law_1242 : decode cL_law 1242 = .ok (.goto 3, 3) := nq_d dL_law_1074_g (n := 124) rfl
theorem dL_law_1245 : decode cL_law 1245 = .ok (.iinc 3 6, 3) := nq_d dL_law_1074_g (n := 125) rfl
theorem dL_law_1248 : decode cL_law 1248 = .ok (.goto (-1230), 3) := nq_d dL_law_1074_g (n := 126) rfl
theorem dL_law_1251 : decode cL_law 1251 = .ok (.iconst 1, 1) := nq_d dL_law_1074_g (n := 127) rfl
theorem dL_law_1252 : decode cL_law 1252 = .ok (.ireturn, 1) := nq_d dL_law_1074_g (n := 128) rfl
