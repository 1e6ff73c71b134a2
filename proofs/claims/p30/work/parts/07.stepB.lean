theorem x57_0 {z : P0} : X z 57 0 = XI mT z (X z) (.aload_n 0, 1, 0, 0, 0, [], 0, 0) 57 0 := X_at (r := mi57) rfl rfl
theorem x57_1 {z : P0} : X z 57 1 = XI mT z (X z) (.invokespecial 1, 3, 0, 9003, 0, [57], 0, 0) 57 1 := X_at (r := mi57) rfl rfl
theorem x57_4 {z : P0} : X z 57 4 = XI mT z (X z) (.aload_n 0, 1, 0, 0, 0, [], 0, 0) 57 4 := X_at (r := mi57) rfl rfl
theorem x57_5 {z : P0} : X z 57 5 = XI mT z (X z) (.new 7, 3, 8, 10, 0, [32], 0, 0) 57 5 := X_at (r := mi57) rfl rfl
theorem x57_8 {z : P0} : X z 57 8 = XI mT z (X z) (.dup, 1, 0, 0, 0, [], 0, 0) 57 8 := X_at (r := mi57) rfl rfl
theorem x57_9 {z : P0} : X z 57 9 = XI mT z (X z) (.invokespecial 9, 3, 0, 47, 0, [58], 0, 0) 57 9 := X_at (r := mi57) rfl rfl
theorem x57_12 {z : P0} : X z 57 12 = XI mT z (X z) (.putfield 10, 3, 10, 0, 3, [86], 0, 0) 57 12 := X_at (r := mi57) rfl rfl
theorem x57_15 {z : P0} : X z 57 15 = XI mT z (X z) (.aload_n 0, 1, 0, 0, 0, [], 0, 0) 57 15 := X_at (r := mi57) rfl rfl
theorem x57_16 {z : P0} : X z 57 16 = XI mT z (X z) (.new 16, 3, 3, 2, 0, [176], 0, 0) 57 16 := X_at (r := mi57) rfl rfl
theorem x57_19 {z : P0} : X z 57 19 = XI mT z (X z) (.dup, 1, 0, 0, 0, [], 0, 0) 57 19 := X_at (r := mi57) rfl rfl
theorem x57_20 {z : P0} : X z 57 20 = XI mT z (X z) (.invokespecial 18, 3, 0, 23, 0, [59], 0, 0) 57 20 := X_at (r := mi57) rfl rfl
theorem x57_23 {z : P0} : X z 57 23 = XI mT z (X z) (.putfield 19, 3, 10, 1, 3, [87], 0, 0) 57 23 := X_at (r := mi57) rfl rfl
theorem x57_26 {z : P0} : X z 57 26 = XI mT z (X z) (.aload_n 0, 1, 0, 0, 0, [], 0, 0) 57 26 := X_at (r := mi57) rfl rfl
theorem x57_27 {z : P0} : X z 57 27 = XI mT z (X z) (.new 23, 3, 0, 2, 0, [193], 0, 0) 57 27 := X_at (r := mi57) rfl rfl
theorem x57_30 {z : P0} : X z 57 30 = XI mT z (X z) (.dup, 1, 0, 0, 0, [], 0, 0) 57 30 := X_at (r := mi57) rfl rfl
theorem x57_31 {z : P0} : X z 57 31 = XI mT z (X z) (.invokespecial 25, 3, 0, 0, 1, [60], 0, 0) 57 31 := X_at (r := mi57) rfl rfl
theorem x57_34 {z : P0} : X z 57 34 = XI mT z (X z) (.putfield 26, 3, 10, 2, 3, [88], 0, 0) 57 34 := X_at (r := mi57) rfl rfl
theorem x57_37 {z : P0} : X z 57 37 = XI mT z (X z) (.new 30, 3, 1, 3, 0, [212], 0, 0) 57 37 := X_at (r := mi57) rfl rfl
theorem x57_40 {z : P0} : X z 57 40 = XI mT z (X z) (.dup, 1, 0, 0, 0, [], 0, 0) 57 40 := X_at (r := mi57) rfl rfl
theorem x57_41 {z : P0} : X z 57 41 = XI mT z (X z) (.invokespecial 32, 3, 0, 9, 1, [61], 0, 0) 57 41 := X_at (r := mi57) rfl rfl
theorem x57_44 {z : P0} : X z 57 44 = XI mT z (X z) (.astore_n 1, 1, 1, 0, 0, [], 0, 0) 57 44 := X_at (r := mi57) rfl rfl
theorem x57_45 {z : P0} : X z 57 45 = XI mT z (X z) (.new 33, 3, 5, 5, 0, [231], 0, 0) 57 45 := X_at (r := mi57) rfl rfl
theorem x57_48 {z : P0} : X z 57 48 = XI mT z (X z) (.dup, 1, 0, 0, 0, [], 0, 0) 57 48 := X_at (r := mi57) rfl rfl
theorem x57_49 {z : P0} : X z 57 49 = XI mT z (X z) (.invokespecial 35, 3, 0, 32, 1, [62], 0, 0) 57 49 := X_at (r := mi57) rfl rfl
theorem x57_52 {z : P0} : X z 57 52 = XI mT z (X z) (.astore_n 2, 1, 2, 0, 0, [], 0, 0) 57 52 := X_at (r := mi57) rfl rfl
theorem x57_53 {z : P0} : X z 57 53 = XI mT z (X z) (.aload_n 0, 1, 0, 0, 0, [], 0, 0) 57 53 := X_at (r := mi57) rfl rfl
theorem x57_54 {z : P0} : X z 57 54 = XI mT z (X z) (.new 36, 3, 6, 12, 0, [255], 0, 0) 57 54 := X_at (r := mi57) rfl rfl
theorem x57_57 {z : P0} : X z 57 57 = XI mT z (X z) (.dup, 1, 0, 0, 0, [], 0, 0) 57 57 := X_at (r := mi57) rfl rfl
theorem x57_58 {z : P0} : X z 57 58 = XI mT z (X z) (.aload_n 1, 1, 1, 0, 0, [], 0, 0) 57 58 := X_at (r := mi57) rfl rfl
theorem x57_59 {z : P0} : X z 57 59 = XI mT z (X z) (.aload_n 2, 1, 2, 0, 0, [], 0, 0) 57 59 := X_at (r := mi57) rfl rfl
theorem x57_60 {z : P0} : X z 57 60 = XI mT z (X z) (.invokespecial 38, 3, 2, 36, 0, [63], 0, 0) 57 60 := X_at (r := mi57) rfl rfl
theorem x57_63 {z : P0} : X z 57 63 = XI mT z (X z) (.putfield 41, 3, 10, 3, 3, [89], 0, 0) 57 63 := X_at (r := mi57) rfl rfl
theorem x57_66 {z : P0} : X z 57 66 = XI mT z (X z) (.aload_n 0, 1, 0, 0, 0, [], 0, 0) 57 66 := X_at (r := mi57) rfl rfl
theorem x57_67 {z : P0} : X z 57 67 = XI mT z (X z) (.new 36, 3, 6, 12, 0, [255], 0, 0) 57 67 := X_at (r := mi57) rfl rfl
theorem x57_70 {z : P0} : X z 57 70 = XI mT z (X z) (.dup, 1, 0, 0, 0, [], 0, 0) 57 70 := X_at (r := mi57) rfl rfl
theorem x57_71 {z : P0} : X z 57 71 = XI mT z (X z) (.aload_n 1, 1, 1, 0, 0, [], 0, 0) 57 71 := X_at (r := mi57) rfl rfl
theorem x57_72 {z : P0} : X z 57 72 = XI mT z (X z) (.aload_n 2, 1, 2, 0, 0, [], 0, 0) 57 72 := X_at (r := mi57) rfl rfl
theorem x57_73 {z : P0} : X z 57 73 = XI mT z (X z) (.invokespecial 38, 3, 2, 36, 0, [63], 0, 0) 57 73 := X_at (r := mi57) rfl rfl
theorem x57_76 {z : P0} : X z 57 76 = XI mT z (X z) (.putfield 45, 3, 10, 4, 3, [90], 0, 0) 57 76 := X_at (r := mi57) rfl rfl
theorem x57_79 {z : P0} : X z 57 79 = XI mT z (X z) (.aload_n 0, 1, 0, 0, 0, [], 0, 0) 57 79 := X_at (r := mi57) rfl rfl
theorem x57_80 {z : P0} : X z 57 80 = XI mT z (X z) (.bipush 6, 2, 0, 0, 0, [], nI 6, 0) 57 80 := X_at (r := mi57) rfl rfl
theorem x57_82 {z : P0} : X z 57 82 = XI mT z (X z) (.newarray .int, 2, 20, 0, 0, [], 0, 0) 57 82 := X_at (r := mi57) rfl rfl
theorem x57_84 {z : P0} : X z 57 84 = XI mT z (X z) (.putfield 48, 3, 10, 5, 3, [91], 0, 0) 57 84 := X_at (r := mi57) rfl rfl
theorem x57_87 {z : P0} : X z 57 87 = XI mT z (X z) (.return_, 1, 0, 0, 0, [], 0, 0) 57 87 := X_at (r := mi57) rfl rfl
theorem x58_0 {z : P0} : X z 58 0 = XI mT z (X z) (.iload_n 1, 1, 1, 0, 0, [], 0, 0) 58 0 := X_at (r := mi58) rfl rfl
theorem x58_1 {z : P0} : X z 58 1 = XI mT z (X z) (.invokestatic 52, 3, 1, 85, 0, [64], 0, 0) 58 1 := X_at (r := mi58) rfl rfl
theorem x58_4 {z : P0} : X z 58 4 = XI mT z (X z) (.ifCond .eq 12, 3, 16, 0, 0, [], 0, 0) 58 4 := X_at (r := mi58) rfl rfl
theorem x58_7 {z : P0} : X z 58 7 = XI mT z (X z) (.iload_n 2, 1, 2, 0, 0, [], 0, 0) 58 7 := X_at (r := mi58) rfl rfl
theorem x58_8 {z : P0} : X z 58 8 = XI mT z (X z) (.ifCond .lt 8, 3, 16, 0, 0, [], 0, 0) 58 8 := X_at (r := mi58) rfl rfl
theorem x58_11 {z : P0} : X z 58 11 = XI mT z (X z) (.iload_n 2, 1, 2, 0, 0, [], 0, 0) 58 11 := X_at (r := mi58) rfl rfl
theorem x58_12 {z : P0} : X z 58 12 = XI mT z (X z) (.iconst 3, 1, 0, 0, 0, [], nI 3, 0) 58 12 := X_at (r := mi58) rfl rfl
theorem x58_13 {z : P0} : X z 58 13 = XI mT z (X z) (.if_icmp .lt 13, 3, 26, 0, 0, [], 0, 0) 58 13 := X_at (r := mi58) rfl rfl
theorem x58_16 {z : P0} : X z 58 16 = XI mT z (X z) (.new 56, 3, 0, 0, 9, [386], 0, 0) 58 16 := X_at (r := mi58) rfl rfl
theorem x58_19 {z : P0} : X z 58 19 = XI mT z (X z) (.dup, 1, 0, 0, 0, [], 0, 0) 58 19 := X_at (r := mi58) rfl rfl
theorem x58_20 {z : P0} : X z 58 20 = XI mT z (X z) (.ldc 58, 2, 0, 0, 98, [], 0, 0) 58 20 := X_at (r := mi58) rfl rfl
theorem x58_22 {z : P0} : X z 58 22 = XI mT z (X z) (.invokespecial 60, 3, 0, 9999, 0, [], 0, 0) 58 22 := X_at (r := mi58) rfl rfl
theorem x58_25 {z : P0} : X z 58 25 = XI mT z (X z) (.athrow, 1, 0, 0, 0, [], 0, 0) 58 25 := X_at (r := mi58) rfl rfl
theorem x58_26 {z : P0} : X z 58 26 = XI mT z (X z) (.aload_n 0, 1, 0, 0, 0, [], 0, 0) 58 26 := X_at (r := mi58) rfl rfl
theorem x58_27 {z : P0} : X z 58 27 = XI mT z (X z) (.getfield 26, 3, 10, 2, 3, [88], 0, 0) 58 27 := X_at (r := mi58) rfl rfl
theorem x58_30 {z : P0} : X z 58 30 = XI mT z (X z) (.iconst 0, 1, 0, 0, 0, [], nI 0, 0) 58 30 := X_at (r := mi58) rfl rfl
theorem x58_31 {z : P0} : X z 58 31 = XI mT z (X z) (.invokevirtual 63, 3, 1, 2, 0, [65], 0, 0) 58 31 := X_at (r := mi58) rfl rfl
theorem x58_34 {z : P0} : X z 58 34 = XI mT z (X z) (.ifCond .ne 13, 3, 47, 0, 0, [], 0, 0) 58 34 := X_at (r := mi58) rfl rfl
theorem x58_37 {z : P0} : X z 58 37 = XI mT z (X z) (.new 56, 3, 0, 0, 9, [386], 0, 0) 58 37 := X_at (r := mi58) rfl rfl
theorem x58_40 {z : P0} : X z 58 40 = XI mT z (X z) (.dup, 1, 0, 0, 0, [], 0, 0) 58 40 := X_at (r := mi58) rfl rfl
theorem x58_41 {z : P0} : X z 58 41 = XI mT z (X z) (.ldc 66, 2, 0, 0, 98, [], 0, 0) 58 41 := X_at (r := mi58) rfl rfl
theorem x58_43 {z : P0} : X z 58 43 = XI mT z (X z) (.invokespecial 60, 3, 0, 9999, 0, [], 0, 0) 58 43 := X_at (r := mi58) rfl rfl
theorem x58_46 {z : P0} : X z 58 46 = XI mT z (X z) (.athrow, 1, 0, 0, 0, [], 0, 0) 58 46 := X_at (r := mi58) rfl rfl
theorem x58_47 {z : P0} : X z 58 47 = XI mT z (X z) (.aload_n 0, 1, 0, 0, 0, [], 0, 0) 58 47 := X_at (r := mi58) rfl rfl
theorem x58_48 {z : P0} : X z 58 48 = XI mT z (X z) (.getfield 10, 3, 10, 0, 3, [86], 0, 0) 58 48 := X_at (r := mi58) rfl rfl
theorem x58_51 {z : P0} : X z 58 51 = XI mT z (X z) (.getfield 68, 3, 8, 1, 0, [92], 0, 0) 58 51 := X_at (r := mi58) rfl rfl
theorem x58_54 {z : P0} : X z 58 54 = XI mT z (X z) (.bipush 20, 2, 0, 0, 0, [], nI 20, 0) 58 54 := X_at (r := mi58) rfl rfl
theorem x58_56 {z : P0} : X z 58 56 = XI mT z (X z) (.if_icmp .lt 13, 3, 69, 0, 0, [], 0, 0) 58 56 := X_at (r := mi58) rfl rfl
theorem x58_59 {z : P0} : X z 58 59 = XI mT z (X z) (.new 72, 3, 1, 0, 9, [454], 0, 0) 58 59 := X_at (r := mi58) rfl rfl
theorem x58_62 {z : P0} : X z 58 62 = XI mT z (X z) (.dup, 1, 0, 0, 0, [], 0, 0) 58 62 := X_at (r := mi58) rfl rfl
theorem x58_63 {z : P0} : X z 58 63 = XI mT z (X z) (.ldc 74, 2, 0, 0, 98, [], 0, 0) 58 63 := X_at (r := mi58) rfl rfl
theorem x58_65 {z : P0} : X z 58 65 = XI mT z (X z) (.invokespecial 76, 3, 0, 9999, 0, [], 0, 0) 58 65 := X_at (r := mi58) rfl rfl
theorem x58_68 {z : P0} : X z 58 68 = XI mT z (X z) (.athrow, 1, 0, 0, 0, [], 0, 0) 58 68 := X_at (r := mi58) rfl rfl
theorem x58_69 {z : P0} : X z 58 69 = XI mT z (X z) (.aload_n 0, 1, 0, 0, 0, [], 0, 0) 58 69 := X_at (r := mi58) rfl rfl
theorem x58_70 {z : P0} : X z 58 70 = XI mT z (X z) (.getfield 19, 3, 10, 1, 3, [87], 0, 0) 58 70 := X_at (r := mi58) rfl rfl
theorem x58_73 {z : P0} : X z 58 73 = XI mT z (X z) (.aload_n 0, 1, 0, 0, 0, [], 0, 0) 58 73 := X_at (r := mi58) rfl rfl
theorem x58_74 {z : P0} : X z 58 74 = XI mT z (X z) (.getfield 10, 3, 10, 0, 3, [86], 0, 0) 58 74 := X_at (r := mi58) rfl rfl
theorem x58_77 {z : P0} : X z 58 77 = XI mT z (X z) (.invokevirtual 77, 3, 1, 24, 0, [66], 0, 0) 58 77 := X_at (r := mi58) rfl rfl
theorem x58_80 {z : P0} : X z 58 80 = XI mT z (X z) (.aload_n 0, 1, 0, 0, 0, [], 0, 0) 58 80 := X_at (r := mi58) rfl rfl
theorem x58_81 {z : P0} : X z 58 81 = XI mT z (X z) (.getfield 10, 3, 10, 0, 3, [86], 0, 0) 58 81 := X_at (r := mi58) rfl rfl
theorem x58_84 {z : P0} : X z 58 84 = XI mT z (X z) (.getfield 68, 3, 8, 1, 0, [92], 0, 0) 58 84 := X_at (r := mi58) rfl rfl
theorem x58_87 {z : P0} : X z 58 87 = XI mT z (X z) (.istore_n 3, 1, 3, 0, 0, [], 0, 0) 58 87 := X_at (r := mi58) rfl rfl
theorem x58_88 {z : P0} : X z 58 88 = XI mT z (X z) (.aload_n 0, 1, 0, 0, 0, [], 0, 0) 58 88 := X_at (r := mi58) rfl rfl
theorem x58_89 {z : P0} : X z 58 89 = XI mT z (X z) (.getfield 10, 3, 10, 0, 3, [86], 0, 0) 58 89 := X_at (r := mi58) rfl rfl
theorem x58_92 {z : P0} : X z 58 92 = XI mT z (X z) (.getfield 81, 3, 8, 0, 3, [93], 0, 0) 58 92 := X_at (r := mi58) rfl rfl
theorem x58_95 {z : P0} : X z 58 95 = XI mT z (X z) (.iload_n 3, 1, 3, 0, 0, [], 0, 0) 58 95 := X_at (r := mi58) rfl rfl
theorem x58_96 {z : P0} : X z 58 96 = XI mT z (X z) (.aaload, 1, 0, 0, 0, [], 0, 0) 58 96 := X_at (r := mi58) rfl rfl
theorem x58_97 {z : P0} : X z 58 97 = XI mT z (X z) (.aload_n 0, 1, 0, 0, 0, [], 0, 0) 58 97 := X_at (r := mi58) rfl rfl
theorem x58_98 {z : P0} : X z 58 98 = XI mT z (X z) (.getfield 26, 3, 10, 2, 3, [88], 0, 0) 58 98 := X_at (r := mi58) rfl rfl
theorem x58_101 {z : P0} : X z 58 101 = XI mT z (X z) (.iload_n 1, 1, 1, 0, 0, [], 0, 0) 58 101 := X_at (r := mi58) rfl rfl
theorem x58_102 {z : P0} : X z 58 102 = XI mT z (X z) (.iload_n 2, 1, 2, 0, 0, [], 0, 0) 58 102 := X_at (r := mi58) rfl rfl
theorem x58_103 {z : P0} : X z 58 103 = XI mT z (X z) (.invokevirtual 85, 3, 3, 45, 0, [67], 0, 0) 58 103 := X_at (r := mi58) rfl rfl
theorem x58_106 {z : P0} : X z 58 106 = XI mT z (X z) (.aload_n 0, 1, 0, 0, 0, [], 0, 0) 58 106 := X_at (r := mi58) rfl rfl
theorem x58_107 {z : P0} : X z 58 107 = XI mT z (X z) (.getfield 10, 3, 10, 0, 3, [86], 0, 0) 58 107 := X_at (r := mi58) rfl rfl
theorem x58_110 {z : P0} : X z 58 110 = XI mT z (X z) (.iload_n 3, 1, 3, 0, 0, [], 0, 0) 58 110 := X_at (r := mi58) rfl rfl
theorem x58_111 {z : P0} : X z 58 111 = XI mT z (X z) (.iconst 1, 1, 0, 0, 0, [], nI 1, 0) 58 111 := X_at (r := mi58) rfl rfl
theorem x58_112 {z : P0} : X z 58 112 = XI mT z (X z) (.iadd, 1, 0, 0, 0, [], 0, 0) 58 112 := X_at (r := mi58) rfl rfl
theorem x58_113 {z : P0} : X z 58 113 = XI mT z (X z) (.putfield 68, 3, 8, 1, 0, [92], 0, 0) 58 113 := X_at (r := mi58) rfl rfl
theorem x58_116 {z : P0} : X z 58 116 = XI mT z (X z) (.aload_n 0, 1, 0, 0, 0, [], 0, 0) 58 116 := X_at (r := mi58) rfl rfl
theorem x58_117 {z : P0} : X z 58 117 = XI mT z (X z) (.getfield 26, 3, 10, 2, 3, [88], 0, 0) 58 117 := X_at (r := mi58) rfl rfl
theorem x58_120 {z : P0} : X z 58 120 = XI mT z (X z) (.iconst 0, 1, 0, 0, 0, [], nI 0, 0) 58 120 := X_at (r := mi58) rfl rfl
theorem x58_121 {z : P0} : X z 58 121 = XI mT z (X z) (.putfield 91, 3, 0, 1, 0, [94], 0, 0) 58 121 := X_at (r := mi58) rfl rfl
theorem x58_124 {z : P0} : X z 58 124 = XI mT z (X z) (.iload_n 3, 1, 3, 0, 0, [], 0, 0) 58 124 := X_at (r := mi58) rfl rfl
theorem x58_125 {z : P0} : X z 58 125 = XI mT z (X z) (.ireturn, 1, 0, 0, 0, [], 0, 0) 58 125 := X_at (r := mi58) rfl rfl
theorem x59_0 {z : P0} : X z 59 0 = XI mT z (X z) (.aload_n 0, 1, 0, 0, 0, [], 0, 0) 59 0 := X_at (r := mi59) rfl rfl
theorem x59_1 {z : P0} : X z 59 1 = XI mT z (X z) (.getfield 26, 3, 10, 2, 3, [88], 0, 0) 59 1 := X_at (r := mi59) rfl rfl
theorem x59_4 {z : P0} : X z 59 4 = XI mT z (X z) (.iconst 1, 1, 0, 0, 0, [], nI 1, 0) 59 4 := X_at (r := mi59) rfl rfl
theorem x59_5 {z : P0} : X z 59 5 = XI mT z (X z) (.invokevirtual 63, 3, 1, 2, 0, [65], 0, 0) 59 5 := X_at (r := mi59) rfl rfl
theorem x59_8 {z : P0} : X z 59 8 = XI mT z (X z) (.ifCond .ne 13, 3, 21, 0, 0, [], 0, 0) 59 8 := X_at (r := mi59) rfl rfl
theorem x59_11 {z : P0} : X z 59 11 = XI mT z (X z) (.new 56, 3, 0, 0, 9, [386], 0, 0) 59 11 := X_at (r := mi59) rfl rfl
theorem x59_14 {z : P0} : X z 59 14 = XI mT z (X z) (.dup, 1, 0, 0, 0, [], 0, 0) 59 14 := X_at (r := mi59) rfl rfl
theorem x59_15 {z : P0} : X z 59 15 = XI mT z (X z) (.ldc 94, 2, 0, 0, 98, [], 0, 0) 59 15 := X_at (r := mi59) rfl rfl
theorem x59_17 {z : P0} : X z 59 17 = XI mT z (X z) (.invokespecial 60, 3, 0, 9999, 0, [], 0, 0) 59 17 := X_at (r := mi59) rfl rfl
theorem x59_20 {z : P0} : X z 59 20 = XI mT z (X z) (.athrow, 1, 0, 0, 0, [], 0, 0) 59 20 := X_at (r := mi59) rfl rfl
theorem x59_21 {z : P0} : X z 59 21 = XI mT z (X z) (.aload_n 0, 1, 0, 0, 0, [], 0, 0) 59 21 := X_at (r := mi59) rfl rfl
theorem x59_22 {z : P0} : X z 59 22 = XI mT z (X z) (.getfield 10, 3, 10, 0, 3, [86], 0, 0) 59 22 := X_at (r := mi59) rfl rfl
theorem x59_25 {z : P0} : X z 59 25 = XI mT z (X z) (.getfield 96, 3, 8, 3, 0, [95], 0, 0) 59 25 := X_at (r := mi59) rfl rfl
theorem x59_28 {z : P0} : X z 59 28 = XI mT z (X z) (.bipush 10, 2, 0, 0, 0, [], nI 10, 0) 59 28 := X_at (r := mi59) rfl rfl
theorem x59_30 {z : P0} : X z 59 30 = XI mT z (X z) (.if_icmp .lt 13, 3, 43, 0, 0, [], 0, 0) 59 30 := X_at (r := mi59) rfl rfl
theorem x59_33 {z : P0} : X z 59 33 = XI mT z (X z) (.new 72, 3, 1, 0, 9, [454], 0, 0) 59 33 := X_at (r := mi59) rfl rfl
theorem x59_36 {z : P0} : X z 59 36 = XI mT z (X z) (.dup, 1, 0, 0, 0, [], 0, 0) 59 36 := X_at (r := mi59) rfl rfl
theorem x59_37 {z : P0} : X z 59 37 = XI mT z (X z) (.ldc 99, 2, 0, 0, 98, [], 0, 0) 59 37 := X_at (r := mi59) rfl rfl
theorem x59_39 {z : P0} : X z 59 39 = XI mT z (X z) (.invokespecial 76, 3, 0, 9999, 0, [], 0, 0) 59 39 := X_at (r := mi59) rfl rfl
theorem x59_42 {z : P0} : X z 59 42 = XI mT z (X z) (.athrow, 1, 0, 0, 0, [], 0, 0) 59 42 := X_at (r := mi59) rfl rfl
theorem x59_43 {z : P0} : X z 59 43 = XI mT z (X z) (.aload_n 0, 1, 0, 0, 0, [], 0, 0) 59 43 := X_at (r := mi59) rfl rfl
theorem x59_44 {z : P0} : X z 59 44 = XI mT z (X z) (.getfield 19, 3, 10, 1, 3, [87], 0, 0) 59 44 := X_at (r := mi59) rfl rfl
theorem x59_47 {z : P0} : X z 59 47 = XI mT z (X z) (.aload_n 0, 1, 0, 0, 0, [], 0, 0) 59 47 := X_at (r := mi59) rfl rfl
theorem x59_48 {z : P0} : X z 59 48 = XI mT z (X z) (.getfield 10, 3, 10, 0, 3, [86], 0, 0) 59 48 := X_at (r := mi59) rfl rfl
theorem x59_51 {z : P0} : X z 59 51 = XI mT z (X z) (.invokevirtual 77, 3, 1, 24, 0, [66], 0, 0) 59 51 := X_at (r := mi59) rfl rfl
theorem x59_54 {z : P0} : X z 59 54 = XI mT z (X z) (.aload_n 0, 1, 0, 0, 0, [], 0, 0) 59 54 := X_at (r := mi59) rfl rfl
theorem x59_55 {z : P0} : X z 59 55 = XI mT z (X z) (.getfield 10, 3, 10, 0, 3, [86], 0, 0) 59 55 := X_at (r := mi59) rfl rfl
theorem x59_58 {z : P0} : X z 59 58 = XI mT z (X z) (.getfield 96, 3, 8, 3, 0, [95], 0, 0) 59 58 := X_at (r := mi59) rfl rfl
theorem x59_61 {z : P0} : X z 59 61 = XI mT z (X z) (.istore_n 1, 1, 1, 0, 0, [], 0, 0) 59 61 := X_at (r := mi59) rfl rfl
theorem x59_62 {z : P0} : X z 59 62 = XI mT z (X z) (.aload_n 0, 1, 0, 0, 0, [], 0, 0) 59 62 := X_at (r := mi59) rfl rfl
theorem x59_63 {z : P0} : X z 59 63 = XI mT z (X z) (.getfield 10, 3, 10, 0, 3, [86], 0, 0) 59 63 := X_at (r := mi59) rfl rfl
theorem x59_66 {z : P0} : X z 59 66 = XI mT z (X z) (.getfield 101, 3, 8, 2, 3, [96], 0, 0) 59 66 := X_at (r := mi59) rfl rfl
theorem x59_69 {z : P0} : X z 59 69 = XI mT z (X z) (.iload_n 1, 1, 1, 0, 0, [], 0, 0) 59 69 := X_at (r := mi59) rfl rfl
theorem x59_70 {z : P0} : X z 59 70 = XI mT z (X z) (.aaload, 1, 0, 0, 0, [], 0, 0) 59 70 := X_at (r := mi59) rfl rfl
theorem x59_71 {z : P0} : X z 59 71 = XI mT z (X z) (.aload_n 0, 1, 0, 0, 0, [], 0, 0) 59 71 := X_at (r := mi59) rfl rfl
theorem x59_72 {z : P0} : X z 59 72 = XI mT z (X z) (.getfield 26, 3, 10, 2, 3, [88], 0, 0) 59 72 := X_at (r := mi59) rfl rfl
theorem x59_75 {z : P0} : X z 59 75 = XI mT z (X z) (.invokevirtual 105, 3, 1, 53, 0, [68], 0, 0) 59 75 := X_at (r := mi59) rfl rfl
theorem x59_78 {z : P0} : X z 59 78 = XI mT z (X z) (.aload_n 0, 1, 0, 0, 0, [], 0, 0) 59 78 := X_at (r := mi59) rfl rfl
theorem x59_79 {z : P0} : X z 59 79 = XI mT z (X z) (.getfield 10, 3, 10, 0, 3, [86], 0, 0) 59 79 := X_at (r := mi59) rfl rfl
theorem x59_82 {z : P0} : X z 59 82 = XI mT z (X z) (.iload_n 1, 1, 1, 0, 0, [], 0, 0) 59 82 := X_at (r := mi59) rfl rfl
theorem x59_83 {z : P0} : X z 59 83 = XI mT z (X z) (.iconst 1, 1, 0, 0, 0, [], nI 1, 0) 59 83 := X_at (r := mi59) rfl rfl
theorem x59_84 {z : P0} : X z 59 84 = XI mT z (X z) (.iadd, 1, 0, 0, 0, [], 0, 0) 59 84 := X_at (r := mi59) rfl rfl
theorem x59_85 {z : P0} : X z 59 85 = XI mT z (X z) (.putfield 96, 3, 8, 3, 0, [95], 0, 0) 59 85 := X_at (r := mi59) rfl rfl
theorem x59_88 {z : P0} : X z 59 88 = XI mT z (X z) (.aload_n 0, 1, 0, 0, 0, [], 0, 0) 59 88 := X_at (r := mi59) rfl rfl
theorem x59_89 {z : P0} : X z 59 89 = XI mT z (X z) (.getfield 26, 3, 10, 2, 3, [88], 0, 0) 59 89 := X_at (r := mi59) rfl rfl
theorem x59_92 {z : P0} : X z 59 92 = XI mT z (X z) (.iconst 0, 1, 0, 0, 0, [], nI 0, 0) 59 92 := X_at (r := mi59) rfl rfl
theorem x59_93 {z : P0} : X z 59 93 = XI mT z (X z) (.putfield 91, 3, 0, 1, 0, [94], 0, 0) 59 93 := X_at (r := mi59) rfl rfl
theorem x59_96 {z : P0} : X z 59 96 = XI mT z (X z) (.iload_n 1, 1, 1, 0, 0, [], 0, 0) 59 96 := X_at (r := mi59) rfl rfl
theorem x59_97 {z : P0} : X z 59 97 = XI mT z (X z) (.ireturn, 1, 0, 0, 0, [], 0, 0) 59 97 := X_at (r := mi59) rfl rfl
theorem x60_0 {z : P0} : X z 60 0 = XI mT z (X z) (.aload_n 0, 1, 0, 0, 0, [], 0, 0) 60 0 := X_at (r := mi60) rfl rfl
theorem x60_1 {z : P0} : X z 60 1 = XI mT z (X z) (.getfield 26, 3, 10, 2, 3, [88], 0, 0) 60 1 := X_at (r := mi60) rfl rfl
theorem x60_4 {z : P0} : X z 60 4 = XI mT z (X z) (.iconst 2, 1, 0, 0, 0, [], nI 2, 0) 60 4 := X_at (r := mi60) rfl rfl
theorem x60_5 {z : P0} : X z 60 5 = XI mT z (X z) (.invokevirtual 63, 3, 1, 2, 0, [65], 0, 0) 60 5 := X_at (r := mi60) rfl rfl
theorem x60_8 {z : P0} : X z 60 8 = XI mT z (X z) (.ifCond .ne 13, 3, 21, 0, 0, [], 0, 0) 60 8 := X_at (r := mi60) rfl rfl
theorem x60_11 {z : P0} : X z 60 11 = XI mT z (X z) (.new 56, 3, 0, 0, 9, [386], 0, 0) 60 11 := X_at (r := mi60) rfl rfl
theorem x60_14 {z : P0} : X z 60 14 = XI mT z (X z) (.dup, 1, 0, 0, 0, [], 0, 0) 60 14 := X_at (r := mi60) rfl rfl
theorem x60_15 {z : P0} : X z 60 15 = XI mT z (X z) (.ldc 110, 2, 0, 0, 98, [], 0, 0) 60 15 := X_at (r := mi60) rfl rfl
theorem x60_17 {z : P0} : X z 60 17 = XI mT z (X z) (.invokespecial 60, 3, 0, 9999, 0, [], 0, 0) 60 17 := X_at (r := mi60) rfl rfl
theorem x60_20 {z : P0} : X z 60 20 = XI mT z (X z) (.athrow, 1, 0, 0, 0, [], 0, 0) 60 20 := X_at (r := mi60) rfl rfl
theorem x60_21 {z : P0} : X z 60 21 = XI mT z (X z) (.aload_n 0, 1, 0, 0, 0, [], 0, 0) 60 21 := X_at (r := mi60) rfl rfl
theorem x60_22 {z : P0} : X z 60 22 = XI mT z (X z) (.getfield 19, 3, 10, 1, 3, [87], 0, 0) 60 22 := X_at (r := mi60) rfl rfl
theorem x60_25 {z : P0} : X z 60 25 = XI mT z (X z) (.aload_n 0, 1, 0, 0, 0, [], 0, 0) 60 25 := X_at (r := mi60) rfl rfl
theorem x60_26 {z : P0} : X z 60 26 = XI mT z (X z) (.getfield 10, 3, 10, 0, 3, [86], 0, 0) 60 26 := X_at (r := mi60) rfl rfl
theorem x60_29 {z : P0} : X z 60 29 = XI mT z (X z) (.invokevirtual 77, 3, 1, 24, 0, [66], 0, 0) 60 29 := X_at (r := mi60) rfl rfl
theorem x60_32 {z : P0} : X z 60 32 = XI mT z (X z) (.aload_n 0, 1, 0, 0, 0, [], 0, 0) 60 32 := X_at (r := mi60) rfl rfl
theorem x60_33 {z : P0} : X z 60 33 = XI mT z (X z) (.getfield 10, 3, 10, 0, 3, [86], 0, 0) 60 33 := X_at (r := mi60) rfl rfl
theorem x60_36 {z : P0} : X z 60 36 = XI mT z (X z) (.getfield 112, 3, 8, 4, 3, [97], 0, 0) 60 36 := X_at (r := mi60) rfl rfl
theorem x60_39 {z : P0} : X z 60 39 = XI mT z (X z) (.aload_n 0, 1, 0, 0, 0, [], 0, 0) 60 39 := X_at (r := mi60) rfl rfl
theorem x60_40 {z : P0} : X z 60 40 = XI mT z (X z) (.getfield 26, 3, 10, 2, 3, [88], 0, 0) 60 40 := X_at (r := mi60) rfl rfl
theorem x60_43 {z : P0} : X z 60 43 = XI mT z (X z) (.getfield 116, 3, 0, 0, 3, [98], 0, 0) 60 43 := X_at (r := mi60) rfl rfl
theorem x60_46 {z : P0} : X z 60 46 = XI mT z (X z) (.aload_n 0, 1, 0, 0, 0, [], 0, 0) 60 46 := X_at (r := mi60) rfl rfl
theorem x60_47 {z : P0} : X z 60 47 = XI mT z (X z) (.getfield 26, 3, 10, 2, 3, [88], 0, 0) 60 47 := X_at (r := mi60) rfl rfl
theorem x60_50 {z : P0} : X z 60 50 = XI mT z (X z) (.getfield 91, 3, 0, 1, 0, [94], 0, 0) 60 50 := X_at (r := mi60) rfl rfl
theorem x60_53 {z : P0} : X z 60 53 = XI mT z (X z) (.invokevirtual 119, 3, 2, 28, 0, [69], 0, 0) 60 53 := X_at (r := mi60) rfl rfl
theorem x60_56 {z : P0} : X z 60 56 = XI mT z (X z) (.aload_n 0, 1, 0, 0, 0, [], 0, 0) 60 56 := X_at (r := mi60) rfl rfl
theorem x60_57 {z : P0} : X z 60 57 = XI mT z (X z) (.getfield 26, 3, 10, 2, 3, [88], 0, 0) 60 57 := X_at (r := mi60) rfl rfl
theorem x60_60 {z : P0} : X z 60 60 = XI mT z (X z) (.iconst 0, 1, 0, 0, 0, [], nI 0, 0) 60 60 := X_at (r := mi60) rfl rfl
theorem x60_61 {z : P0} : X z 60 61 = XI mT z (X z) (.putfield 91, 3, 0, 1, 0, [94], 0, 0) 60 61 := X_at (r := mi60) rfl rfl
theorem x60_64 {z : P0} : X z 60 64 = XI mT z (X z) (.aload_n 0, 1, 0, 0, 0, [], 0, 0) 60 64 := X_at (r := mi60) rfl rfl
theorem x60_65 {z : P0} : X z 60 65 = XI mT z (X z) (.getfield 10, 3, 10, 0, 3, [86], 0, 0) 60 65 := X_at (r := mi60) rfl rfl
theorem x60_68 {z : P0} : X z 60 68 = XI mT z (X z) (.getfield 112, 3, 8, 4, 3, [97], 0, 0) 60 68 := X_at (r := mi60) rfl rfl
theorem x60_71 {z : P0} : X z 60 71 = XI mT z (X z) (.invokevirtual 125, 3, 0, 29, 0, [70], 0, 0) 60 71 := X_at (r := mi60) rfl rfl
theorem x60_74 {z : P0} : X z 60 74 = XI mT z (X z) (.ireturn, 1, 0, 0, 0, [], 0, 0) 60 74 := X_at (r := mi60) rfl rfl
theorem x61_0 {z : P0} : X z 61 0 = XI mT z (X z) (.aload_n 0, 1, 0, 0, 0, [], 0, 0) 61 0 := X_at (r := mi61) rfl rfl
theorem x61_1 {z : P0} : X z 61 1 = XI mT z (X z) (.iload_n 1, 1, 1, 0, 0, [], 0, 0) 61 1 := X_at (r := mi61) rfl rfl
theorem x61_2 {z : P0} : X z 61 2 = XI mT z (X z) (.invokevirtual 129, 3, 1, 89, 0, [71], 0, 0) 61 2 := X_at (r := mi61) rfl rfl
theorem x61_5 {z : P0} : X z 61 5 = XI mT z (X z) (.ifCond .ne 13, 3, 18, 0, 0, [], 0, 0) 61 5 := X_at (r := mi61) rfl rfl
theorem x61_8 {z : P0} : X z 61 8 = XI mT z (X z) (.new 132, 3, 2, 0, 9, [585], 0, 0) 61 8 := X_at (r := mi61) rfl rfl
theorem x61_11 {z : P0} : X z 61 11 = XI mT z (X z) (.dup, 1, 0, 0, 0, [], 0, 0) 61 11 := X_at (r := mi61) rfl rfl
theorem x61_12 {z : P0} : X z 61 12 = XI mT z (X z) (.ldc 134, 2, 0, 0, 98, [], 0, 0) 61 12 := X_at (r := mi61) rfl rfl
theorem x61_14 {z : P0} : X z 61 14 = XI mT z (X z) (.invokespecial 136, 3, 0, 9999, 0, [], 0, 0) 61 14 := X_at (r := mi61) rfl rfl
theorem x61_17 {z : P0} : X z 61 17 = XI mT z (X z) (.athrow, 1, 0, 0, 0, [], 0, 0) 61 17 := X_at (r := mi61) rfl rfl
theorem x61_18 {z : P0} : X z 61 18 = XI mT z (X z) (.iload_n 2, 1, 2, 0, 0, [], 0, 0) 61 18 := X_at (r := mi61) rfl rfl
theorem x61_19 {z : P0} : X z 61 19 = XI mT z (X z) (.invokestatic 52, 3, 1, 85, 0, [64], 0, 0) 61 19 := X_at (r := mi61) rfl rfl
theorem x61_22 {z : P0} : X z 61 22 = XI mT z (X z) (.ifCond .ne 13, 3, 35, 0, 0, [], 0, 0) 61 22 := X_at (r := mi61) rfl rfl
theorem x61_25 {z : P0} : X z 61 25 = XI mT z (X z) (.new 56, 3, 0, 0, 9, [386], 0, 0) 61 25 := X_at (r := mi61) rfl rfl
theorem x61_28 {z : P0} : X z 61 28 = XI mT z (X z) (.dup, 1, 0, 0, 0, [], 0, 0) 61 28 := X_at (r := mi61) rfl rfl
theorem x61_29 {z : P0} : X z 61 29 = XI mT z (X z) (.ldc 137, 2, 0, 0, 98, [], 0, 0) 61 29 := X_at (r := mi61) rfl rfl
theorem x61_31 {z : P0} : X z 61 31 = XI mT z (X z) (.invokespecial 60, 3, 0, 9999, 0, [], 0, 0) 61 31 := X_at (r := mi61) rfl rfl
theorem x61_34 {z : P0} : X z 61 34 = XI mT z (X z) (.athrow, 1, 0, 0, 0, [], 0, 0) 61 34 := X_at (r := mi61) rfl rfl
theorem x61_35 {z : P0} : X z 61 35 = XI mT z (X z) (.aload_n 0, 1, 0, 0, 0, [], 0, 0) 61 35 := X_at (r := mi61) rfl rfl
theorem x61_36 {z : P0} : X z 61 36 = XI mT z (X z) (.getfield 19, 3, 10, 1, 3, [87], 0, 0) 61 36 := X_at (r := mi61) rfl rfl
theorem x61_39 {z : P0} : X z 61 39 = XI mT z (X z) (.aload_n 0, 1, 0, 0, 0, [], 0, 0) 61 39 := X_at (r := mi61) rfl rfl
theorem x61_40 {z : P0} : X z 61 40 = XI mT z (X z) (.getfield 10, 3, 10, 0, 3, [86], 0, 0) 61 40 := X_at (r := mi61) rfl rfl
theorem x61_43 {z : P0} : X z 61 43 = XI mT z (X z) (.invokevirtual 77, 3, 1, 24, 0, [66], 0, 0) 61 43 := X_at (r := mi61) rfl rfl
theorem x61_46 {z : P0} : X z 61 46 = XI mT z (X z) (.aload_n 0, 1, 0, 0, 0, [], 0, 0) 61 46 := X_at (r := mi61) rfl rfl
theorem x61_47 {z : P0} : X z 61 47 = XI mT z (X z) (.getfield 10, 3, 10, 0, 3, [86], 0, 0) 61 47 := X_at (r := mi61) rfl rfl
theorem x61_50 {z : P0} : X z 61 50 = XI mT z (X z) (.getfield 81, 3, 8, 0, 3, [93], 0, 0) 61 50 := X_at (r := mi61) rfl rfl
theorem x61_53 {z : P0} : X z 61 53 = XI mT z (X z) (.iload_n 1, 1, 1, 0, 0, [], 0, 0) 61 53 := X_at (r := mi61) rfl rfl
theorem x61_54 {z : P0} : X z 61 54 = XI mT z (X z) (.aaload, 1, 0, 0, 0, [], 0, 0) 61 54 := X_at (r := mi61) rfl rfl
theorem x61_55 {z : P0} : X z 61 55 = XI mT z (X z) (.getfield 139, 3, 7, 2, 0, [99], 0, 0) 61 55 := X_at (r := mi61) rfl rfl
theorem x61_58 {z : P0} : X z 61 58 = XI mT z (X z) (.istore_n 3, 1, 3, 0, 0, [], 0, 0) 61 58 := X_at (r := mi61) rfl rfl
theorem x61_59 {z : P0} : X z 61 59 = XI mT z (X z) (.aload_n 0, 1, 0, 0, 0, [], 0, 0) 61 59 := X_at (r := mi61) rfl rfl
theorem x61_60 {z : P0} : X z 61 60 = XI mT z (X z) (.getfield 10, 3, 10, 0, 3, [86], 0, 0) 61 60 := X_at (r := mi61) rfl rfl
theorem x61_63 {z : P0} : X z 61 63 = XI mT z (X z) (.getfield 81, 3, 8, 0, 3, [93], 0, 0) 61 63 := X_at (r := mi61) rfl rfl
theorem x61_66 {z : P0} : X z 61 66 = XI mT z (X z) (.iload_n 1, 1, 1, 0, 0, [], 0, 0) 61 66 := X_at (r := mi61) rfl rfl
theorem x61_67 {z : P0} : X z 61 67 = XI mT z (X z) (.aaload, 1, 0, 0, 0, [], 0, 0) 61 67 := X_at (r := mi61) rfl rfl
theorem x61_68 {z : P0} : X z 61 68 = XI mT z (X z) (.iload_n 2, 1, 2, 0, 0, [], 0, 0) 61 68 := X_at (r := mi61) rfl rfl
theorem x61_69 {z : P0} : X z 61 69 = XI mT z (X z) (.putfield 139, 3, 7, 2, 0, [99], 0, 0) 61 69 := X_at (r := mi61) rfl rfl
theorem x61_72 {z : P0} : X z 61 72 = XI mT z (X z) (.iload_n 3, 1, 3, 0, 0, [], 0, 0) 61 72 := X_at (r := mi61) rfl rfl
theorem x61_73 {z : P0} : X z 61 73 = XI mT z (X z) (.ireturn, 1, 0, 0, 0, [], 0, 0) 61 73 := X_at (r := mi61) rfl rfl
theorem x62_0 {z : P0} : X z 62 0 = XI mT z (X z) (.aload_n 0, 1, 0, 0, 0, [], 0, 0) 62 0 := X_at (r := mi62) rfl rfl
theorem x62_1 {z : P0} : X z 62 1 = XI mT z (X z) (.iload_n 1, 1, 1, 0, 0, [], 0, 0) 62 1 := X_at (r := mi62) rfl rfl
theorem x62_2 {z : P0} : X z 62 2 = XI mT z (X z) (.invokevirtual 129, 3, 1, 89, 0, [71], 0, 0) 62 2 := X_at (r := mi62) rfl rfl
theorem x62_5 {z : P0} : X z 62 5 = XI mT z (X z) (.ifCond .ne 13, 3, 18, 0, 0, [], 0, 0) 62 5 := X_at (r := mi62) rfl rfl
theorem x62_8 {z : P0} : X z 62 8 = XI mT z (X z) (.new 132, 3, 2, 0, 9, [585], 0, 0) 62 8 := X_at (r := mi62) rfl rfl
theorem x62_11 {z : P0} : X z 62 11 = XI mT z (X z) (.dup, 1, 0, 0, 0, [], 0, 0) 62 11 := X_at (r := mi62) rfl rfl
theorem x62_12 {z : P0} : X z 62 12 = XI mT z (X z) (.ldc 134, 2, 0, 0, 98, [], 0, 0) 62 12 := X_at (r := mi62) rfl rfl
theorem x62_14 {z : P0} : X z 62 14 = XI mT z (X z) (.invokespecial 136, 3, 0, 9999, 0, [], 0, 0) 62 14 := X_at (r := mi62) rfl rfl
theorem x62_17 {z : P0} : X z 62 17 = XI mT z (X z) (.athrow, 1, 0, 0, 0, [], 0, 0) 62 17 := X_at (r := mi62) rfl rfl
theorem x62_18 {z : P0} : X z 62 18 = XI mT z (X z) (.iload_n 2, 1, 2, 0, 0, [], 0, 0) 62 18 := X_at (r := mi62) rfl rfl
theorem x62_19 {z : P0} : X z 62 19 = XI mT z (X z) (.iconst (-1), 1, 0, 0, 0, [], (-1), 0) 62 19 := X_at (r := mi62) rfl rfl
theorem x62_20 {z : P0} : X z 62 20 = XI mT z (X z) (.if_icmp .eq 21, 3, 41, 0, 0, [], 0, 0) 62 20 := X_at (r := mi62) rfl rfl
theorem x62_23 {z : P0} : X z 62 23 = XI mT z (X z) (.aload_n 0, 1, 0, 0, 0, [], 0, 0) 62 23 := X_at (r := mi62) rfl rfl
theorem x62_24 {z : P0} : X z 62 24 = XI mT z (X z) (.iload_n 2, 1, 2, 0, 0, [], 0, 0) 62 24 := X_at (r := mi62) rfl rfl
theorem x62_25 {z : P0} : X z 62 25 = XI mT z (X z) (.invokevirtual 142, 3, 1, 90, 0, [72], 0, 0) 62 25 := X_at (r := mi62) rfl rfl
theorem x62_28 {z : P0} : X z 62 28 = XI mT z (X z) (.ifCond .ne 13, 3, 41, 0, 0, [], 0, 0) 62 28 := X_at (r := mi62) rfl rfl
theorem x62_31 {z : P0} : X z 62 31 = XI mT z (X z) (.new 132, 3, 2, 0, 9, [585], 0, 0) 62 31 := X_at (r := mi62) rfl rfl
theorem x62_34 {z : P0} : X z 62 34 = XI mT z (X z) (.dup, 1, 0, 0, 0, [], 0, 0) 62 34 := X_at (r := mi62) rfl rfl
theorem x62_35 {z : P0} : X z 62 35 = XI mT z (X z) (.ldc 145, 2, 0, 0, 98, [], 0, 0) 62 35 := X_at (r := mi62) rfl rfl
theorem x62_37 {z : P0} : X z 62 37 = XI mT z (X z) (.invokespecial 136, 3, 0, 9999, 0, [], 0, 0) 62 37 := X_at (r := mi62) rfl rfl
theorem x62_40 {z : P0} : X z 62 40 = XI mT z (X z) (.athrow, 1, 0, 0, 0, [], 0, 0) 62 40 := X_at (r := mi62) rfl rfl
theorem x62_41 {z : P0} : X z 62 41 = XI mT z (X z) (.aload_n 0, 1, 0, 0, 0, [], 0, 0) 62 41 := X_at (r := mi62) rfl rfl
theorem x62_42 {z : P0} : X z 62 42 = XI mT z (X z) (.getfield 19, 3, 10, 1, 3, [87], 0, 0) 62 42 := X_at (r := mi62) rfl rfl
theorem x62_45 {z : P0} : X z 62 45 = XI mT z (X z) (.aload_n 0, 1, 0, 0, 0, [], 0, 0) 62 45 := X_at (r := mi62) rfl rfl
theorem x62_46 {z : P0} : X z 62 46 = XI mT z (X z) (.getfield 10, 3, 10, 0, 3, [86], 0, 0) 62 46 := X_at (r := mi62) rfl rfl
theorem x62_49 {z : P0} : X z 62 49 = XI mT z (X z) (.invokevirtual 77, 3, 1, 24, 0, [66], 0, 0) 62 49 := X_at (r := mi62) rfl rfl
theorem x62_52 {z : P0} : X z 62 52 = XI mT z (X z) (.aload_n 0, 1, 0, 0, 0, [], 0, 0) 62 52 := X_at (r := mi62) rfl rfl
theorem x62_53 {z : P0} : X z 62 53 = XI mT z (X z) (.getfield 10, 3, 10, 0, 3, [86], 0, 0) 62 53 := X_at (r := mi62) rfl rfl
theorem x62_56 {z : P0} : X z 62 56 = XI mT z (X z) (.getfield 81, 3, 8, 0, 3, [93], 0, 0) 62 56 := X_at (r := mi62) rfl rfl
theorem x62_59 {z : P0} : X z 62 59 = XI mT z (X z) (.iload_n 1, 1, 1, 0, 0, [], 0, 0) 62 59 := X_at (r := mi62) rfl rfl
theorem x62_60 {z : P0} : X z 62 60 = XI mT z (X z) (.aaload, 1, 0, 0, 0, [], 0, 0) 62 60 := X_at (r := mi62) rfl rfl
theorem x62_61 {z : P0} : X z 62 61 = XI mT z (X z) (.getfield 147, 3, 7, 4, 0, [100], 0, 0) 62 61 := X_at (r := mi62) rfl rfl
theorem x62_64 {z : P0} : X z 62 64 = XI mT z (X z) (.istore_n 3, 1, 3, 0, 0, [], 0, 0) 62 64 := X_at (r := mi62) rfl rfl
theorem x62_65 {z : P0} : X z 62 65 = XI mT z (X z) (.aload_n 0, 1, 0, 0, 0, [], 0, 0) 62 65 := X_at (r := mi62) rfl rfl
theorem x62_66 {z : P0} : X z 62 66 = XI mT z (X z) (.getfield 10, 3, 10, 0, 3, [86], 0, 0) 62 66 := X_at (r := mi62) rfl rfl
theorem x62_69 {z : P0} : X z 62 69 = XI mT z (X z) (.getfield 81, 3, 8, 0, 3, [93], 0, 0) 62 69 := X_at (r := mi62) rfl rfl
theorem x62_72 {z : P0} : X z 62 72 = XI mT z (X z) (.iload_n 1, 1, 1, 0, 0, [], 0, 0) 62 72 := X_at (r := mi62) rfl rfl
theorem x62_73 {z : P0} : X z 62 73 = XI mT z (X z) (.aaload, 1, 0, 0, 0, [], 0, 0) 62 73 := X_at (r := mi62) rfl rfl
theorem x62_74 {z : P0} : X z 62 74 = XI mT z (X z) (.iload_n 2, 1, 2, 0, 0, [], 0, 0) 62 74 := X_at (r := mi62) rfl rfl
theorem x62_75 {z : P0} : X z 62 75 = XI mT z (X z) (.putfield 147, 3, 7, 4, 0, [100], 0, 0) 62 75 := X_at (r := mi62) rfl rfl
theorem x62_78 {z : P0} : X z 62 78 = XI mT z (X z) (.iload_n 3, 1, 3, 0, 0, [], 0, 0) 62 78 := X_at (r := mi62) rfl rfl
theorem x62_79 {z : P0} : X z 62 79 = XI mT z (X z) (.ireturn, 1, 0, 0, 0, [], 0, 0) 62 79 := X_at (r := mi62) rfl rfl
theorem x63_0 {z : P0} : X z 63 0 = XI mT z (X z) (.aload_n 0, 1, 0, 0, 0, [], 0, 0) 63 0 := X_at (r := mi63) rfl rfl
theorem x63_1 {z : P0} : X z 63 1 = XI mT z (X z) (.iload_n 1, 1, 1, 0, 0, [], 0, 0) 63 1 := X_at (r := mi63) rfl rfl
theorem x63_2 {z : P0} : X z 63 2 = XI mT z (X z) (.invokevirtual 129, 3, 1, 89, 0, [71], 0, 0) 63 2 := X_at (r := mi63) rfl rfl
theorem x63_5 {z : P0} : X z 63 5 = XI mT z (X z) (.ifCond .ne 13, 3, 18, 0, 0, [], 0, 0) 63 5 := X_at (r := mi63) rfl rfl
theorem x63_8 {z : P0} : X z 63 8 = XI mT z (X z) (.new 132, 3, 2, 0, 9, [585], 0, 0) 63 8 := X_at (r := mi63) rfl rfl
theorem x63_11 {z : P0} : X z 63 11 = XI mT z (X z) (.dup, 1, 0, 0, 0, [], 0, 0) 63 11 := X_at (r := mi63) rfl rfl
theorem x63_12 {z : P0} : X z 63 12 = XI mT z (X z) (.ldc 134, 2, 0, 0, 98, [], 0, 0) 63 12 := X_at (r := mi63) rfl rfl
theorem x63_14 {z : P0} : X z 63 14 = XI mT z (X z) (.invokespecial 136, 3, 0, 9999, 0, [], 0, 0) 63 14 := X_at (r := mi63) rfl rfl
theorem x63_17 {z : P0} : X z 63 17 = XI mT z (X z) (.athrow, 1, 0, 0, 0, [], 0, 0) 63 17 := X_at (r := mi63) rfl rfl
theorem x63_18 {z : P0} : X z 63 18 = XI mT z (X z) (.aload_n 0, 1, 0, 0, 0, [], 0, 0) 63 18 := X_at (r := mi63) rfl rfl
theorem x63_19 {z : P0} : X z 63 19 = XI mT z (X z) (.getfield 19, 3, 10, 1, 3, [87], 0, 0) 63 19 := X_at (r := mi63) rfl rfl
theorem x63_22 {z : P0} : X z 63 22 = XI mT z (X z) (.aload_n 0, 1, 0, 0, 0, [], 0, 0) 63 22 := X_at (r := mi63) rfl rfl
theorem x63_23 {z : P0} : X z 63 23 = XI mT z (X z) (.getfield 10, 3, 10, 0, 3, [86], 0, 0) 63 23 := X_at (r := mi63) rfl rfl
theorem x63_26 {z : P0} : X z 63 26 = XI mT z (X z) (.invokevirtual 77, 3, 1, 24, 0, [66], 0, 0) 63 26 := X_at (r := mi63) rfl rfl
theorem x63_29 {z : P0} : X z 63 29 = XI mT z (X z) (.aload_n 0, 1, 0, 0, 0, [], 0, 0) 63 29 := X_at (r := mi63) rfl rfl
theorem x63_30 {z : P0} : X z 63 30 = XI mT z (X z) (.getfield 10, 3, 10, 0, 3, [86], 0, 0) 63 30 := X_at (r := mi63) rfl rfl
theorem x63_33 {z : P0} : X z 63 33 = XI mT z (X z) (.getfield 81, 3, 8, 0, 3, [93], 0, 0) 63 33 := X_at (r := mi63) rfl rfl
theorem x63_36 {z : P0} : X z 63 36 = XI mT z (X z) (.iload_n 1, 1, 1, 0, 0, [], 0, 0) 63 36 := X_at (r := mi63) rfl rfl
theorem x63_37 {z : P0} : X z 63 37 = XI mT z (X z) (.aaload, 1, 0, 0, 0, [], 0, 0) 63 37 := X_at (r := mi63) rfl rfl
theorem x63_38 {z : P0} : X z 63 38 = XI mT z (X z) (.iload_n 2, 1, 2, 0, 0, [], 0, 0) 63 38 := X_at (r := mi63) rfl rfl
theorem x63_39 {z : P0} : X z 63 39 = XI mT z (X z) (.putfield 150, 3, 7, 5, 1, [101], 0, 0) 63 39 := X_at (r := mi63) rfl rfl
theorem x63_42 {z : P0} : X z 63 42 = XI mT z (X z) (.aload_n 0, 1, 0, 0, 0, [], 0, 0) 63 42 := X_at (r := mi63) rfl rfl
theorem x63_43 {z : P0} : X z 63 43 = XI mT z (X z) (.getfield 10, 3, 10, 0, 3, [86], 0, 0) 63 43 := X_at (r := mi63) rfl rfl
theorem x63_46 {z : P0} : X z 63 46 = XI mT z (X z) (.invokevirtual 154, 3, 0, 50, 0, [73], 0, 0) 63 46 := X_at (r := mi63) rfl rfl
theorem x63_49 {z : P0} : X z 63 49 = XI mT z (X z) (.ireturn, 1, 0, 0, 0, [], 0, 0) 63 49 := X_at (r := mi63) rfl rfl
theorem x64_0 {z : P0} : X z 64 0 = XI mT z (X z) (.iload_n 1, 1, 1, 0, 0, [], 0, 0) 64 0 := X_at (r := mi64) rfl rfl
theorem x64_1 {z : P0} : X z 64 1 = XI mT z (X z) (.invokestatic 157, 3, 1, 86, 0, [74], 0, 0) 64 1 := X_at (r := mi64) rfl rfl
theorem x64_4 {z : P0} : X z 64 4 = XI mT z (X z) (.ifCond .ne 13, 3, 17, 0, 0, [], 0, 0) 64 4 := X_at (r := mi64) rfl rfl
theorem x64_7 {z : P0} : X z 64 7 = XI mT z (X z) (.new 132, 3, 2, 0, 9, [585], 0, 0) 64 7 := X_at (r := mi64) rfl rfl
theorem x64_10 {z : P0} : X z 64 10 = XI mT z (X z) (.dup, 1, 0, 0, 0, [], 0, 0) 64 10 := X_at (r := mi64) rfl rfl
theorem x64_11 {z : P0} : X z 64 11 = XI mT z (X z) (.ldc 160, 2, 0, 0, 98, [], 0, 0) 64 11 := X_at (r := mi64) rfl rfl
theorem x64_13 {z : P0} : X z 64 13 = XI mT z (X z) (.invokespecial 136, 3, 0, 9999, 0, [], 0, 0) 64 13 := X_at (r := mi64) rfl rfl
theorem x64_16 {z : P0} : X z 64 16 = XI mT z (X z) (.athrow, 1, 0, 0, 0, [], 0, 0) 64 16 := X_at (r := mi64) rfl rfl
theorem x64_17 {z : P0} : X z 64 17 = XI mT z (X z) (.iload_n 1, 1, 1, 0, 0, [], 0, 0) 64 17 := X_at (r := mi64) rfl rfl
theorem x64_18 {z : P0} : X z 64 18 = XI mT z (X z) (.iload_n 2, 1, 2, 0, 0, [], 0, 0) 64 18 := X_at (r := mi64) rfl rfl
theorem x64_19 {z : P0} : X z 64 19 = XI mT z (X z) (.invokestatic 162, 3, 2, 87, 0, [75], 0, 0) 64 19 := X_at (r := mi64) rfl rfl
theorem x64_22 {z : P0} : X z 64 22 = XI mT z (X z) (.ifCond .ne 13, 3, 35, 0, 0, [], 0, 0) 64 22 := X_at (r := mi64) rfl rfl
theorem x64_25 {z : P0} : X z 64 25 = XI mT z (X z) (.new 56, 3, 0, 0, 9, [386], 0, 0) 64 25 := X_at (r := mi64) rfl rfl
theorem x64_28 {z : P0} : X z 64 28 = XI mT z (X z) (.dup, 1, 0, 0, 0, [], 0, 0) 64 28 := X_at (r := mi64) rfl rfl
theorem x64_29 {z : P0} : X z 64 29 = XI mT z (X z) (.ldc 166, 2, 0, 0, 98, [], 0, 0) 64 29 := X_at (r := mi64) rfl rfl
theorem x64_31 {z : P0} : X z 64 31 = XI mT z (X z) (.invokespecial 60, 3, 0, 9999, 0, [], 0, 0) 64 31 := X_at (r := mi64) rfl rfl
theorem x64_34 {z : P0} : X z 64 34 = XI mT z (X z) (.athrow, 1, 0, 0, 0, [], 0, 0) 64 34 := X_at (r := mi64) rfl rfl
theorem x64_35 {z : P0} : X z 64 35 = XI mT z (X z) (.aload_n 0, 1, 0, 0, 0, [], 0, 0) 64 35 := X_at (r := mi64) rfl rfl
theorem x64_36 {z : P0} : X z 64 36 = XI mT z (X z) (.getfield 19, 3, 10, 1, 3, [87], 0, 0) 64 36 := X_at (r := mi64) rfl rfl
theorem x64_39 {z : P0} : X z 64 39 = XI mT z (X z) (.aload_n 0, 1, 0, 0, 0, [], 0, 0) 64 39 := X_at (r := mi64) rfl rfl
theorem x64_40 {z : P0} : X z 64 40 = XI mT z (X z) (.getfield 10, 3, 10, 0, 3, [86], 0, 0) 64 40 := X_at (r := mi64) rfl rfl
theorem x64_43 {z : P0} : X z 64 43 = XI mT z (X z) (.invokevirtual 77, 3, 1, 24, 0, [66], 0, 0) 64 43 := X_at (r := mi64) rfl rfl
theorem x64_46 {z : P0} : X z 64 46 = XI mT z (X z) (.aload_n 0, 1, 0, 0, 0, [], 0, 0) 64 46 := X_at (r := mi64) rfl rfl
theorem x64_47 {z : P0} : X z 64 47 = XI mT z (X z) (.getfield 10, 3, 10, 0, 3, [86], 0, 0) 64 47 := X_at (r := mi64) rfl rfl
theorem x64_50 {z : P0} : X z 64 50 = XI mT z (X z) (.getfield 168, 3, 8, 5, 3, [102], 0, 0) 64 50 := X_at (r := mi64) rfl rfl
theorem x64_53 {z : P0} : X z 64 53 = XI mT z (X z) (.iload_n 1, 1, 1, 0, 0, [], 0, 0) 64 53 := X_at (r := mi64) rfl rfl
theorem x64_54 {z : P0} : X z 64 54 = XI mT z (X z) (.iaload, 1, 0, 0, 0, [], 0, 0) 64 54 := X_at (r := mi64) rfl rfl
theorem x64_55 {z : P0} : X z 64 55 = XI mT z (X z) (.istore_n 3, 1, 3, 0, 0, [], 0, 0) 64 55 := X_at (r := mi64) rfl rfl
theorem x64_56 {z : P0} : X z 64 56 = XI mT z (X z) (.aload_n 0, 1, 0, 0, 0, [], 0, 0) 64 56 := X_at (r := mi64) rfl rfl
theorem x64_57 {z : P0} : X z 64 57 = XI mT z (X z) (.getfield 10, 3, 10, 0, 3, [86], 0, 0) 64 57 := X_at (r := mi64) rfl rfl
theorem x64_60 {z : P0} : X z 64 60 = XI mT z (X z) (.getfield 168, 3, 8, 5, 3, [102], 0, 0) 64 60 := X_at (r := mi64) rfl rfl
theorem x64_63 {z : P0} : X z 64 63 = XI mT z (X z) (.iload_n 1, 1, 1, 0, 0, [], 0, 0) 64 63 := X_at (r := mi64) rfl rfl
theorem x64_64 {z : P0} : X z 64 64 = XI mT z (X z) (.iload_n 2, 1, 2, 0, 0, [], 0, 0) 64 64 := X_at (r := mi64) rfl rfl
theorem x64_65 {z : P0} : X z 64 65 = XI mT z (X z) (.iastore, 1, 0, 0, 0, [], 0, 0) 64 65 := X_at (r := mi64) rfl rfl
theorem x64_66 {z : P0} : X z 64 66 = XI mT z (X z) (.iload_n 3, 1, 3, 0, 0, [], 0, 0) 64 66 := X_at (r := mi64) rfl rfl
theorem x64_67 {z : P0} : X z 64 67 = XI mT z (X z) (.ireturn, 1, 0, 0, 0, [], 0, 0) 64 67 := X_at (r := mi64) rfl rfl
theorem x65_0 {z : P0} : X z 65 0 = XI mT z (X z) (.aload_n 0, 1, 0, 0, 0, [], 0, 0) 65 0 := X_at (r := mi65) rfl rfl
theorem x65_1 {z : P0} : X z 65 1 = XI mT z (X z) (.getfield 10, 3, 10, 0, 3, [86], 0, 0) 65 1 := X_at (r := mi65) rfl rfl
theorem x65_4 {z : P0} : X z 65 4 = XI mT z (X z) (.getfield 112, 3, 8, 4, 3, [97], 0, 0) 65 4 := X_at (r := mi65) rfl rfl
theorem x65_7 {z : P0} : X z 65 7 = XI mT z (X z) (.getfield 171, 3, 4, 1, 0, [103], 0, 0) 65 7 := X_at (r := mi65) rfl rfl
theorem x65_10 {z : P0} : X z 65 10 = XI mT z (X z) (.ifCond .ne 13, 3, 23, 0, 0, [], 0, 0) 65 10 := X_at (r := mi65) rfl rfl
theorem x65_13 {z : P0} : X z 65 13 = XI mT z (X z) (.new 72, 3, 1, 0, 9, [454], 0, 0) 65 13 := X_at (r := mi65) rfl rfl
theorem x65_16 {z : P0} : X z 65 16 = XI mT z (X z) (.dup, 1, 0, 0, 0, [], 0, 0) 65 16 := X_at (r := mi65) rfl rfl
theorem x65_17 {z : P0} : X z 65 17 = XI mT z (X z) (.ldc 172, 2, 0, 0, 98, [], 0, 0) 65 17 := X_at (r := mi65) rfl rfl
theorem x65_19 {z : P0} : X z 65 19 = XI mT z (X z) (.invokespecial 76, 3, 0, 9999, 0, [], 0, 0) 65 19 := X_at (r := mi65) rfl rfl
theorem x65_22 {z : P0} : X z 65 22 = XI mT z (X z) (.athrow, 1, 0, 0, 0, [], 0, 0) 65 22 := X_at (r := mi65) rfl rfl
theorem x65_23 {z : P0} : X z 65 23 = XI mT z (X z) (.aload_n 0, 1, 0, 0, 0, [], 0, 0) 65 23 := X_at (r := mi65) rfl rfl
theorem x65_24 {z : P0} : X z 65 24 = XI mT z (X z) (.getfield 41, 3, 10, 3, 3, [89], 0, 0) 65 24 := X_at (r := mi65) rfl rfl
theorem x65_27 {z : P0} : X z 65 27 = XI mT z (X z) (.aload_n 0, 1, 0, 0, 0, [], 0, 0) 65 27 := X_at (r := mi65) rfl rfl
theorem x65_28 {z : P0} : X z 65 28 = XI mT z (X z) (.getfield 10, 3, 10, 0, 3, [86], 0, 0) 65 28 := X_at (r := mi65) rfl rfl
theorem x65_31 {z : P0} : X z 65 31 = XI mT z (X z) (.aload_n 0, 1, 0, 0, 0, [], 0, 0) 65 31 := X_at (r := mi65) rfl rfl
theorem x65_32 {z : P0} : X z 65 32 = XI mT z (X z) (.getfield 10, 3, 10, 0, 3, [86], 0, 0) 65 32 := X_at (r := mi65) rfl rfl
theorem x65_35 {z : P0} : X z 65 35 = XI mT z (X z) (.getfield 168, 3, 8, 5, 3, [102], 0, 0) 65 35 := X_at (r := mi65) rfl rfl
theorem x65_38 {z : P0} : X z 65 38 = XI mT z (X z) (.invokevirtual 174, 3, 2, 38, 0, [76], 0, 0) 65 38 := X_at (r := mi65) rfl rfl
theorem x65_41 {z : P0} : X z 65 41 = XI mT z (X z) (.aload_n 0, 1, 0, 0, 0, [], 0, 0) 65 41 := X_at (r := mi65) rfl rfl
theorem x65_42 {z : P0} : X z 65 42 = XI mT z (X z) (.getfield 41, 3, 10, 3, 3, [89], 0, 0) 65 42 := X_at (r := mi65) rfl rfl
theorem x65_45 {z : P0} : X z 65 45 = XI mT z (X z) (.getfield 178, 3, 6, 8, 0, [104], 0, 0) 65 45 := X_at (r := mi65) rfl rfl
theorem x65_48 {z : P0} : X z 65 48 = XI mT z (X z) (.ifCond .ne 13, 3, 61, 0, 0, [], 0, 0) 65 48 := X_at (r := mi65) rfl rfl
theorem x65_51 {z : P0} : X z 65 51 = XI mT z (X z) (.new 72, 3, 1, 0, 9, [454], 0, 0) 65 51 := X_at (r := mi65) rfl rfl
theorem x65_54 {z : P0} : X z 65 54 = XI mT z (X z) (.dup, 1, 0, 0, 0, [], 0, 0) 65 54 := X_at (r := mi65) rfl rfl
theorem x65_55 {z : P0} : X z 65 55 = XI mT z (X z) (.ldc 181, 2, 0, 0, 98, [], 0, 0) 65 55 := X_at (r := mi65) rfl rfl
theorem x65_57 {z : P0} : X z 65 57 = XI mT z (X z) (.invokespecial 76, 3, 0, 9999, 0, [], 0, 0) 65 57 := X_at (r := mi65) rfl rfl
theorem x65_60 {z : P0} : X z 65 60 = XI mT z (X z) (.athrow, 1, 0, 0, 0, [], 0, 0) 65 60 := X_at (r := mi65) rfl rfl
theorem x65_61 {z : P0} : X z 65 61 = XI mT z (X z) (.aload_n 0, 1, 0, 0, 0, [], 0, 0) 65 61 := X_at (r := mi65) rfl rfl
theorem x65_62 {z : P0} : X z 65 62 = XI mT z (X z) (.getfield 19, 3, 10, 1, 3, [87], 0, 0) 65 62 := X_at (r := mi65) rfl rfl
theorem x65_65 {z : P0} : X z 65 65 = XI mT z (X z) (.aload_n 0, 1, 0, 0, 0, [], 0, 0) 65 65 := X_at (r := mi65) rfl rfl
theorem x65_66 {z : P0} : X z 65 66 = XI mT z (X z) (.getfield 10, 3, 10, 0, 3, [86], 0, 0) 65 66 := X_at (r := mi65) rfl rfl
theorem x65_69 {z : P0} : X z 65 69 = XI mT z (X z) (.invokevirtual 77, 3, 1, 24, 0, [66], 0, 0) 65 69 := X_at (r := mi65) rfl rfl
theorem x65_72 {z : P0} : X z 65 72 = XI mT z (X z) (.iconst 0, 1, 0, 0, 0, [], nI 0, 0) 65 72 := X_at (r := mi65) rfl rfl
theorem x65_73 {z : P0} : X z 65 73 = XI mT z (X z) (.istore_n 1, 1, 1, 0, 0, [], 0, 0) 65 73 := X_at (r := mi65) rfl rfl
theorem x65_74 {z : P0} : X z 65 74 = XI mT z (X z) (.iload_n 1, 1, 1, 0, 0, [], 0, 0) 65 74 := X_at (r := mi65) rfl rfl
theorem x65_75 {z : P0} : X z 65 75 = XI mT z (X z) (.aload_n 0, 1, 0, 0, 0, [], 0, 0) 65 75 := X_at (r := mi65) rfl rfl
theorem x65_76 {z : P0} : X z 65 76 = XI mT z (X z) (.getfield 10, 3, 10, 0, 3, [86], 0, 0) 65 76 := X_at (r := mi65) rfl rfl
theorem x65_79 {z : P0} : X z 65 79 = XI mT z (X z) (.getfield 68, 3, 8, 1, 0, [92], 0, 0) 65 79 := X_at (r := mi65) rfl rfl
theorem x65_82 {z : P0} : X z 65 82 = XI mT z (X z) (.if_icmp .ge 58, 3, 140, 0, 0, [], 0, 0) 65 82 := X_at (r := mi65) rfl rfl
theorem x65_85 {z : P0} : X z 65 85 = XI mT z (X z) (.aload_n 0, 1, 0, 0, 0, [], 0, 0) 65 85 := X_at (r := mi65) rfl rfl
theorem x65_86 {z : P0} : X z 65 86 = XI mT z (X z) (.getfield 41, 3, 10, 3, 3, [89], 0, 0) 65 86 := X_at (r := mi65) rfl rfl
theorem x65_89 {z : P0} : X z 65 89 = XI mT z (X z) (.getfield 183, 3, 6, 2, 3, [105], 0, 0) 65 89 := X_at (r := mi65) rfl rfl
theorem x65_92 {z : P0} : X z 65 92 = XI mT z (X z) (.iload_n 1, 1, 1, 0, 0, [], 0, 0) 65 92 := X_at (r := mi65) rfl rfl
theorem x65_93 {z : P0} : X z 65 93 = XI mT z (X z) (.iaload, 1, 0, 0, 0, [], 0, 0) 65 93 := X_at (r := mi65) rfl rfl
theorem x65_94 {z : P0} : X z 65 94 = XI mT z (X z) (.ifCond .ne 40, 3, 134, 0, 0, [], 0, 0) 65 94 := X_at (r := mi65) rfl rfl
theorem x65_97 {z : P0} : X z 65 97 = XI mT z (X z) (.aload_n 0, 1, 0, 0, 0, [], 0, 0) 65 97 := X_at (r := mi65) rfl rfl
theorem x65_98 {z : P0} : X z 65 98 = XI mT z (X z) (.getfield 10, 3, 10, 0, 3, [86], 0, 0) 65 98 := X_at (r := mi65) rfl rfl
theorem x65_101 {z : P0} : X z 65 101 = XI mT z (X z) (.getfield 81, 3, 8, 0, 3, [93], 0, 0) 65 101 := X_at (r := mi65) rfl rfl
theorem x65_104 {z : P0} : X z 65 104 = XI mT z (X z) (.iload_n 1, 1, 1, 0, 0, [], 0, 0) 65 104 := X_at (r := mi65) rfl rfl
theorem x65_105 {z : P0} : X z 65 105 = XI mT z (X z) (.aaload, 1, 0, 0, 0, [], 0, 0) 65 105 := X_at (r := mi65) rfl rfl
theorem x65_106 {z : P0} : X z 65 106 = XI mT z (X z) (.aload_n 0, 1, 0, 0, 0, [], 0, 0) 65 106 := X_at (r := mi65) rfl rfl
theorem x65_107 {z : P0} : X z 65 107 = XI mT z (X z) (.getfield 10, 3, 10, 0, 3, [86], 0, 0) 65 107 := X_at (r := mi65) rfl rfl
theorem x65_110 {z : P0} : X z 65 110 = XI mT z (X z) (.getfield 186, 3, 8, 6, 0, [106], 0, 0) 65 110 := X_at (r := mi65) rfl rfl
theorem x65_113 {z : P0} : X z 65 113 = XI mT z (X z) (.putfield 189, 3, 7, 6, 0, [107], 0, 0) 65 113 := X_at (r := mi65) rfl rfl
theorem x65_116 {z : P0} : X z 65 116 = XI mT z (X z) (.aload_n 0, 1, 0, 0, 0, [], 0, 0) 65 116 := X_at (r := mi65) rfl rfl
theorem x65_117 {z : P0} : X z 65 117 = XI mT z (X z) (.getfield 10, 3, 10, 0, 3, [86], 0, 0) 65 117 := X_at (r := mi65) rfl rfl
theorem x65_120 {z : P0} : X z 65 120 = XI mT z (X z) (.getfield 81, 3, 8, 0, 3, [93], 0, 0) 65 120 := X_at (r := mi65) rfl rfl
theorem x65_123 {z : P0} : X z 65 123 = XI mT z (X z) (.iload_n 1, 1, 1, 0, 0, [], 0, 0) 65 123 := X_at (r := mi65) rfl rfl
theorem x65_124 {z : P0} : X z 65 124 = XI mT z (X z) (.aaload, 1, 0, 0, 0, [], 0, 0) 65 124 := X_at (r := mi65) rfl rfl
theorem x65_125 {z : P0} : X z 65 125 = XI mT z (X z) (.dup, 1, 0, 0, 0, [], 0, 0) 65 125 := X_at (r := mi65) rfl rfl
theorem x65_126 {z : P0} : X z 65 126 = XI mT z (X z) (.getfield 192, 3, 7, 7, 0, [108], 0, 0) 65 126 := X_at (r := mi65) rfl rfl
theorem x65_129 {z : P0} : X z 65 129 = XI mT z (X z) (.iconst 1, 1, 0, 0, 0, [], nI 1, 0) 65 129 := X_at (r := mi65) rfl rfl
theorem x65_130 {z : P0} : X z 65 130 = XI mT z (X z) (.iadd, 1, 0, 0, 0, [], 0, 0) 65 130 := X_at (r := mi65) rfl rfl
theorem x65_131 {z : P0} : X z 65 131 = XI mT z (X z) (.putfield 192, 3, 7, 7, 0, [108], 0, 0) 65 131 := X_at (r := mi65) rfl rfl
theorem x65_134 {z : P0} : X z 65 134 = XI mT z (X z) (.iinc 1 1, 3, 1, 0, 0, [], nI 1, 0) 65 134 := X_at (r := mi65) rfl rfl
theorem x65_137 {z : P0} : X z 65 137 = XI mT z (X z) (.goto (-63), 3, 74, 0, 0, [], 0, 0) 65 137 := X_at (r := mi65) rfl rfl
theorem x65_140 {z : P0} : X z 65 140 = XI mT z (X z) (.aload_n 0, 1, 0, 0, 0, [], 0, 0) 65 140 := X_at (r := mi65) rfl rfl
theorem x65_141 {z : P0} : X z 65 141 = XI mT z (X z) (.getfield 10, 3, 10, 0, 3, [86], 0, 0) 65 141 := X_at (r := mi65) rfl rfl
theorem x65_144 {z : P0} : X z 65 144 = XI mT z (X z) (.dup, 1, 0, 0, 0, [], 0, 0) 65 144 := X_at (r := mi65) rfl rfl
theorem x65_145 {z : P0} : X z 65 145 = XI mT z (X z) (.getfield 195, 3, 8, 7, 0, [109], 0, 0) 65 145 := X_at (r := mi65) rfl rfl
theorem x65_148 {z : P0} : X z 65 148 = XI mT z (X z) (.aload_n 0, 1, 0, 0, 0, [], 0, 0) 65 148 := X_at (r := mi65) rfl rfl
theorem x65_149 {z : P0} : X z 65 149 = XI mT z (X z) (.getfield 41, 3, 10, 3, 3, [89], 0, 0) 65 149 := X_at (r := mi65) rfl rfl
theorem x65_152 {z : P0} : X z 65 152 = XI mT z (X z) (.getfield 178, 3, 6, 8, 0, [104], 0, 0) 65 152 := X_at (r := mi65) rfl rfl
theorem x65_155 {z : P0} : X z 65 155 = XI mT z (X z) (.iadd, 1, 0, 0, 0, [], 0, 0) 65 155 := X_at (r := mi65) rfl rfl
theorem x65_156 {z : P0} : X z 65 156 = XI mT z (X z) (.putfield 195, 3, 8, 7, 0, [109], 0, 0) 65 156 := X_at (r := mi65) rfl rfl
theorem x65_159 {z : P0} : X z 65 159 = XI mT z (X z) (.aload_n 0, 1, 0, 0, 0, [], 0, 0) 65 159 := X_at (r := mi65) rfl rfl
theorem x65_160 {z : P0} : X z 65 160 = XI mT z (X z) (.getfield 10, 3, 10, 0, 3, [86], 0, 0) 65 160 := X_at (r := mi65) rfl rfl
theorem x65_163 {z : P0} : X z 65 163 = XI mT z (X z) (.dup, 1, 0, 0, 0, [], 0, 0) 65 163 := X_at (r := mi65) rfl rfl
theorem x65_164 {z : P0} : X z 65 164 = XI mT z (X z) (.getfield 198, 3, 8, 8, 0, [110], 0, 0) 65 164 := X_at (r := mi65) rfl rfl
theorem x65_167 {z : P0} : X z 65 167 = XI mT z (X z) (.aload_n 0, 1, 0, 0, 0, [], 0, 0) 65 167 := X_at (r := mi65) rfl rfl
theorem x65_168 {z : P0} : X z 65 168 = XI mT z (X z) (.getfield 41, 3, 10, 3, 3, [89], 0, 0) 65 168 := X_at (r := mi65) rfl rfl
theorem x65_171 {z : P0} : X z 65 171 = XI mT z (X z) (.getfield 201, 3, 6, 10, 0, [111], 0, 0) 65 171 := X_at (r := mi65) rfl rfl
theorem x65_174 {z : P0} : X z 65 174 = XI mT z (X z) (.iadd, 1, 0, 0, 0, [], 0, 0) 65 174 := X_at (r := mi65) rfl rfl
theorem x65_175 {z : P0} : X z 65 175 = XI mT z (X z) (.putfield 198, 3, 8, 8, 0, [110], 0, 0) 65 175 := X_at (r := mi65) rfl rfl
theorem x65_178 {z : P0} : X z 65 178 = XI mT z (X z) (.aload_n 0, 1, 0, 0, 0, [], 0, 0) 65 178 := X_at (r := mi65) rfl rfl
theorem x65_179 {z : P0} : X z 65 179 = XI mT z (X z) (.getfield 10, 3, 10, 0, 3, [86], 0, 0) 65 179 := X_at (r := mi65) rfl rfl
theorem x65_182 {z : P0} : X z 65 182 = XI mT z (X z) (.dup, 1, 0, 0, 0, [], 0, 0) 65 182 := X_at (r := mi65) rfl rfl
theorem x65_183 {z : P0} : X z 65 183 = XI mT z (X z) (.getfield 204, 3, 8, 9, 0, [112], 0, 0) 65 183 := X_at (r := mi65) rfl rfl
theorem x65_186 {z : P0} : X z 65 186 = XI mT z (X z) (.aload_n 0, 1, 0, 0, 0, [], 0, 0) 65 186 := X_at (r := mi65) rfl rfl
theorem x65_187 {z : P0} : X z 65 187 = XI mT z (X z) (.getfield 41, 3, 10, 3, 3, [89], 0, 0) 65 187 := X_at (r := mi65) rfl rfl
theorem x65_190 {z : P0} : X z 65 190 = XI mT z (X z) (.getfield 207, 3, 6, 11, 0, [113], 0, 0) 65 190 := X_at (r := mi65) rfl rfl
theorem x65_193 {z : P0} : X z 65 193 = XI mT z (X z) (.iadd, 1, 0, 0, 0, [], 0, 0) 65 193 := X_at (r := mi65) rfl rfl
theorem x65_194 {z : P0} : X z 65 194 = XI mT z (X z) (.putfield 204, 3, 8, 9, 0, [112], 0, 0) 65 194 := X_at (r := mi65) rfl rfl
theorem x65_197 {z : P0} : X z 65 197 = XI mT z (X z) (.aload_n 0, 1, 0, 0, 0, [], 0, 0) 65 197 := X_at (r := mi65) rfl rfl
theorem x65_198 {z : P0} : X z 65 198 = XI mT z (X z) (.getfield 41, 3, 10, 3, 3, [89], 0, 0) 65 198 := X_at (r := mi65) rfl rfl
theorem x65_201 {z : P0} : X z 65 201 = XI mT z (X z) (.getfield 178, 3, 6, 8, 0, [104], 0, 0) 65 201 := X_at (r := mi65) rfl rfl
theorem x65_204 {z : P0} : X z 65 204 = XI mT z (X z) (.ireturn, 1, 0, 0, 0, [], 0, 0) 65 204 := X_at (r := mi65) rfl rfl
theorem x66_0 {z : P0} : X z 66 0 = XI mT z (X z) (.iload_n 1, 1, 1, 0, 0, [], 0, 0) 66 0 := X_at (r := mi66) rfl rfl
theorem x66_1 {z : P0} : X z 66 1 = XI mT z (X z) (.iconst 1, 1, 0, 0, 0, [], nI 1, 0) 66 1 := X_at (r := mi66) rfl rfl
theorem x66_2 {z : P0} : X z 66 2 = XI mT z (X z) (.if_icmp .lt 9, 3, 11, 0, 0, [], 0, 0) 66 2 := X_at (r := mi66) rfl rfl
theorem x66_5 {z : P0} : X z 66 5 = XI mT z (X z) (.iload_n 1, 1, 1, 0, 0, [], 0, 0) 66 5 := X_at (r := mi66) rfl rfl
theorem x66_6 {z : P0} : X z 66 6 = XI mT z (X z) (.bipush 100, 2, 0, 0, 0, [], nI 100, 0) 66 6 := X_at (r := mi66) rfl rfl
theorem x66_8 {z : P0} : X z 66 8 = XI mT z (X z) (.if_icmp .le 13, 3, 21, 0, 0, [], 0, 0) 66 8 := X_at (r := mi66) rfl rfl
theorem x66_11 {z : P0} : X z 66 11 = XI mT z (X z) (.new 56, 3, 0, 0, 9, [386], 0, 0) 66 11 := X_at (r := mi66) rfl rfl
theorem x66_14 {z : P0} : X z 66 14 = XI mT z (X z) (.dup, 1, 0, 0, 0, [], 0, 0) 66 14 := X_at (r := mi66) rfl rfl
theorem x66_15 {z : P0} : X z 66 15 = XI mT z (X z) (.ldc 210, 2, 0, 0, 98, [], 0, 0) 66 15 := X_at (r := mi66) rfl rfl
theorem x66_17 {z : P0} : X z 66 17 = XI mT z (X z) (.invokespecial 60, 3, 0, 9999, 0, [], 0, 0) 66 17 := X_at (r := mi66) rfl rfl
theorem x66_20 {z : P0} : X z 66 20 = XI mT z (X z) (.athrow, 1, 0, 0, 0, [], 0, 0) 66 20 := X_at (r := mi66) rfl rfl
theorem x66_21 {z : P0} : X z 66 21 = XI mT z (X z) (.aload_n 0, 1, 0, 0, 0, [], 0, 0) 66 21 := X_at (r := mi66) rfl rfl
theorem x66_22 {z : P0} : X z 66 22 = XI mT z (X z) (.getfield 10, 3, 10, 0, 3, [86], 0, 0) 66 22 := X_at (r := mi66) rfl rfl
theorem x66_25 {z : P0} : X z 66 25 = XI mT z (X z) (.getfield 186, 3, 8, 6, 0, [106], 0, 0) 66 25 := X_at (r := mi66) rfl rfl
theorem x66_28 {z : P0} : X z 66 28 = XI mT z (X z) (.iload_n 1, 1, 1, 0, 0, [], 0, 0) 66 28 := X_at (r := mi66) rfl rfl
theorem x66_29 {z : P0} : X z 66 29 = XI mT z (X z) (.iadd, 1, 0, 0, 0, [], 0, 0) 66 29 := X_at (r := mi66) rfl rfl
theorem x66_30 {z : P0} : X z 66 30 = XI mT z (X z) (.sipush 10000, 3, 0, 0, 0, [], nI 10000, 0) 66 30 := X_at (r := mi66) rfl rfl
theorem x66_33 {z : P0} : X z 66 33 = XI mT z (X z) (.if_icmp .le 13, 3, 46, 0, 0, [], 0, 0) 66 33 := X_at (r := mi66) rfl rfl
theorem x66_36 {z : P0} : X z 66 36 = XI mT z (X z) (.new 72, 3, 1, 0, 9, [454], 0, 0) 66 36 := X_at (r := mi66) rfl rfl
theorem x66_39 {z : P0} : X z 66 39 = XI mT z (X z) (.dup, 1, 0, 0, 0, [], 0, 0) 66 39 := X_at (r := mi66) rfl rfl
theorem x66_40 {z : P0} : X z 66 40 = XI mT z (X z) (.ldc 212, 2, 0, 0, 98, [], 0, 0) 66 40 := X_at (r := mi66) rfl rfl
theorem x66_42 {z : P0} : X z 66 42 = XI mT z (X z) (.invokespecial 76, 3, 0, 9999, 0, [], 0, 0) 66 42 := X_at (r := mi66) rfl rfl
theorem x66_45 {z : P0} : X z 66 45 = XI mT z (X z) (.athrow, 1, 0, 0, 0, [], 0, 0) 66 45 := X_at (r := mi66) rfl rfl
theorem x66_46 {z : P0} : X z 66 46 = XI mT z (X z) (.aload_n 0, 1, 0, 0, 0, [], 0, 0) 66 46 := X_at (r := mi66) rfl rfl
theorem x66_47 {z : P0} : X z 66 47 = XI mT z (X z) (.getfield 19, 3, 10, 1, 3, [87], 0, 0) 66 47 := X_at (r := mi66) rfl rfl
theorem x66_50 {z : P0} : X z 66 50 = XI mT z (X z) (.aload_n 0, 1, 0, 0, 0, [], 0, 0) 66 50 := X_at (r := mi66) rfl rfl
theorem x66_51 {z : P0} : X z 66 51 = XI mT z (X z) (.getfield 10, 3, 10, 0, 3, [86], 0, 0) 66 51 := X_at (r := mi66) rfl rfl
theorem x66_54 {z : P0} : X z 66 54 = XI mT z (X z) (.invokevirtual 77, 3, 1, 24, 0, [66], 0, 0) 66 54 := X_at (r := mi66) rfl rfl
theorem x66_57 {z : P0} : X z 66 57 = XI mT z (X z) (.aload_n 0, 1, 0, 0, 0, [], 0, 0) 66 57 := X_at (r := mi66) rfl rfl
theorem x66_58 {z : P0} : X z 66 58 = XI mT z (X z) (.getfield 10, 3, 10, 0, 3, [86], 0, 0) 66 58 := X_at (r := mi66) rfl rfl
theorem x66_61 {z : P0} : X z 66 61 = XI mT z (X z) (.dup, 1, 0, 0, 0, [], 0, 0) 66 61 := X_at (r := mi66) rfl rfl
theorem x66_62 {z : P0} : X z 66 62 = XI mT z (X z) (.getfield 186, 3, 8, 6, 0, [106], 0, 0) 66 62 := X_at (r := mi66) rfl rfl
theorem x66_65 {z : P0} : X z 66 65 = XI mT z (X z) (.iload_n 1, 1, 1, 0, 0, [], 0, 0) 66 65 := X_at (r := mi66) rfl rfl
theorem x66_66 {z : P0} : X z 66 66 = XI mT z (X z) (.iadd, 1, 0, 0, 0, [], 0, 0) 66 66 := X_at (r := mi66) rfl rfl
theorem x66_67 {z : P0} : X z 66 67 = XI mT z (X z) (.putfield 186, 3, 8, 6, 0, [106], 0, 0) 66 67 := X_at (r := mi66) rfl rfl
theorem x66_70 {z : P0} : X z 66 70 = XI mT z (X z) (.aload_n 0, 1, 0, 0, 0, [], 0, 0) 66 70 := X_at (r := mi66) rfl rfl
theorem x66_71 {z : P0} : X z 66 71 = XI mT z (X z) (.getfield 10, 3, 10, 0, 3, [86], 0, 0) 66 71 := X_at (r := mi66) rfl rfl
theorem x66_74 {z : P0} : X z 66 74 = XI mT z (X z) (.getfield 186, 3, 8, 6, 0, [106], 0, 0) 66 74 := X_at (r := mi66) rfl rfl
theorem x66_77 {z : P0} : X z 66 77 = XI mT z (X z) (.ireturn, 1, 0, 0, 0, [], 0, 0) 66 77 := X_at (r := mi66) rfl rfl
theorem x67_0 {z : P0} : X z 67 0 = XI mT z (X z) (.iload_n 1, 1, 1, 0, 0, [], 0, 0) 67 0 := X_at (r := mi67) rfl rfl
theorem x67_1 {z : P0} : X z 67 1 = XI mT z (X z) (.bipush 33, 2, 0, 0, 0, [], nI 33, 0) 67 1 := X_at (r := mi67) rfl rfl
theorem x67_3 {z : P0} : X z 67 3 = XI mT z (X z) (.if_icmp .lt 9, 3, 12, 0, 0, [], 0, 0) 67 3 := X_at (r := mi67) rfl rfl
theorem x67_6 {z : P0} : X z 67 6 = XI mT z (X z) (.iload_n 1, 1, 1, 0, 0, [], 0, 0) 67 6 := X_at (r := mi67) rfl rfl
theorem x67_7 {z : P0} : X z 67 7 = XI mT z (X z) (.bipush 126, 2, 0, 0, 0, [], nI 126, 0) 67 7 := X_at (r := mi67) rfl rfl
theorem x67_9 {z : P0} : X z 67 9 = XI mT z (X z) (.if_icmp .le 13, 3, 22, 0, 0, [], 0, 0) 67 9 := X_at (r := mi67) rfl rfl
theorem x67_12 {z : P0} : X z 67 12 = XI mT z (X z) (.new 56, 3, 0, 0, 9, [386], 0, 0) 67 12 := X_at (r := mi67) rfl rfl
theorem x67_15 {z : P0} : X z 67 15 = XI mT z (X z) (.dup, 1, 0, 0, 0, [], 0, 0) 67 15 := X_at (r := mi67) rfl rfl
theorem x67_16 {z : P0} : X z 67 16 = XI mT z (X z) (.ldc 214, 2, 0, 0, 98, [], 0, 0) 67 16 := X_at (r := mi67) rfl rfl
theorem x67_18 {z : P0} : X z 67 18 = XI mT z (X z) (.invokespecial 60, 3, 0, 9999, 0, [], 0, 0) 67 18 := X_at (r := mi67) rfl rfl
theorem x67_21 {z : P0} : X z 67 21 = XI mT z (X z) (.athrow, 1, 0, 0, 0, [], 0, 0) 67 21 := X_at (r := mi67) rfl rfl
theorem x67_22 {z : P0} : X z 67 22 = XI mT z (X z) (.aload_n 0, 1, 0, 0, 0, [], 0, 0) 67 22 := X_at (r := mi67) rfl rfl
theorem x67_23 {z : P0} : X z 67 23 = XI mT z (X z) (.getfield 26, 3, 10, 2, 3, [88], 0, 0) 67 23 := X_at (r := mi67) rfl rfl
theorem x67_26 {z : P0} : X z 67 26 = XI mT z (X z) (.getfield 91, 3, 0, 1, 0, [94], 0, 0) 67 26 := X_at (r := mi67) rfl rfl
theorem x67_29 {z : P0} : X z 67 29 = XI mT z (X z) (.bipush 60, 2, 0, 0, 0, [], nI 60, 0) 67 29 := X_at (r := mi67) rfl rfl
theorem x67_31 {z : P0} : X z 67 31 = XI mT z (X z) (.if_icmp .lt 13, 3, 44, 0, 0, [], 0, 0) 67 31 := X_at (r := mi67) rfl rfl
theorem x67_34 {z : P0} : X z 67 34 = XI mT z (X z) (.new 72, 3, 1, 0, 9, [454], 0, 0) 67 34 := X_at (r := mi67) rfl rfl
theorem x67_37 {z : P0} : X z 67 37 = XI mT z (X z) (.dup, 1, 0, 0, 0, [], 0, 0) 67 37 := X_at (r := mi67) rfl rfl
theorem x67_38 {z : P0} : X z 67 38 = XI mT z (X z) (.ldc 216, 2, 0, 0, 98, [], 0, 0) 67 38 := X_at (r := mi67) rfl rfl
theorem x67_40 {z : P0} : X z 67 40 = XI mT z (X z) (.invokespecial 76, 3, 0, 9999, 0, [], 0, 0) 67 40 := X_at (r := mi67) rfl rfl
theorem x67_43 {z : P0} : X z 67 43 = XI mT z (X z) (.athrow, 1, 0, 0, 0, [], 0, 0) 67 43 := X_at (r := mi67) rfl rfl
theorem x67_44 {z : P0} : X z 67 44 = XI mT z (X z) (.aload_n 0, 1, 0, 0, 0, [], 0, 0) 67 44 := X_at (r := mi67) rfl rfl
theorem x67_45 {z : P0} : X z 67 45 = XI mT z (X z) (.getfield 26, 3, 10, 2, 3, [88], 0, 0) 67 45 := X_at (r := mi67) rfl rfl
theorem x67_48 {z : P0} : X z 67 48 = XI mT z (X z) (.getfield 116, 3, 0, 0, 3, [98], 0, 0) 67 48 := X_at (r := mi67) rfl rfl
theorem x67_51 {z : P0} : X z 67 51 = XI mT z (X z) (.aload_n 0, 1, 0, 0, 0, [], 0, 0) 67 51 := X_at (r := mi67) rfl rfl
theorem x67_52 {z : P0} : X z 67 52 = XI mT z (X z) (.getfield 26, 3, 10, 2, 3, [88], 0, 0) 67 52 := X_at (r := mi67) rfl rfl
theorem x67_55 {z : P0} : X z 67 55 = XI mT z (X z) (.getfield 91, 3, 0, 1, 0, [94], 0, 0) 67 55 := X_at (r := mi67) rfl rfl
theorem x67_58 {z : P0} : X z 67 58 = XI mT z (X z) (.iload_n 1, 1, 1, 0, 0, [], 0, 0) 67 58 := X_at (r := mi67) rfl rfl
theorem x67_59 {z : P0} : X z 67 59 = XI mT z (X z) (.iastore, 1, 0, 0, 0, [], 0, 0) 67 59 := X_at (r := mi67) rfl rfl
theorem x67_60 {z : P0} : X z 67 60 = XI mT z (X z) (.aload_n 0, 1, 0, 0, 0, [], 0, 0) 67 60 := X_at (r := mi67) rfl rfl
theorem x67_61 {z : P0} : X z 67 61 = XI mT z (X z) (.getfield 26, 3, 10, 2, 3, [88], 0, 0) 67 61 := X_at (r := mi67) rfl rfl
theorem x67_64 {z : P0} : X z 67 64 = XI mT z (X z) (.dup, 1, 0, 0, 0, [], 0, 0) 67 64 := X_at (r := mi67) rfl rfl
theorem x67_65 {z : P0} : X z 67 65 = XI mT z (X z) (.getfield 91, 3, 0, 1, 0, [94], 0, 0) 67 65 := X_at (r := mi67) rfl rfl
theorem x67_68 {z : P0} : X z 67 68 = XI mT z (X z) (.iconst 1, 1, 0, 0, 0, [], nI 1, 0) 67 68 := X_at (r := mi67) rfl rfl
theorem x67_69 {z : P0} : X z 67 69 = XI mT z (X z) (.iadd, 1, 0, 0, 0, [], 0, 0) 67 69 := X_at (r := mi67) rfl rfl
theorem x67_70 {z : P0} : X z 67 70 = XI mT z (X z) (.putfield 91, 3, 0, 1, 0, [94], 0, 0) 67 70 := X_at (r := mi67) rfl rfl
theorem x67_73 {z : P0} : X z 67 73 = XI mT z (X z) (.aload_n 0, 1, 0, 0, 0, [], 0, 0) 67 73 := X_at (r := mi67) rfl rfl
theorem x67_74 {z : P0} : X z 67 74 = XI mT z (X z) (.getfield 26, 3, 10, 2, 3, [88], 0, 0) 67 74 := X_at (r := mi67) rfl rfl
theorem x67_77 {z : P0} : X z 67 77 = XI mT z (X z) (.getfield 91, 3, 0, 1, 0, [94], 0, 0) 67 77 := X_at (r := mi67) rfl rfl
theorem x67_80 {z : P0} : X z 67 80 = XI mT z (X z) (.ireturn, 1, 0, 0, 0, [], 0, 0) 67 80 := X_at (r := mi67) rfl rfl
theorem x68_0 {z : P0} : X z 68 0 = XI mT z (X z) (.aload_n 0, 1, 0, 0, 0, [], 0, 0) 68 0 := X_at (r := mi68) rfl rfl
theorem x68_1 {z : P0} : X z 68 1 = XI mT z (X z) (.getfield 26, 3, 10, 2, 3, [88], 0, 0) 68 1 := X_at (r := mi68) rfl rfl
theorem x68_4 {z : P0} : X z 68 4 = XI mT z (X z) (.getfield 91, 3, 0, 1, 0, [94], 0, 0) 68 4 := X_at (r := mi68) rfl rfl
theorem x68_7 {z : P0} : X z 68 7 = XI mT z (X z) (.istore_n 1, 1, 1, 0, 0, [], 0, 0) 68 7 := X_at (r := mi68) rfl rfl
theorem x68_8 {z : P0} : X z 68 8 = XI mT z (X z) (.aload_n 0, 1, 0, 0, 0, [], 0, 0) 68 8 := X_at (r := mi68) rfl rfl
theorem x68_9 {z : P0} : X z 68 9 = XI mT z (X z) (.getfield 26, 3, 10, 2, 3, [88], 0, 0) 68 9 := X_at (r := mi68) rfl rfl
theorem x68_12 {z : P0} : X z 68 12 = XI mT z (X z) (.iconst 0, 1, 0, 0, 0, [], nI 0, 0) 68 12 := X_at (r := mi68) rfl rfl
theorem x68_13 {z : P0} : X z 68 13 = XI mT z (X z) (.putfield 91, 3, 0, 1, 0, [94], 0, 0) 68 13 := X_at (r := mi68) rfl rfl
theorem x68_16 {z : P0} : X z 68 16 = XI mT z (X z) (.iload_n 1, 1, 1, 0, 0, [], 0, 0) 68 16 := X_at (r := mi68) rfl rfl
theorem x68_17 {z : P0} : X z 68 17 = XI mT z (X z) (.ireturn, 1, 0, 0, 0, [], 0, 0) 68 17 := X_at (r := mi68) rfl rfl
theorem x69_0 {z : P0} : X z 69 0 = XI mT z (X z) (.iload_n 1, 1, 1, 0, 0, [], 0, 0) 69 0 := X_at (r := mi69) rfl rfl
theorem x69_1 {z : P0} : X z 69 1 = XI mT z (X z) (.ifCond .lt 8, 3, 9, 0, 0, [], 0, 0) 69 1 := X_at (r := mi69) rfl rfl
theorem x69_4 {z : P0} : X z 69 4 = XI mT z (X z) (.iload_n 1, 1, 1, 0, 0, [], 0, 0) 69 4 := X_at (r := mi69) rfl rfl
theorem x69_5 {z : P0} : X z 69 5 = XI mT z (X z) (.iconst 2, 1, 0, 0, 0, [], nI 2, 0) 69 5 := X_at (r := mi69) rfl rfl
theorem x69_6 {z : P0} : X z 69 6 = XI mT z (X z) (.if_icmp .le 13, 3, 19, 0, 0, [], 0, 0) 69 6 := X_at (r := mi69) rfl rfl
theorem x69_9 {z : P0} : X z 69 9 = XI mT z (X z) (.new 56, 3, 0, 0, 9, [386], 0, 0) 69 9 := X_at (r := mi69) rfl rfl
theorem x69_12 {z : P0} : X z 69 12 = XI mT z (X z) (.dup, 1, 0, 0, 0, [], 0, 0) 69 12 := X_at (r := mi69) rfl rfl
theorem x69_13 {z : P0} : X z 69 13 = XI mT z (X z) (.ldc 218, 2, 0, 0, 98, [], 0, 0) 69 13 := X_at (r := mi69) rfl rfl
theorem x69_15 {z : P0} : X z 69 15 = XI mT z (X z) (.invokespecial 60, 3, 0, 9999, 0, [], 0, 0) 69 15 := X_at (r := mi69) rfl rfl
theorem x69_18 {z : P0} : X z 69 18 = XI mT z (X z) (.athrow, 1, 0, 0, 0, [], 0, 0) 69 18 := X_at (r := mi69) rfl rfl
theorem x69_19 {z : P0} : X z 69 19 = XI mT z (X z) (.aload_n 0, 1, 0, 0, 0, [], 0, 0) 69 19 := X_at (r := mi69) rfl rfl
theorem x69_20 {z : P0} : X z 69 20 = XI mT z (X z) (.getfield 26, 3, 10, 2, 3, [88], 0, 0) 69 20 := X_at (r := mi69) rfl rfl
theorem x69_23 {z : P0} : X z 69 23 = XI mT z (X z) (.iload_n 1, 1, 1, 0, 0, [], 0, 0) 69 23 := X_at (r := mi69) rfl rfl
theorem x69_24 {z : P0} : X z 69 24 = XI mT z (X z) (.invokevirtual 220, 3, 1, 1, 0, [77], 0, 0) 69 24 := X_at (r := mi69) rfl rfl
theorem x69_27 {z : P0} : X z 69 27 = XI mT z (X z) (.ireturn, 1, 0, 0, 0, [], 0, 0) 69 27 := X_at (r := mi69) rfl rfl
theorem x71_0 {z : P0} : X z 71 0 = XI mT z (X z) (.aload_n 0, 1, 0, 0, 0, [], 0, 0) 71 0 := X_at (r := mi71) rfl rfl
theorem x71_1 {z : P0} : X z 71 1 = XI mT z (X z) (.iload_n 1, 1, 1, 0, 0, [], 0, 0) 71 1 := X_at (r := mi71) rfl rfl
theorem x71_2 {z : P0} : X z 71 2 = XI mT z (X z) (.invokevirtual 129, 3, 1, 89, 0, [71], 0, 0) 71 2 := X_at (r := mi71) rfl rfl
theorem x71_5 {z : P0} : X z 71 5 = XI mT z (X z) (.ifCond .ne 13, 3, 18, 0, 0, [], 0, 0) 71 5 := X_at (r := mi71) rfl rfl
theorem x71_8 {z : P0} : X z 71 8 = XI mT z (X z) (.new 132, 3, 2, 0, 9, [585], 0, 0) 71 8 := X_at (r := mi71) rfl rfl
theorem x71_11 {z : P0} : X z 71 11 = XI mT z (X z) (.dup, 1, 0, 0, 0, [], 0, 0) 71 11 := X_at (r := mi71) rfl rfl
theorem x71_12 {z : P0} : X z 71 12 = XI mT z (X z) (.ldc 134, 2, 0, 0, 98, [], 0, 0) 71 12 := X_at (r := mi71) rfl rfl
theorem x71_14 {z : P0} : X z 71 14 = XI mT z (X z) (.invokespecial 136, 3, 0, 9999, 0, [], 0, 0) 71 14 := X_at (r := mi71) rfl rfl
theorem x71_17 {z : P0} : X z 71 17 = XI mT z (X z) (.athrow, 1, 0, 0, 0, [], 0, 0) 71 17 := X_at (r := mi71) rfl rfl
theorem x71_18 {z : P0} : X z 71 18 = XI mT z (X z) (.iload_n 2, 1, 2, 0, 0, [], 0, 0) 71 18 := X_at (r := mi71) rfl rfl
theorem x71_19 {z : P0} : X z 71 19 = XI mT z (X z) (.ifCond .lt 9, 3, 28, 0, 0, [], 0, 0) 71 19 := X_at (r := mi71) rfl rfl
theorem x71_22 {z : P0} : X z 71 22 = XI mT z (X z) (.iload_n 2, 1, 2, 0, 0, [], 0, 0) 71 22 := X_at (r := mi71) rfl rfl
theorem x71_23 {z : P0} : X z 71 23 = XI mT z (X z) (.bipush 8, 2, 0, 0, 0, [], nI 8, 0) 71 23 := X_at (r := mi71) rfl rfl
theorem x71_25 {z : P0} : X z 71 25 = XI mT z (X z) (.if_icmp .le 13, 3, 38, 0, 0, [], 0, 0) 71 25 := X_at (r := mi71) rfl rfl
theorem x71_28 {z : P0} : X z 71 28 = XI mT z (X z) (.new 56, 3, 0, 0, 9, [386], 0, 0) 71 28 := X_at (r := mi71) rfl rfl
theorem x71_31 {z : P0} : X z 71 31 = XI mT z (X z) (.dup, 1, 0, 0, 0, [], 0, 0) 71 31 := X_at (r := mi71) rfl rfl
theorem x71_32 {z : P0} : X z 71 32 = XI mT z (X z) (.ldc 232, 2, 0, 0, 98, [], 0, 0) 71 32 := X_at (r := mi71) rfl rfl
theorem x71_34 {z : P0} : X z 71 34 = XI mT z (X z) (.invokespecial 60, 3, 0, 9999, 0, [], 0, 0) 71 34 := X_at (r := mi71) rfl rfl
theorem x71_37 {z : P0} : X z 71 37 = XI mT z (X z) (.athrow, 1, 0, 0, 0, [], 0, 0) 71 37 := X_at (r := mi71) rfl rfl
theorem x71_38 {z : P0} : X z 71 38 = XI mT z (X z) (.aload_n 0, 1, 0, 0, 0, [], 0, 0) 71 38 := X_at (r := mi71) rfl rfl
theorem x71_39 {z : P0} : X z 71 39 = XI mT z (X z) (.getfield 41, 3, 10, 3, 3, [89], 0, 0) 71 39 := X_at (r := mi71) rfl rfl
theorem x71_42 {z : P0} : X z 71 42 = XI mT z (X z) (.aload_n 0, 1, 0, 0, 0, [], 0, 0) 71 42 := X_at (r := mi71) rfl rfl
theorem x71_43 {z : P0} : X z 71 43 = XI mT z (X z) (.getfield 10, 3, 10, 0, 3, [86], 0, 0) 71 43 := X_at (r := mi71) rfl rfl
theorem x71_46 {z : P0} : X z 71 46 = XI mT z (X z) (.aload_n 0, 1, 0, 0, 0, [], 0, 0) 71 46 := X_at (r := mi71) rfl rfl
theorem x71_47 {z : P0} : X z 71 47 = XI mT z (X z) (.getfield 10, 3, 10, 0, 3, [86], 0, 0) 71 47 := X_at (r := mi71) rfl rfl
theorem x71_50 {z : P0} : X z 71 50 = XI mT z (X z) (.getfield 168, 3, 8, 5, 3, [102], 0, 0) 71 50 := X_at (r := mi71) rfl rfl
theorem x71_53 {z : P0} : X z 71 53 = XI mT z (X z) (.invokevirtual 174, 3, 2, 38, 0, [76], 0, 0) 71 53 := X_at (r := mi71) rfl rfl
theorem x71_56 {z : P0} : X z 71 56 = XI mT z (X z) (.aload_n 0, 1, 0, 0, 0, [], 0, 0) 71 56 := X_at (r := mi71) rfl rfl
theorem x71_57 {z : P0} : X z 71 57 = XI mT z (X z) (.iload_n 1, 1, 1, 0, 0, [], 0, 0) 71 57 := X_at (r := mi71) rfl rfl
theorem x71_58 {z : P0} : X z 71 58 = XI mT z (X z) (.iload_n 2, 1, 2, 0, 0, [], 0, 0) 71 58 := X_at (r := mi71) rfl rfl
theorem x71_59 {z : P0} : X z 71 59 = XI mT z (X z) (.invokevirtual 234, 3, 2, 93, 0, [78], 0, 0) 71 59 := X_at (r := mi71) rfl rfl
theorem x71_62 {z : P0} : X z 71 62 = XI mT z (X z) (.ireturn, 1, 0, 0, 0, [], 0, 0) 71 62 := X_at (r := mi71) rfl rfl
theorem x74_0 {z : P0} : X z 74 0 = XI mT z (X z) (.aload_n 0, 1, 0, 0, 0, [], 0, 0) 74 0 := X_at (r := mi74) rfl rfl
theorem x74_1 {z : P0} : X z 74 1 = XI mT z (X z) (.getfield 41, 3, 10, 3, 3, [89], 0, 0) 74 1 := X_at (r := mi74) rfl rfl
theorem x74_4 {z : P0} : X z 74 4 = XI mT z (X z) (.aload_n 0, 1, 0, 0, 0, [], 0, 0) 74 4 := X_at (r := mi74) rfl rfl
theorem x74_5 {z : P0} : X z 74 5 = XI mT z (X z) (.getfield 10, 3, 10, 0, 3, [86], 0, 0) 74 5 := X_at (r := mi74) rfl rfl
theorem x74_8 {z : P0} : X z 74 8 = XI mT z (X z) (.aload_n 0, 1, 0, 0, 0, [], 0, 0) 74 8 := X_at (r := mi74) rfl rfl
theorem x74_9 {z : P0} : X z 74 9 = XI mT z (X z) (.getfield 10, 3, 10, 0, 3, [86], 0, 0) 74 9 := X_at (r := mi74) rfl rfl
theorem x74_12 {z : P0} : X z 74 12 = XI mT z (X z) (.getfield 168, 3, 8, 5, 3, [102], 0, 0) 74 12 := X_at (r := mi74) rfl rfl
theorem x74_15 {z : P0} : X z 74 15 = XI mT z (X z) (.invokevirtual 174, 3, 2, 38, 0, [76], 0, 0) 74 15 := X_at (r := mi74) rfl rfl
theorem x74_18 {z : P0} : X z 74 18 = XI mT z (X z) (.aload_n 0, 1, 0, 0, 0, [], 0, 0) 74 18 := X_at (r := mi74) rfl rfl
theorem x74_19 {z : P0} : X z 74 19 = XI mT z (X z) (.getfield 41, 3, 10, 3, 3, [89], 0, 0) 74 19 := X_at (r := mi74) rfl rfl
theorem x74_22 {z : P0} : X z 74 22 = XI mT z (X z) (.iload_n 1, 1, 1, 0, 0, [], 0, 0) 74 22 := X_at (r := mi74) rfl rfl
theorem x74_23 {z : P0} : X z 74 23 = XI mT z (X z) (.invokevirtual 254, 3, 1, 37, 0, [79], 0, 0) 74 23 := X_at (r := mi74) rfl rfl
theorem x74_26 {z : P0} : X z 74 26 = XI mT z (X z) (.ifCond .ne 14, 3, 40, 0, 0, [], 0, 0) 74 26 := X_at (r := mi74) rfl rfl
theorem x74_29 {z : P0} : X z 74 29 = XI mT z (X z) (.new 132, 3, 2, 1, 9, [585], 0, 0) 74 29 := X_at (r := mi74) rfl rfl
theorem x74_32 {z : P0} : X z 74 32 = XI mT z (X z) (.dup, 1, 0, 0, 0, [], 0, 0) 74 32 := X_at (r := mi74) rfl rfl
theorem x74_33 {z : P0} : X z 74 33 = XI mT z (X z) (.ldc_w 257, 3, 0, 0, 0, [], 0, 0) 74 33 := X_at (r := mi74) rfl rfl
theorem x74_36 {z : P0} : X z 74 36 = XI mT z (X z) (.invokespecial 136, 3, 0, 9999, 0, [], 0, 0) 74 36 := X_at (r := mi74) rfl rfl
theorem x74_39 {z : P0} : X z 74 39 = XI mT z (X z) (.athrow, 1, 0, 0, 0, [], 0, 0) 74 39 := X_at (r := mi74) rfl rfl
theorem x74_40 {z : P0} : X z 74 40 = XI mT z (X z) (.iload_n 2, 1, 2, 0, 0, [], 0, 0) 74 40 := X_at (r := mi74) rfl rfl
theorem x74_41 {z : P0} : X z 74 41 = XI mT z (X z) (.ifCond .lt 9, 3, 50, 0, 0, [], 0, 0) 74 41 := X_at (r := mi74) rfl rfl
theorem x74_44 {z : P0} : X z 74 44 = XI mT z (X z) (.iload_n 2, 1, 2, 0, 0, [], 0, 0) 74 44 := X_at (r := mi74) rfl rfl
theorem x74_45 {z : P0} : X z 74 45 = XI mT z (X z) (.bipush 7, 2, 0, 0, 0, [], nI 7, 0) 74 45 := X_at (r := mi74) rfl rfl
theorem x74_47 {z : P0} : X z 74 47 = XI mT z (X z) (.if_icmp .le 14, 3, 61, 0, 0, [], 0, 0) 74 47 := X_at (r := mi74) rfl rfl
theorem x74_50 {z : P0} : X z 74 50 = XI mT z (X z) (.new 56, 3, 0, 1, 9, [386], 0, 0) 74 50 := X_at (r := mi74) rfl rfl
theorem x74_53 {z : P0} : X z 74 53 = XI mT z (X z) (.dup, 1, 0, 0, 0, [], 0, 0) 74 53 := X_at (r := mi74) rfl rfl
theorem x74_54 {z : P0} : X z 74 54 = XI mT z (X z) (.ldc_w 259, 3, 0, 0, 0, [], 0, 0) 74 54 := X_at (r := mi74) rfl rfl
theorem x74_57 {z : P0} : X z 74 57 = XI mT z (X z) (.invokespecial 60, 3, 0, 9999, 0, [], 0, 0) 74 57 := X_at (r := mi74) rfl rfl
theorem x74_60 {z : P0} : X z 74 60 = XI mT z (X z) (.athrow, 1, 0, 0, 0, [], 0, 0) 74 60 := X_at (r := mi74) rfl rfl
theorem x74_61 {z : P0} : X z 74 61 = XI mT z (X z) (.aload_n 0, 1, 0, 0, 0, [], 0, 0) 74 61 := X_at (r := mi74) rfl rfl
theorem x74_62 {z : P0} : X z 74 62 = XI mT z (X z) (.iload_n 1, 1, 1, 0, 0, [], 0, 0) 74 62 := X_at (r := mi74) rfl rfl
theorem x74_63 {z : P0} : X z 74 63 = XI mT z (X z) (.iload_n 2, 1, 2, 0, 0, [], 0, 0) 74 63 := X_at (r := mi74) rfl rfl
theorem x74_64 {z : P0} : X z 74 64 = XI mT z (X z) (.invokevirtual 261, 3, 2, 95, 0, [80], 0, 0) 74 64 := X_at (r := mi74) rfl rfl
theorem x74_67 {z : P0} : X z 74 67 = XI mT z (X z) (.ireturn, 1, 0, 0, 0, [], 0, 0) 74 67 := X_at (r := mi74) rfl rfl
theorem x75_0 {z : P0} : X z 75 0 = XI mT z (X z) (.aload_n 0, 1, 0, 0, 0, [], 0, 0) 75 0 := X_at (r := mi75) rfl rfl
theorem x75_1 {z : P0} : X z 75 1 = XI mT z (X z) (.getfield 41, 3, 10, 3, 3, [89], 0, 0) 75 1 := X_at (r := mi75) rfl rfl
theorem x75_4 {z : P0} : X z 75 4 = XI mT z (X z) (.aload_n 0, 1, 0, 0, 0, [], 0, 0) 75 4 := X_at (r := mi75) rfl rfl
theorem x75_5 {z : P0} : X z 75 5 = XI mT z (X z) (.getfield 10, 3, 10, 0, 3, [86], 0, 0) 75 5 := X_at (r := mi75) rfl rfl
theorem x75_8 {z : P0} : X z 75 8 = XI mT z (X z) (.aload_n 0, 1, 0, 0, 0, [], 0, 0) 75 8 := X_at (r := mi75) rfl rfl
theorem x75_9 {z : P0} : X z 75 9 = XI mT z (X z) (.getfield 10, 3, 10, 0, 3, [86], 0, 0) 75 9 := X_at (r := mi75) rfl rfl
theorem x75_12 {z : P0} : X z 75 12 = XI mT z (X z) (.getfield 168, 3, 8, 5, 3, [102], 0, 0) 75 12 := X_at (r := mi75) rfl rfl
theorem x75_15 {z : P0} : X z 75 15 = XI mT z (X z) (.invokevirtual 174, 3, 2, 38, 0, [76], 0, 0) 75 15 := X_at (r := mi75) rfl rfl
theorem x75_18 {z : P0} : X z 75 18 = XI mT z (X z) (.aload_n 0, 1, 0, 0, 0, [], 0, 0) 75 18 := X_at (r := mi75) rfl rfl
theorem x75_19 {z : P0} : X z 75 19 = XI mT z (X z) (.getfield 41, 3, 10, 3, 3, [89], 0, 0) 75 19 := X_at (r := mi75) rfl rfl
theorem x75_22 {z : P0} : X z 75 22 = XI mT z (X z) (.iload_n 1, 1, 1, 0, 0, [], 0, 0) 75 22 := X_at (r := mi75) rfl rfl
theorem x75_23 {z : P0} : X z 75 23 = XI mT z (X z) (.invokevirtual 254, 3, 1, 37, 0, [79], 0, 0) 75 23 := X_at (r := mi75) rfl rfl
theorem x75_26 {z : P0} : X z 75 26 = XI mT z (X z) (.ifCond .eq 23, 3, 49, 0, 0, [], 0, 0) 75 26 := X_at (r := mi75) rfl rfl
theorem x75_29 {z : P0} : X z 75 29 = XI mT z (X z) (.iload_n 2, 1, 2, 0, 0, [], 0, 0) 75 29 := X_at (r := mi75) rfl rfl
theorem x75_30 {z : P0} : X z 75 30 = XI mT z (X z) (.ifCond .lt 19, 3, 49, 0, 0, [], 0, 0) 75 30 := X_at (r := mi75) rfl rfl
theorem x75_33 {z : P0} : X z 75 33 = XI mT z (X z) (.iload_n 2, 1, 2, 0, 0, [], 0, 0) 75 33 := X_at (r := mi75) rfl rfl
theorem x75_34 {z : P0} : X z 75 34 = XI mT z (X z) (.aload_n 0, 1, 0, 0, 0, [], 0, 0) 75 34 := X_at (r := mi75) rfl rfl
theorem x75_35 {z : P0} : X z 75 35 = XI mT z (X z) (.getfield 41, 3, 10, 3, 3, [89], 0, 0) 75 35 := X_at (r := mi75) rfl rfl
theorem x75_38 {z : P0} : X z 75 38 = XI mT z (X z) (.getfield 264, 3, 6, 0, 3, [114], 0, 0) 75 38 := X_at (r := mi75) rfl rfl
theorem x75_41 {z : P0} : X z 75 41 = XI mT z (X z) (.iload_n 1, 1, 1, 0, 0, [], 0, 0) 75 41 := X_at (r := mi75) rfl rfl
theorem x75_42 {z : P0} : X z 75 42 = XI mT z (X z) (.aaload, 1, 0, 0, 0, [], 0, 0) 75 42 := X_at (r := mi75) rfl rfl
theorem x75_43 {z : P0} : X z 75 43 = XI mT z (X z) (.getfield 268, 3, 2, 3, 0, [115], 0, 0) 75 43 := X_at (r := mi75) rfl rfl
theorem x75_46 {z : P0} : X z 75 46 = XI mT z (X z) (.if_icmp .lt 14, 3, 60, 0, 0, [], 0, 0) 75 46 := X_at (r := mi75) rfl rfl
theorem x75_49 {z : P0} : X z 75 49 = XI mT z (X z) (.new 132, 3, 2, 1, 9, [585], 0, 0) 75 49 := X_at (r := mi75) rfl rfl
theorem x75_52 {z : P0} : X z 75 52 = XI mT z (X z) (.dup, 1, 0, 0, 0, [], 0, 0) 75 52 := X_at (r := mi75) rfl rfl
theorem x75_53 {z : P0} : X z 75 53 = XI mT z (X z) (.ldc_w 273, 3, 0, 0, 0, [], 0, 0) 75 53 := X_at (r := mi75) rfl rfl
theorem x75_56 {z : P0} : X z 75 56 = XI mT z (X z) (.invokespecial 136, 3, 0, 9999, 0, [], 0, 0) 75 56 := X_at (r := mi75) rfl rfl
theorem x75_59 {z : P0} : X z 75 59 = XI mT z (X z) (.athrow, 1, 0, 0, 0, [], 0, 0) 75 59 := X_at (r := mi75) rfl rfl
theorem x75_60 {z : P0} : X z 75 60 = XI mT z (X z) (.aload_n 0, 1, 0, 0, 0, [], 0, 0) 75 60 := X_at (r := mi75) rfl rfl
theorem x75_61 {z : P0} : X z 75 61 = XI mT z (X z) (.getfield 41, 3, 10, 3, 3, [89], 0, 0) 75 61 := X_at (r := mi75) rfl rfl
theorem x75_64 {z : P0} : X z 75 64 = XI mT z (X z) (.getfield 275, 3, 6, 4, 3, [116], 0, 0) 75 64 := X_at (r := mi75) rfl rfl
theorem x75_67 {z : P0} : X z 75 67 = XI mT z (X z) (.aload_n 0, 1, 0, 0, 0, [], 0, 0) 75 67 := X_at (r := mi75) rfl rfl
theorem x75_68 {z : P0} : X z 75 68 = XI mT z (X z) (.getfield 10, 3, 10, 0, 3, [86], 0, 0) 75 68 := X_at (r := mi75) rfl rfl
theorem x75_71 {z : P0} : X z 75 71 = XI mT z (X z) (.aload_n 0, 1, 0, 0, 0, [], 0, 0) 75 71 := X_at (r := mi75) rfl rfl
theorem x75_72 {z : P0} : X z 75 72 = XI mT z (X z) (.getfield 41, 3, 10, 3, 3, [89], 0, 0) 75 72 := X_at (r := mi75) rfl rfl
theorem x75_75 {z : P0} : X z 75 75 = XI mT z (X z) (.getfield 264, 3, 6, 0, 3, [114], 0, 0) 75 75 := X_at (r := mi75) rfl rfl
theorem x75_78 {z : P0} : X z 75 78 = XI mT z (X z) (.iload_n 1, 1, 1, 0, 0, [], 0, 0) 75 78 := X_at (r := mi75) rfl rfl
theorem x75_79 {z : P0} : X z 75 79 = XI mT z (X z) (.aaload, 1, 0, 0, 0, [], 0, 0) 75 79 := X_at (r := mi75) rfl rfl
theorem x75_80 {z : P0} : X z 75 80 = XI mT z (X z) (.invokevirtual 279, 3, 2, 10, 0, [81], 0, 0) 75 80 := X_at (r := mi75) rfl rfl
theorem x75_83 {z : P0} : X z 75 83 = XI mT z (X z) (.aload_n 0, 1, 0, 0, 0, [], 0, 0) 75 83 := X_at (r := mi75) rfl rfl
theorem x75_84 {z : P0} : X z 75 84 = XI mT z (X z) (.getfield 41, 3, 10, 3, 3, [89], 0, 0) 75 84 := X_at (r := mi75) rfl rfl
theorem x75_87 {z : P0} : X z 75 87 = XI mT z (X z) (.getfield 275, 3, 6, 4, 3, [116], 0, 0) 75 87 := X_at (r := mi75) rfl rfl
theorem x75_90 {z : P0} : X z 75 90 = XI mT z (X z) (.getfield 283, 3, 1, 0, 3, [117], 0, 0) 75 90 := X_at (r := mi75) rfl rfl
theorem x75_93 {z : P0} : X z 75 93 = XI mT z (X z) (.iload_n 2, 1, 2, 0, 0, [], 0, 0) 75 93 := X_at (r := mi75) rfl rfl
theorem x75_94 {z : P0} : X z 75 94 = XI mT z (X z) (.iaload, 1, 0, 0, 0, [], 0, 0) 75 94 := X_at (r := mi75) rfl rfl
theorem x75_95 {z : P0} : X z 75 95 = XI mT z (X z) (.ireturn, 1, 0, 0, 0, [], 0, 0) 75 95 := X_at (r := mi75) rfl rfl
theorem x76_0 {z : P0} : X z 76 0 = XI mT z (X z) (.aload_n 0, 1, 0, 0, 0, [], 0, 0) 76 0 := X_at (r := mi76) rfl rfl
theorem x76_1 {z : P0} : X z 76 1 = XI mT z (X z) (.getfield 41, 3, 10, 3, 3, [89], 0, 0) 76 1 := X_at (r := mi76) rfl rfl
theorem x76_4 {z : P0} : X z 76 4 = XI mT z (X z) (.aload_n 0, 1, 0, 0, 0, [], 0, 0) 76 4 := X_at (r := mi76) rfl rfl
theorem x76_5 {z : P0} : X z 76 5 = XI mT z (X z) (.getfield 10, 3, 10, 0, 3, [86], 0, 0) 76 5 := X_at (r := mi76) rfl rfl
theorem x76_8 {z : P0} : X z 76 8 = XI mT z (X z) (.aload_n 0, 1, 0, 0, 0, [], 0, 0) 76 8 := X_at (r := mi76) rfl rfl
theorem x76_9 {z : P0} : X z 76 9 = XI mT z (X z) (.getfield 10, 3, 10, 0, 3, [86], 0, 0) 76 9 := X_at (r := mi76) rfl rfl
theorem x76_12 {z : P0} : X z 76 12 = XI mT z (X z) (.getfield 168, 3, 8, 5, 3, [102], 0, 0) 76 12 := X_at (r := mi76) rfl rfl
theorem x76_15 {z : P0} : X z 76 15 = XI mT z (X z) (.invokevirtual 174, 3, 2, 38, 0, [76], 0, 0) 76 15 := X_at (r := mi76) rfl rfl
theorem x76_18 {z : P0} : X z 76 18 = XI mT z (X z) (.aload_n 0, 1, 0, 0, 0, [], 0, 0) 76 18 := X_at (r := mi76) rfl rfl
theorem x76_19 {z : P0} : X z 76 19 = XI mT z (X z) (.getfield 41, 3, 10, 3, 3, [89], 0, 0) 76 19 := X_at (r := mi76) rfl rfl
theorem x76_22 {z : P0} : X z 76 22 = XI mT z (X z) (.iload_n 1, 1, 1, 0, 0, [], 0, 0) 76 22 := X_at (r := mi76) rfl rfl
theorem x76_23 {z : P0} : X z 76 23 = XI mT z (X z) (.invokevirtual 254, 3, 1, 37, 0, [79], 0, 0) 76 23 := X_at (r := mi76) rfl rfl
theorem x76_26 {z : P0} : X z 76 26 = XI mT z (X z) (.ifCond .ne 14, 3, 40, 0, 0, [], 0, 0) 76 26 := X_at (r := mi76) rfl rfl
theorem x76_29 {z : P0} : X z 76 29 = XI mT z (X z) (.new 132, 3, 2, 1, 9, [585], 0, 0) 76 29 := X_at (r := mi76) rfl rfl
theorem x76_32 {z : P0} : X z 76 32 = XI mT z (X z) (.dup, 1, 0, 0, 0, [], 0, 0) 76 32 := X_at (r := mi76) rfl rfl
theorem x76_33 {z : P0} : X z 76 33 = XI mT z (X z) (.ldc_w 257, 3, 0, 0, 0, [], 0, 0) 76 33 := X_at (r := mi76) rfl rfl
theorem x76_36 {z : P0} : X z 76 36 = XI mT z (X z) (.invokespecial 136, 3, 0, 9999, 0, [], 0, 0) 76 36 := X_at (r := mi76) rfl rfl
theorem x76_39 {z : P0} : X z 76 39 = XI mT z (X z) (.athrow, 1, 0, 0, 0, [], 0, 0) 76 39 := X_at (r := mi76) rfl rfl
theorem x76_40 {z : P0} : X z 76 40 = XI mT z (X z) (.aload_n 0, 1, 0, 0, 0, [], 0, 0) 76 40 := X_at (r := mi76) rfl rfl
theorem x76_41 {z : P0} : X z 76 41 = XI mT z (X z) (.getfield 41, 3, 10, 3, 3, [89], 0, 0) 76 41 := X_at (r := mi76) rfl rfl
theorem x76_44 {z : P0} : X z 76 44 = XI mT z (X z) (.getfield 264, 3, 6, 0, 3, [114], 0, 0) 76 44 := X_at (r := mi76) rfl rfl
theorem x76_47 {z : P0} : X z 76 47 = XI mT z (X z) (.iload_n 1, 1, 1, 0, 0, [], 0, 0) 76 47 := X_at (r := mi76) rfl rfl
theorem x76_48 {z : P0} : X z 76 48 = XI mT z (X z) (.aaload, 1, 0, 0, 0, [], 0, 0) 76 48 := X_at (r := mi76) rfl rfl
theorem x76_49 {z : P0} : X z 76 49 = XI mT z (X z) (.invokevirtual 286, 3, 0, 22, 0, [82], 0, 0) 76 49 := X_at (r := mi76) rfl rfl
theorem x76_52 {z : P0} : X z 76 52 = XI mT z (X z) (.ireturn, 1, 0, 0, 0, [], 0, 0) 76 52 := X_at (r := mi76) rfl rfl
theorem x77_0 {z : P0} : X z 77 0 = XI mT z (X z) (.iload_n 1, 1, 1, 0, 0, [], 0, 0) 77 0 := X_at (r := mi77) rfl rfl
theorem x77_1 {z : P0} : X z 77 1 = XI mT z (X z) (.ifCond .lt 9, 3, 10, 0, 0, [], 0, 0) 77 1 := X_at (r := mi77) rfl rfl
theorem x77_4 {z : P0} : X z 77 4 = XI mT z (X z) (.iload_n 1, 1, 1, 0, 0, [], 0, 0) 77 4 := X_at (r := mi77) rfl rfl
theorem x77_5 {z : P0} : X z 77 5 = XI mT z (X z) (.bipush 14, 2, 0, 0, 0, [], nI 14, 0) 77 5 := X_at (r := mi77) rfl rfl
theorem x77_7 {z : P0} : X z 77 7 = XI mT z (X z) (.if_icmp .le 14, 3, 21, 0, 0, [], 0, 0) 77 7 := X_at (r := mi77) rfl rfl
theorem x77_10 {z : P0} : X z 77 10 = XI mT z (X z) (.new 56, 3, 0, 1, 9, [386], 0, 0) 77 10 := X_at (r := mi77) rfl rfl
theorem x77_13 {z : P0} : X z 77 13 = XI mT z (X z) (.dup, 1, 0, 0, 0, [], 0, 0) 77 13 := X_at (r := mi77) rfl rfl
theorem x77_14 {z : P0} : X z 77 14 = XI mT z (X z) (.ldc_w 289, 3, 0, 0, 0, [], 0, 0) 77 14 := X_at (r := mi77) rfl rfl
theorem x77_17 {z : P0} : X z 77 17 = XI mT z (X z) (.invokespecial 60, 3, 0, 9999, 0, [], 0, 0) 77 17 := X_at (r := mi77) rfl rfl
theorem x77_20 {z : P0} : X z 77 20 = XI mT z (X z) (.athrow, 1, 0, 0, 0, [], 0, 0) 77 20 := X_at (r := mi77) rfl rfl
theorem x77_21 {z : P0} : X z 77 21 = XI mT z (X z) (.aload_n 0, 1, 0, 0, 0, [], 0, 0) 77 21 := X_at (r := mi77) rfl rfl
theorem x77_22 {z : P0} : X z 77 22 = XI mT z (X z) (.getfield 41, 3, 10, 3, 3, [89], 0, 0) 77 22 := X_at (r := mi77) rfl rfl
theorem x77_25 {z : P0} : X z 77 25 = XI mT z (X z) (.aload_n 0, 1, 0, 0, 0, [], 0, 0) 77 25 := X_at (r := mi77) rfl rfl
theorem x77_26 {z : P0} : X z 77 26 = XI mT z (X z) (.getfield 10, 3, 10, 0, 3, [86], 0, 0) 77 26 := X_at (r := mi77) rfl rfl
theorem x77_29 {z : P0} : X z 77 29 = XI mT z (X z) (.aload_n 0, 1, 0, 0, 0, [], 0, 0) 77 29 := X_at (r := mi77) rfl rfl
theorem x77_30 {z : P0} : X z 77 30 = XI mT z (X z) (.getfield 10, 3, 10, 0, 3, [86], 0, 0) 77 30 := X_at (r := mi77) rfl rfl
theorem x77_33 {z : P0} : X z 77 33 = XI mT z (X z) (.getfield 168, 3, 8, 5, 3, [102], 0, 0) 77 33 := X_at (r := mi77) rfl rfl
theorem x77_36 {z : P0} : X z 77 36 = XI mT z (X z) (.invokevirtual 174, 3, 2, 38, 0, [76], 0, 0) 77 36 := X_at (r := mi77) rfl rfl
theorem x77_39 {z : P0} : X z 77 39 = XI mT z (X z) (.aload_n 0, 1, 0, 0, 0, [], 0, 0) 77 39 := X_at (r := mi77) rfl rfl
theorem x77_40 {z : P0} : X z 77 40 = XI mT z (X z) (.iload_n 1, 1, 1, 0, 0, [], 0, 0) 77 40 := X_at (r := mi77) rfl rfl
theorem x77_41 {z : P0} : X z 77 41 = XI mT z (X z) (.invokevirtual 291, 3, 1, 96, 0, [83], 0, 0) 77 41 := X_at (r := mi77) rfl rfl
theorem x77_44 {z : P0} : X z 77 44 = XI mT z (X z) (.ireturn, 1, 0, 0, 0, [], 0, 0) 77 44 := X_at (r := mi77) rfl rfl
theorem x85_0 {z : P0} : X z 85 0 = XI mT z (X z) (.iload_n 0, 1, 0, 0, 0, [], 0, 0) 85 0 := X_at (r := mi85) rfl rfl
theorem x85_1 {z : P0} : X z 85 1 = XI mT z (X z) (.ifCond .lt 13, 3, 14, 0, 0, [], 0, 0) 85 1 := X_at (r := mi85) rfl rfl
theorem x85_4 {z : P0} : X z 85 4 = XI mT z (X z) (.iload_n 0, 1, 0, 0, 0, [], 0, 0) 85 4 := X_at (r := mi85) rfl rfl
theorem x85_5 {z : P0} : X z 85 5 = XI mT z (X z) (.bipush 20, 2, 0, 0, 0, [], nI 20, 0) 85 5 := X_at (r := mi85) rfl rfl
theorem x85_7 {z : P0} : X z 85 7 = XI mT z (X z) (.if_icmp .ge 7, 3, 14, 0, 0, [], 0, 0) 85 7 := X_at (r := mi85) rfl rfl
theorem x85_10 {z : P0} : X z 85 10 = XI mT z (X z) (.iconst 1, 1, 0, 0, 0, [], nI 1, 0) 85 10 := X_at (r := mi85) rfl rfl
theorem x85_11 {z : P0} : X z 85 11 = XI mT z (X z) (.goto 4, 3, 15, 0, 0, [], 0, 0) 85 11 := X_at (r := mi85) rfl rfl
theorem x85_14 {z : P0} : X z 85 14 = XI mT z (X z) (.iconst 0, 1, 0, 0, 0, [], nI 0, 0) 85 14 := X_at (r := mi85) rfl rfl
theorem x85_15 {z : P0} : X z 85 15 = XI mT z (X z) (.ireturn, 1, 0, 0, 0, [], 0, 0) 85 15 := X_at (r := mi85) rfl rfl
theorem x86_0 {z : P0} : X z 86 0 = XI mT z (X z) (.iload_n 0, 1, 0, 0, 0, [], 0, 0) 86 0 := X_at (r := mi86) rfl rfl
theorem x86_1 {z : P0} : X z 86 1 = XI mT z (X z) (.ifCond .lt 13, 3, 14, 0, 0, [], 0, 0) 86 1 := X_at (r := mi86) rfl rfl
theorem x86_4 {z : P0} : X z 86 4 = XI mT z (X z) (.iload_n 0, 1, 0, 0, 0, [], 0, 0) 86 4 := X_at (r := mi86) rfl rfl
theorem x86_5 {z : P0} : X z 86 5 = XI mT z (X z) (.bipush 6, 2, 0, 0, 0, [], nI 6, 0) 86 5 := X_at (r := mi86) rfl rfl
theorem x86_7 {z : P0} : X z 86 7 = XI mT z (X z) (.if_icmp .ge 7, 3, 14, 0, 0, [], 0, 0) 86 7 := X_at (r := mi86) rfl rfl
theorem x86_10 {z : P0} : X z 86 10 = XI mT z (X z) (.iconst 1, 1, 0, 0, 0, [], nI 1, 0) 86 10 := X_at (r := mi86) rfl rfl
theorem x86_11 {z : P0} : X z 86 11 = XI mT z (X z) (.goto 4, 3, 15, 0, 0, [], 0, 0) 86 11 := X_at (r := mi86) rfl rfl
theorem x86_14 {z : P0} : X z 86 14 = XI mT z (X z) (.iconst 0, 1, 0, 0, 0, [], nI 0, 0) 86 14 := X_at (r := mi86) rfl rfl
theorem x86_15 {z : P0} : X z 86 15 = XI mT z (X z) (.ireturn, 1, 0, 0, 0, [], 0, 0) 86 15 := X_at (r := mi86) rfl rfl
theorem x87_0 {z : P0} : X z 87 0 = XI mT z (X z) (.iload_n 1, 1, 1, 0, 0, [], 0, 0) 87 0 := X_at (r := mi87) rfl rfl
theorem x87_1 {z : P0} : X z 87 1 = XI mT z (X z) (.getstatic 344, 3, 1, 0, 0, [636], 0, 0) 87 1 := X_at (r := mi87) rfl rfl
theorem x87_4 {z : P0} : X z 87 4 = XI mT z (X z) (.iload_n 0, 1, 0, 0, 0, [], 0, 0) 87 4 := X_at (r := mi87) rfl rfl
theorem x87_5 {z : P0} : X z 87 5 = XI mT z (X z) (.iaload, 1, 0, 0, 0, [], 0, 0) 87 5 := X_at (r := mi87) rfl rfl
theorem x87_6 {z : P0} : X z 87 6 = XI mT z (X z) (.if_icmp .lt 16, 3, 22, 0, 0, [], 0, 0) 87 6 := X_at (r := mi87) rfl rfl
theorem x87_9 {z : P0} : X z 87 9 = XI mT z (X z) (.iload_n 1, 1, 1, 0, 0, [], 0, 0) 87 9 := X_at (r := mi87) rfl rfl
theorem x87_10 {z : P0} : X z 87 10 = XI mT z (X z) (.getstatic 347, 3, 2, 0, 0, [638], 0, 0) 87 10 := X_at (r := mi87) rfl rfl
theorem x87_13 {z : P0} : X z 87 13 = XI mT z (X z) (.iload_n 0, 1, 0, 0, 0, [], 0, 0) 87 13 := X_at (r := mi87) rfl rfl
theorem x87_14 {z : P0} : X z 87 14 = XI mT z (X z) (.iaload, 1, 0, 0, 0, [], 0, 0) 87 14 := X_at (r := mi87) rfl rfl
theorem x87_15 {z : P0} : X z 87 15 = XI mT z (X z) (.if_icmp .gt 7, 3, 22, 0, 0, [], 0, 0) 87 15 := X_at (r := mi87) rfl rfl
theorem x87_18 {z : P0} : X z 87 18 = XI mT z (X z) (.iconst 1, 1, 0, 0, 0, [], nI 1, 0) 87 18 := X_at (r := mi87) rfl rfl
theorem x87_19 {z : P0} : X z 87 19 = XI mT z (X z) (.goto 4, 3, 23, 0, 0, [], 0, 0) 87 19 := X_at (r := mi87) rfl rfl
theorem x87_22 {z : P0} : X z 87 22 = XI mT z (X z) (.iconst 0, 1, 0, 0, 0, [], nI 0, 0) 87 22 := X_at (r := mi87) rfl rfl
theorem x87_23 {z : P0} : X z 87 23 = XI mT z (X z) (.ireturn, 1, 0, 0, 0, [], 0, 0) 87 23 := X_at (r := mi87) rfl rfl
theorem x88_0 {z : P0} : X z 88 0 = XI mT z (X z) (.iload_n 0, 1, 0, 0, 0, [], 0, 0) 88 0 := X_at (r := mi88) rfl rfl
theorem x88_1 {z : P0} : X z 88 1 = XI mT z (X z) (.bipush 97, 2, 0, 0, 0, [], nI 97, 0) 88 1 := X_at (r := mi88) rfl rfl
theorem x88_3 {z : P0} : X z 88 3 = XI mT z (X z) (.if_icmp .lt 13, 3, 16, 0, 0, [], 0, 0) 88 3 := X_at (r := mi88) rfl rfl
theorem x88_6 {z : P0} : X z 88 6 = XI mT z (X z) (.iload_n 0, 1, 0, 0, 0, [], 0, 0) 88 6 := X_at (r := mi88) rfl rfl
theorem x88_7 {z : P0} : X z 88 7 = XI mT z (X z) (.bipush 122, 2, 0, 0, 0, [], nI 122, 0) 88 7 := X_at (r := mi88) rfl rfl
theorem x88_9 {z : P0} : X z 88 9 = XI mT z (X z) (.if_icmp .gt 7, 3, 16, 0, 0, [], 0, 0) 88 9 := X_at (r := mi88) rfl rfl
theorem x88_12 {z : P0} : X z 88 12 = XI mT z (X z) (.iconst 1, 1, 0, 0, 0, [], nI 1, 0) 88 12 := X_at (r := mi88) rfl rfl
theorem x88_13 {z : P0} : X z 88 13 = XI mT z (X z) (.goto 4, 3, 17, 0, 0, [], 0, 0) 88 13 := X_at (r := mi88) rfl rfl
theorem x88_16 {z : P0} : X z 88 16 = XI mT z (X z) (.iconst 0, 1, 0, 0, 0, [], nI 0, 0) 88 16 := X_at (r := mi88) rfl rfl
theorem x88_17 {z : P0} : X z 88 17 = XI mT z (X z) (.ireturn, 1, 0, 0, 0, [], 0, 0) 88 17 := X_at (r := mi88) rfl rfl
theorem x89_0 {z : P0} : X z 89 0 = XI mT z (X z) (.iload_n 1, 1, 1, 0, 0, [], 0, 0) 89 0 := X_at (r := mi89) rfl rfl
theorem x89_1 {z : P0} : X z 89 1 = XI mT z (X z) (.ifCond .lt 18, 3, 19, 0, 0, [], 0, 0) 89 1 := X_at (r := mi89) rfl rfl
theorem x89_4 {z : P0} : X z 89 4 = XI mT z (X z) (.iload_n 1, 1, 1, 0, 0, [], 0, 0) 89 4 := X_at (r := mi89) rfl rfl
theorem x89_5 {z : P0} : X z 89 5 = XI mT z (X z) (.aload_n 0, 1, 0, 0, 0, [], 0, 0) 89 5 := X_at (r := mi89) rfl rfl
theorem x89_6 {z : P0} : X z 89 6 = XI mT z (X z) (.getfield 10, 3, 10, 0, 3, [86], 0, 0) 89 6 := X_at (r := mi89) rfl rfl
theorem x89_9 {z : P0} : X z 89 9 = XI mT z (X z) (.getfield 68, 3, 8, 1, 0, [92], 0, 0) 89 9 := X_at (r := mi89) rfl rfl
theorem x89_12 {z : P0} : X z 89 12 = XI mT z (X z) (.if_icmp .ge 7, 3, 19, 0, 0, [], 0, 0) 89 12 := X_at (r := mi89) rfl rfl
theorem x89_15 {z : P0} : X z 89 15 = XI mT z (X z) (.iconst 1, 1, 0, 0, 0, [], nI 1, 0) 89 15 := X_at (r := mi89) rfl rfl
theorem x89_16 {z : P0} : X z 89 16 = XI mT z (X z) (.goto 4, 3, 20, 0, 0, [], 0, 0) 89 16 := X_at (r := mi89) rfl rfl
theorem x89_19 {z : P0} : X z 89 19 = XI mT z (X z) (.iconst 0, 1, 0, 0, 0, [], nI 0, 0) 89 19 := X_at (r := mi89) rfl rfl
theorem x89_20 {z : P0} : X z 89 20 = XI mT z (X z) (.ireturn, 1, 0, 0, 0, [], 0, 0) 89 20 := X_at (r := mi89) rfl rfl
theorem x90_0 {z : P0} : X z 90 0 = XI mT z (X z) (.iload_n 1, 1, 1, 0, 0, [], 0, 0) 90 0 := X_at (r := mi90) rfl rfl
theorem x90_1 {z : P0} : X z 90 1 = XI mT z (X z) (.ifCond .lt 18, 3, 19, 0, 0, [], 0, 0) 90 1 := X_at (r := mi90) rfl rfl
theorem x90_4 {z : P0} : X z 90 4 = XI mT z (X z) (.iload_n 1, 1, 1, 0, 0, [], 0, 0) 90 4 := X_at (r := mi90) rfl rfl
theorem x90_5 {z : P0} : X z 90 5 = XI mT z (X z) (.aload_n 0, 1, 0, 0, 0, [], 0, 0) 90 5 := X_at (r := mi90) rfl rfl
theorem x90_6 {z : P0} : X z 90 6 = XI mT z (X z) (.getfield 10, 3, 10, 0, 3, [86], 0, 0) 90 6 := X_at (r := mi90) rfl rfl
theorem x90_9 {z : P0} : X z 90 9 = XI mT z (X z) (.getfield 96, 3, 8, 3, 0, [95], 0, 0) 90 9 := X_at (r := mi90) rfl rfl
theorem x90_12 {z : P0} : X z 90 12 = XI mT z (X z) (.if_icmp .ge 7, 3, 19, 0, 0, [], 0, 0) 90 12 := X_at (r := mi90) rfl rfl
theorem x90_15 {z : P0} : X z 90 15 = XI mT z (X z) (.iconst 1, 1, 0, 0, 0, [], nI 1, 0) 90 15 := X_at (r := mi90) rfl rfl
theorem x90_16 {z : P0} : X z 90 16 = XI mT z (X z) (.goto 4, 3, 20, 0, 0, [], 0, 0) 90 16 := X_at (r := mi90) rfl rfl
theorem x90_19 {z : P0} : X z 90 19 = XI mT z (X z) (.iconst 0, 1, 0, 0, 0, [], nI 0, 0) 90 19 := X_at (r := mi90) rfl rfl
theorem x90_20 {z : P0} : X z 90 20 = XI mT z (X z) (.ireturn, 1, 0, 0, 0, [], 0, 0) 90 20 := X_at (r := mi90) rfl rfl
theorem x93_0 {z : P0} : X z 93 0 = XI mT z (X z) (.aload_n 0, 1, 0, 0, 0, [], 0, 0) 93 0 := X_at (r := mi93) rfl rfl
theorem x93_1 {z : P0} : X z 93 1 = XI mT z (X z) (.getfield 10, 3, 10, 0, 3, [86], 0, 0) 93 1 := X_at (r := mi93) rfl rfl
theorem x93_4 {z : P0} : X z 93 4 = XI mT z (X z) (.getfield 81, 3, 8, 0, 3, [93], 0, 0) 93 4 := X_at (r := mi93) rfl rfl
theorem x93_7 {z : P0} : X z 93 7 = XI mT z (X z) (.iload_n 1, 1, 1, 0, 0, [], 0, 0) 93 7 := X_at (r := mi93) rfl rfl
theorem x93_8 {z : P0} : X z 93 8 = XI mT z (X z) (.aaload, 1, 0, 0, 0, [], 0, 0) 93 8 := X_at (r := mi93) rfl rfl
theorem x93_9 {z : P0} : X z 93 9 = XI mT z (X z) (.astore_n 3, 1, 3, 0, 0, [], 0, 0) 93 9 := X_at (r := mi93) rfl rfl
theorem x93_10 {z : P0} : X z 93 10 = XI mT z (X z) (.iload_n 2, 1, 2, 0, 0, [], 0, 0) 93 10 := X_at (r := mi93) rfl rfl
theorem x93_11 {z : P0} : X z 93 11 = XI mT z (X z) (.tableswitch 98 0 7 #[45, 50, 55, 60, 65, 78, 83, 88], 45, 109, 0, 0, [56, 61, 66, 71, 76, 89, 94, 99], 0, 0) 93 11 := X_at (r := mi93) rfl rfl
theorem x93_56 {z : P0} : X z 93 56 = XI mT z (X z) (.aload_n 3, 1, 3, 0, 0, [], 0, 0) 93 56 := X_at (r := mi93) rfl rfl
theorem x93_57 {z : P0} : X z 93 57 = XI mT z (X z) (.getfield 238, 3, 7, 1, 0, [118], 0, 0) 93 57 := X_at (r := mi93) rfl rfl
theorem x93_60 {z : P0} : X z 93 60 = XI mT z (X z) (.ireturn, 1, 0, 0, 0, [], 0, 0) 93 60 := X_at (r := mi93) rfl rfl
theorem x93_61 {z : P0} : X z 93 61 = XI mT z (X z) (.aload_n 3, 1, 3, 0, 0, [], 0, 0) 93 61 := X_at (r := mi93) rfl rfl
theorem x93_62 {z : P0} : X z 93 62 = XI mT z (X z) (.getfield 139, 3, 7, 2, 0, [99], 0, 0) 93 62 := X_at (r := mi93) rfl rfl
theorem x93_65 {z : P0} : X z 93 65 = XI mT z (X z) (.ireturn, 1, 0, 0, 0, [], 0, 0) 93 65 := X_at (r := mi93) rfl rfl
theorem x93_66 {z : P0} : X z 93 66 = XI mT z (X z) (.aload_n 3, 1, 3, 0, 0, [], 0, 0) 93 66 := X_at (r := mi93) rfl rfl
theorem x93_67 {z : P0} : X z 93 67 = XI mT z (X z) (.getfield 360, 3, 7, 3, 0, [119], 0, 0) 93 67 := X_at (r := mi93) rfl rfl
theorem x93_70 {z : P0} : X z 93 70 = XI mT z (X z) (.ireturn, 1, 0, 0, 0, [], 0, 0) 93 70 := X_at (r := mi93) rfl rfl
theorem x93_71 {z : P0} : X z 93 71 = XI mT z (X z) (.aload_n 3, 1, 3, 0, 0, [], 0, 0) 93 71 := X_at (r := mi93) rfl rfl
theorem x93_72 {z : P0} : X z 93 72 = XI mT z (X z) (.getfield 147, 3, 7, 4, 0, [100], 0, 0) 93 72 := X_at (r := mi93) rfl rfl
theorem x93_75 {z : P0} : X z 93 75 = XI mT z (X z) (.ireturn, 1, 0, 0, 0, [], 0, 0) 93 75 := X_at (r := mi93) rfl rfl
theorem x93_76 {z : P0} : X z 93 76 = XI mT z (X z) (.aload_n 3, 1, 3, 0, 0, [], 0, 0) 93 76 := X_at (r := mi93) rfl rfl
theorem x93_77 {z : P0} : X z 93 77 = XI mT z (X z) (.getfield 150, 3, 7, 5, 1, [101], 0, 0) 93 77 := X_at (r := mi93) rfl rfl
theorem x93_80 {z : P0} : X z 93 80 = XI mT z (X z) (.ifCond .eq 7, 3, 87, 0, 0, [], 0, 0) 93 80 := X_at (r := mi93) rfl rfl
theorem x93_83 {z : P0} : X z 93 83 = XI mT z (X z) (.iconst 1, 1, 0, 0, 0, [], nI 1, 0) 93 83 := X_at (r := mi93) rfl rfl
theorem x93_84 {z : P0} : X z 93 84 = XI mT z (X z) (.goto 4, 3, 88, 0, 0, [], 0, 0) 93 84 := X_at (r := mi93) rfl rfl
theorem x93_87 {z : P0} : X z 93 87 = XI mT z (X z) (.iconst 0, 1, 0, 0, 0, [], nI 0, 0) 93 87 := X_at (r := mi93) rfl rfl
theorem x93_88 {z : P0} : X z 93 88 = XI mT z (X z) (.ireturn, 1, 0, 0, 0, [], 0, 0) 93 88 := X_at (r := mi93) rfl rfl
theorem x93_89 {z : P0} : X z 93 89 = XI mT z (X z) (.aload_n 3, 1, 3, 0, 0, [], 0, 0) 93 89 := X_at (r := mi93) rfl rfl
theorem x93_90 {z : P0} : X z 93 90 = XI mT z (X z) (.getfield 189, 3, 7, 6, 0, [107], 0, 0) 93 90 := X_at (r := mi93) rfl rfl
theorem x93_93 {z : P0} : X z 93 93 = XI mT z (X z) (.ireturn, 1, 0, 0, 0, [], 0, 0) 93 93 := X_at (r := mi93) rfl rfl
theorem x93_94 {z : P0} : X z 93 94 = XI mT z (X z) (.aload_n 3, 1, 3, 0, 0, [], 0, 0) 93 94 := X_at (r := mi93) rfl rfl
theorem x93_95 {z : P0} : X z 93 95 = XI mT z (X z) (.getfield 192, 3, 7, 7, 0, [108], 0, 0) 93 95 := X_at (r := mi93) rfl rfl
theorem x93_98 {z : P0} : X z 93 98 = XI mT z (X z) (.ireturn, 1, 0, 0, 0, [], 0, 0) 93 98 := X_at (r := mi93) rfl rfl
theorem x93_99 {z : P0} : X z 93 99 = XI mT z (X z) (.aload_n 0, 1, 0, 0, 0, [], 0, 0) 93 99 := X_at (r := mi93) rfl rfl
theorem x93_100 {z : P0} : X z 93 100 = XI mT z (X z) (.getfield 41, 3, 10, 3, 3, [89], 0, 0) 93 100 := X_at (r := mi93) rfl rfl
theorem x93_103 {z : P0} : X z 93 103 = XI mT z (X z) (.getfield 363, 3, 6, 3, 3, [120], 0, 0) 93 103 := X_at (r := mi93) rfl rfl
theorem x93_106 {z : P0} : X z 93 106 = XI mT z (X z) (.iload_n 1, 1, 1, 0, 0, [], 0, 0) 93 106 := X_at (r := mi93) rfl rfl
theorem x93_107 {z : P0} : X z 93 107 = XI mT z (X z) (.iaload, 1, 0, 0, 0, [], 0, 0) 93 107 := X_at (r := mi93) rfl rfl
theorem x93_108 {z : P0} : X z 93 108 = XI mT z (X z) (.ireturn, 1, 0, 0, 0, [], 0, 0) 93 108 := X_at (r := mi93) rfl rfl
theorem x93_109 {z : P0} : X z 93 109 = XI mT z (X z) (.aload_n 0, 1, 0, 0, 0, [], 0, 0) 93 109 := X_at (r := mi93) rfl rfl
theorem x93_110 {z : P0} : X z 93 110 = XI mT z (X z) (.getfield 41, 3, 10, 3, 3, [89], 0, 0) 93 110 := X_at (r := mi93) rfl rfl
theorem x93_113 {z : P0} : X z 93 113 = XI mT z (X z) (.getfield 183, 3, 6, 2, 3, [105], 0, 0) 93 113 := X_at (r := mi93) rfl rfl
theorem x93_116 {z : P0} : X z 93 116 = XI mT z (X z) (.iload_n 1, 1, 1, 0, 0, [], 0, 0) 93 116 := X_at (r := mi93) rfl rfl
theorem x93_117 {z : P0} : X z 93 117 = XI mT z (X z) (.iaload, 1, 0, 0, 0, [], 0, 0) 93 117 := X_at (r := mi93) rfl rfl
theorem x93_118 {z : P0} : X z 93 118 = XI mT z (X z) (.ireturn, 1, 0, 0, 0, [], 0, 0) 93 118 := X_at (r := mi93) rfl rfl
theorem x95_0 {z : P0} : X z 95 0 = XI mT z (X z) (.aload_n 0, 1, 0, 0, 0, [], 0, 0) 95 0 := X_at (r := mi95) rfl rfl
theorem x95_1 {z : P0} : X z 95 1 = XI mT z (X z) (.getfield 41, 3, 10, 3, 3, [89], 0, 0) 95 1 := X_at (r := mi95) rfl rfl
theorem x95_4 {z : P0} : X z 95 4 = XI mT z (X z) (.getfield 264, 3, 6, 0, 3, [114], 0, 0) 95 4 := X_at (r := mi95) rfl rfl
theorem x95_7 {z : P0} : X z 95 7 = XI mT z (X z) (.iload_n 1, 1, 1, 0, 0, [], 0, 0) 95 7 := X_at (r := mi95) rfl rfl
theorem x95_8 {z : P0} : X z 95 8 = XI mT z (X z) (.aaload, 1, 0, 0, 0, [], 0, 0) 95 8 := X_at (r := mi95) rfl rfl
theorem x95_9 {z : P0} : X z 95 9 = XI mT z (X z) (.astore_n 3, 1, 3, 0, 0, [], 0, 0) 95 9 := X_at (r := mi95) rfl rfl
theorem x95_10 {z : P0} : X z 95 10 = XI mT z (X z) (.iload_n 2, 1, 2, 0, 0, [], 0, 0) 95 10 := X_at (r := mi95) rfl rfl
theorem x95_11 {z : P0} : X z 95 11 = XI mT z (X z) (.tableswitch 88 0 6 #[41, 48, 53, 58, 63, 68, 73], 41, 99, 0, 0, [52, 59, 64, 69, 74, 79, 84], 0, 0) 95 11 := X_at (r := mi95) rfl rfl
theorem x95_52 {z : P0} : X z 95 52 = XI mT z (X z) (.aload_n 3, 1, 3, 0, 0, [], 0, 0) 95 52 := X_at (r := mi95) rfl rfl
theorem x95_53 {z : P0} : X z 95 53 = XI mT z (X z) (.getfield 381, 3, 2, 0, 3, [121], 0, 0) 95 53 := X_at (r := mi95) rfl rfl
theorem x95_56 {z : P0} : X z 95 56 = XI mT z (X z) (.iconst 0, 1, 0, 0, 0, [], nI 0, 0) 95 56 := X_at (r := mi95) rfl rfl
theorem x95_57 {z : P0} : X z 95 57 = XI mT z (X z) (.iaload, 1, 0, 0, 0, [], 0, 0) 95 57 := X_at (r := mi95) rfl rfl
theorem x95_58 {z : P0} : X z 95 58 = XI mT z (X z) (.ireturn, 1, 0, 0, 0, [], 0, 0) 95 58 := X_at (r := mi95) rfl rfl
theorem x95_59 {z : P0} : X z 95 59 = XI mT z (X z) (.aload_n 3, 1, 3, 0, 0, [], 0, 0) 95 59 := X_at (r := mi95) rfl rfl
theorem x95_60 {z : P0} : X z 95 60 = XI mT z (X z) (.getfield 383, 3, 2, 1, 0, [122], 0, 0) 95 60 := X_at (r := mi95) rfl rfl
theorem x95_63 {z : P0} : X z 95 63 = XI mT z (X z) (.ireturn, 1, 0, 0, 0, [], 0, 0) 95 63 := X_at (r := mi95) rfl rfl
theorem x95_64 {z : P0} : X z 95 64 = XI mT z (X z) (.aload_n 3, 1, 3, 0, 0, [], 0, 0) 95 64 := X_at (r := mi95) rfl rfl
theorem x95_65 {z : P0} : X z 95 65 = XI mT z (X z) (.getfield 384, 3, 2, 2, 0, [123], 0, 0) 95 65 := X_at (r := mi95) rfl rfl
theorem x95_68 {z : P0} : X z 95 68 = XI mT z (X z) (.ireturn, 1, 0, 0, 0, [], 0, 0) 95 68 := X_at (r := mi95) rfl rfl
theorem x95_69 {z : P0} : X z 95 69 = XI mT z (X z) (.aload_n 3, 1, 3, 0, 0, [], 0, 0) 95 69 := X_at (r := mi95) rfl rfl
theorem x95_70 {z : P0} : X z 95 70 = XI mT z (X z) (.getfield 268, 3, 2, 3, 0, [115], 0, 0) 95 70 := X_at (r := mi95) rfl rfl
theorem x95_73 {z : P0} : X z 95 73 = XI mT z (X z) (.ireturn, 1, 0, 0, 0, [], 0, 0) 95 73 := X_at (r := mi95) rfl rfl
theorem x95_74 {z : P0} : X z 95 74 = XI mT z (X z) (.aload_n 3, 1, 3, 0, 0, [], 0, 0) 95 74 := X_at (r := mi95) rfl rfl
theorem x95_75 {z : P0} : X z 95 75 = XI mT z (X z) (.getfield 385, 3, 2, 4, 0, [124], 0, 0) 95 75 := X_at (r := mi95) rfl rfl
theorem x95_78 {z : P0} : X z 95 78 = XI mT z (X z) (.ireturn, 1, 0, 0, 0, [], 0, 0) 95 78 := X_at (r := mi95) rfl rfl
theorem x95_79 {z : P0} : X z 95 79 = XI mT z (X z) (.aload_n 3, 1, 3, 0, 0, [], 0, 0) 95 79 := X_at (r := mi95) rfl rfl
theorem x95_80 {z : P0} : X z 95 80 = XI mT z (X z) (.getfield 388, 3, 2, 5, 0, [125], 0, 0) 95 80 := X_at (r := mi95) rfl rfl
theorem x95_83 {z : P0} : X z 95 83 = XI mT z (X z) (.ireturn, 1, 0, 0, 0, [], 0, 0) 95 83 := X_at (r := mi95) rfl rfl
theorem x95_84 {z : P0} : X z 95 84 = XI mT z (X z) (.aload_n 3, 1, 3, 0, 0, [], 0, 0) 95 84 := X_at (r := mi95) rfl rfl
theorem x95_85 {z : P0} : X z 95 85 = XI mT z (X z) (.getfield 388, 3, 2, 5, 0, [125], 0, 0) 95 85 := X_at (r := mi95) rfl rfl
theorem x95_88 {z : P0} : X z 95 88 = XI mT z (X z) (.aload_n 0, 1, 0, 0, 0, [], 0, 0) 95 88 := X_at (r := mi95) rfl rfl
theorem x95_89 {z : P0} : X z 95 89 = XI mT z (X z) (.getfield 10, 3, 10, 0, 3, [86], 0, 0) 95 89 := X_at (r := mi95) rfl rfl
theorem x95_92 {z : P0} : X z 95 92 = XI mT z (X z) (.getfield 168, 3, 8, 5, 3, [102], 0, 0) 95 92 := X_at (r := mi95) rfl rfl
theorem x95_95 {z : P0} : X z 95 95 = XI mT z (X z) (.iconst 5, 1, 0, 0, 0, [], nI 5, 0) 95 95 := X_at (r := mi95) rfl rfl
theorem x95_96 {z : P0} : X z 95 96 = XI mT z (X z) (.iaload, 1, 0, 0, 0, [], 0, 0) 95 96 := X_at (r := mi95) rfl rfl
theorem x95_97 {z : P0} : X z 95 97 = XI mT z (X z) (.imul, 1, 0, 0, 0, [], 0, 0) 95 97 := X_at (r := mi95) rfl rfl
theorem x95_98 {z : P0} : X z 95 98 = XI mT z (X z) (.ireturn, 1, 0, 0, 0, [], 0, 0) 95 98 := X_at (r := mi95) rfl rfl
theorem x95_99 {z : P0} : X z 95 99 = XI mT z (X z) (.aload_n 3, 1, 3, 0, 0, [], 0, 0) 95 99 := X_at (r := mi95) rfl rfl
theorem x95_100 {z : P0} : X z 95 100 = XI mT z (X z) (.getfield 388, 3, 2, 5, 0, [125], 0, 0) 95 100 := X_at (r := mi95) rfl rfl
theorem x95_103 {z : P0} : X z 95 103 = XI mT z (X z) (.aload_n 0, 1, 0, 0, 0, [], 0, 0) 95 103 := X_at (r := mi95) rfl rfl
theorem x95_104 {z : P0} : X z 95 104 = XI mT z (X z) (.getfield 10, 3, 10, 0, 3, [86], 0, 0) 95 104 := X_at (r := mi95) rfl rfl
theorem x95_107 {z : P0} : X z 95 107 = XI mT z (X z) (.getfield 168, 3, 8, 5, 3, [102], 0, 0) 95 107 := X_at (r := mi95) rfl rfl
theorem x95_110 {z : P0} : X z 95 110 = XI mT z (X z) (.iconst 4, 1, 0, 0, 0, [], nI 4, 0) 95 110 := X_at (r := mi95) rfl rfl
theorem x95_111 {z : P0} : X z 95 111 = XI mT z (X z) (.iaload, 1, 0, 0, 0, [], 0, 0) 95 111 := X_at (r := mi95) rfl rfl
theorem x95_112 {z : P0} : X z 95 112 = XI mT z (X z) (.if_icmp .gt 7, 3, 119, 0, 0, [], 0, 0) 95 112 := X_at (r := mi95) rfl rfl
theorem x95_115 {z : P0} : X z 95 115 = XI mT z (X z) (.iconst 1, 1, 0, 0, 0, [], nI 1, 0) 95 115 := X_at (r := mi95) rfl rfl
theorem x95_116 {z : P0} : X z 95 116 = XI mT z (X z) (.goto 4, 3, 120, 0, 0, [], 0, 0) 95 116 := X_at (r := mi95) rfl rfl
theorem x95_119 {z : P0} : X z 95 119 = XI mT z (X z) (.iconst 0, 1, 0, 0, 0, [], nI 0, 0) 95 119 := X_at (r := mi95) rfl rfl
theorem x95_120 {z : P0} : X z 95 120 = XI mT z (X z) (.ireturn, 1, 0, 0, 0, [], 0, 0) 95 120 := X_at (r := mi95) rfl rfl
theorem x96_0 {z : P0} : X z 96 0 = XI mT z (X z) (.iload_n 1, 1, 1, 0, 0, [], 0, 0) 96 0 := X_at (r := mi96) rfl rfl
theorem x96_1 {z : P0} : X z 96 1 = XI mT z (X z) (.tableswitch 189 0 13 #[71, 79, 87, 98, 106, 114, 122, 130, 138, 146, 154, 162, 170, 178], 71, 190, 0, 0, [72, 80, 88, 99, 107, 115, 123, 131, 139, 147, 155, 163, 171, 179], 0, 0) 96 1 := X_at (r := mi96) rfl rfl
theorem x96_72 {z : P0} : X z 96 72 = XI mT z (X z) (.aload_n 0, 1, 0, 0, 0, [], 0, 0) 96 72 := X_at (r := mi96) rfl rfl
theorem x96_73 {z : P0} : X z 96 73 = XI mT z (X z) (.getfield 10, 3, 10, 0, 3, [86], 0, 0) 96 73 := X_at (r := mi96) rfl rfl
theorem x96_76 {z : P0} : X z 96 76 = XI mT z (X z) (.getfield 68, 3, 8, 1, 0, [92], 0, 0) 96 76 := X_at (r := mi96) rfl rfl
theorem x96_79 {z : P0} : X z 96 79 = XI mT z (X z) (.ireturn, 1, 0, 0, 0, [], 0, 0) 96 79 := X_at (r := mi96) rfl rfl
theorem x96_80 {z : P0} : X z 96 80 = XI mT z (X z) (.aload_n 0, 1, 0, 0, 0, [], 0, 0) 96 80 := X_at (r := mi96) rfl rfl
theorem x96_81 {z : P0} : X z 96 81 = XI mT z (X z) (.getfield 10, 3, 10, 0, 3, [86], 0, 0) 96 81 := X_at (r := mi96) rfl rfl
theorem x96_84 {z : P0} : X z 96 84 = XI mT z (X z) (.getfield 96, 3, 8, 3, 0, [95], 0, 0) 96 84 := X_at (r := mi96) rfl rfl
theorem x96_87 {z : P0} : X z 96 87 = XI mT z (X z) (.ireturn, 1, 0, 0, 0, [], 0, 0) 96 87 := X_at (r := mi96) rfl rfl
theorem x96_88 {z : P0} : X z 96 88 = XI mT z (X z) (.aload_n 0, 1, 0, 0, 0, [], 0, 0) 96 88 := X_at (r := mi96) rfl rfl
theorem x96_89 {z : P0} : X z 96 89 = XI mT z (X z) (.getfield 10, 3, 10, 0, 3, [86], 0, 0) 96 89 := X_at (r := mi96) rfl rfl
theorem x96_92 {z : P0} : X z 96 92 = XI mT z (X z) (.getfield 112, 3, 8, 4, 3, [97], 0, 0) 96 92 := X_at (r := mi96) rfl rfl
theorem x96_95 {z : P0} : X z 96 95 = XI mT z (X z) (.invokevirtual 125, 3, 0, 29, 0, [70], 0, 0) 96 95 := X_at (r := mi96) rfl rfl
theorem x96_98 {z : P0} : X z 96 98 = XI mT z (X z) (.ireturn, 1, 0, 0, 0, [], 0, 0) 96 98 := X_at (r := mi96) rfl rfl
theorem x96_99 {z : P0} : X z 96 99 = XI mT z (X z) (.aload_n 0, 1, 0, 0, 0, [], 0, 0) 96 99 := X_at (r := mi96) rfl rfl
theorem x96_100 {z : P0} : X z 96 100 = XI mT z (X z) (.getfield 10, 3, 10, 0, 3, [86], 0, 0) 96 100 := X_at (r := mi96) rfl rfl
theorem x96_103 {z : P0} : X z 96 103 = XI mT z (X z) (.getfield 186, 3, 8, 6, 0, [106], 0, 0) 96 103 := X_at (r := mi96) rfl rfl
theorem x96_106 {z : P0} : X z 96 106 = XI mT z (X z) (.ireturn, 1, 0, 0, 0, [], 0, 0) 96 106 := X_at (r := mi96) rfl rfl
theorem x96_107 {z : P0} : X z 96 107 = XI mT z (X z) (.aload_n 0, 1, 0, 0, 0, [], 0, 0) 96 107 := X_at (r := mi96) rfl rfl
theorem x96_108 {z : P0} : X z 96 108 = XI mT z (X z) (.getfield 41, 3, 10, 3, 3, [89], 0, 0) 96 108 := X_at (r := mi96) rfl rfl
theorem x96_111 {z : P0} : X z 96 111 = XI mT z (X z) (.getfield 391, 3, 6, 1, 0, [126], 0, 0) 96 111 := X_at (r := mi96) rfl rfl
theorem x96_114 {z : P0} : X z 96 114 = XI mT z (X z) (.ireturn, 1, 0, 0, 0, [], 0, 0) 96 114 := X_at (r := mi96) rfl rfl
theorem x96_115 {z : P0} : X z 96 115 = XI mT z (X z) (.aload_n 0, 1, 0, 0, 0, [], 0, 0) 96 115 := X_at (r := mi96) rfl rfl
theorem x96_116 {z : P0} : X z 96 116 = XI mT z (X z) (.getfield 41, 3, 10, 3, 3, [89], 0, 0) 96 116 := X_at (r := mi96) rfl rfl
theorem x96_119 {z : P0} : X z 96 119 = XI mT z (X z) (.getfield 178, 3, 6, 8, 0, [104], 0, 0) 96 119 := X_at (r := mi96) rfl rfl
theorem x96_122 {z : P0} : X z 96 122 = XI mT z (X z) (.ireturn, 1, 0, 0, 0, [], 0, 0) 96 122 := X_at (r := mi96) rfl rfl
theorem x96_123 {z : P0} : X z 96 123 = XI mT z (X z) (.aload_n 0, 1, 0, 0, 0, [], 0, 0) 96 123 := X_at (r := mi96) rfl rfl
theorem x96_124 {z : P0} : X z 96 124 = XI mT z (X z) (.getfield 41, 3, 10, 3, 3, [89], 0, 0) 96 124 := X_at (r := mi96) rfl rfl
theorem x96_127 {z : P0} : X z 96 127 = XI mT z (X z) (.getfield 300, 3, 6, 9, 0, [127], 0, 0) 96 127 := X_at (r := mi96) rfl rfl
theorem x96_130 {z : P0} : X z 96 130 = XI mT z (X z) (.ireturn, 1, 0, 0, 0, [], 0, 0) 96 130 := X_at (r := mi96) rfl rfl
theorem x96_131 {z : P0} : X z 96 131 = XI mT z (X z) (.aload_n 0, 1, 0, 0, 0, [], 0, 0) 96 131 := X_at (r := mi96) rfl rfl
theorem x96_132 {z : P0} : X z 96 132 = XI mT z (X z) (.getfield 41, 3, 10, 3, 3, [89], 0, 0) 96 132 := X_at (r := mi96) rfl rfl
theorem x96_135 {z : P0} : X z 96 135 = XI mT z (X z) (.getfield 201, 3, 6, 10, 0, [111], 0, 0) 96 135 := X_at (r := mi96) rfl rfl
theorem x96_138 {z : P0} : X z 96 138 = XI mT z (X z) (.ireturn, 1, 0, 0, 0, [], 0, 0) 96 138 := X_at (r := mi96) rfl rfl
theorem x96_139 {z : P0} : X z 96 139 = XI mT z (X z) (.aload_n 0, 1, 0, 0, 0, [], 0, 0) 96 139 := X_at (r := mi96) rfl rfl
theorem x96_140 {z : P0} : X z 96 140 = XI mT z (X z) (.getfield 41, 3, 10, 3, 3, [89], 0, 0) 96 140 := X_at (r := mi96) rfl rfl
theorem x96_143 {z : P0} : X z 96 143 = XI mT z (X z) (.getfield 207, 3, 6, 11, 0, [113], 0, 0) 96 143 := X_at (r := mi96) rfl rfl
theorem x96_146 {z : P0} : X z 96 146 = XI mT z (X z) (.ireturn, 1, 0, 0, 0, [], 0, 0) 96 146 := X_at (r := mi96) rfl rfl
theorem x96_147 {z : P0} : X z 96 147 = XI mT z (X z) (.aload_n 0, 1, 0, 0, 0, [], 0, 0) 96 147 := X_at (r := mi96) rfl rfl
theorem x96_148 {z : P0} : X z 96 148 = XI mT z (X z) (.getfield 10, 3, 10, 0, 3, [86], 0, 0) 96 148 := X_at (r := mi96) rfl rfl
theorem x96_151 {z : P0} : X z 96 151 = XI mT z (X z) (.getfield 195, 3, 8, 7, 0, [109], 0, 0) 96 151 := X_at (r := mi96) rfl rfl
theorem x96_154 {z : P0} : X z 96 154 = XI mT z (X z) (.ireturn, 1, 0, 0, 0, [], 0, 0) 96 154 := X_at (r := mi96) rfl rfl
theorem x96_155 {z : P0} : X z 96 155 = XI mT z (X z) (.aload_n 0, 1, 0, 0, 0, [], 0, 0) 96 155 := X_at (r := mi96) rfl rfl
theorem x96_156 {z : P0} : X z 96 156 = XI mT z (X z) (.getfield 10, 3, 10, 0, 3, [86], 0, 0) 96 156 := X_at (r := mi96) rfl rfl
theorem x96_159 {z : P0} : X z 96 159 = XI mT z (X z) (.getfield 198, 3, 8, 8, 0, [110], 0, 0) 96 159 := X_at (r := mi96) rfl rfl
theorem x96_162 {z : P0} : X z 96 162 = XI mT z (X z) (.ireturn, 1, 0, 0, 0, [], 0, 0) 96 162 := X_at (r := mi96) rfl rfl
theorem x96_163 {z : P0} : X z 96 163 = XI mT z (X z) (.aload_n 0, 1, 0, 0, 0, [], 0, 0) 96 163 := X_at (r := mi96) rfl rfl
theorem x96_164 {z : P0} : X z 96 164 = XI mT z (X z) (.getfield 10, 3, 10, 0, 3, [86], 0, 0) 96 164 := X_at (r := mi96) rfl rfl
theorem x96_167 {z : P0} : X z 96 167 = XI mT z (X z) (.getfield 204, 3, 8, 9, 0, [112], 0, 0) 96 167 := X_at (r := mi96) rfl rfl
theorem x96_170 {z : P0} : X z 96 170 = XI mT z (X z) (.ireturn, 1, 0, 0, 0, [], 0, 0) 96 170 := X_at (r := mi96) rfl rfl
theorem x96_171 {z : P0} : X z 96 171 = XI mT z (X z) (.aload_n 0, 1, 0, 0, 0, [], 0, 0) 96 171 := X_at (r := mi96) rfl rfl
theorem x96_172 {z : P0} : X z 96 172 = XI mT z (X z) (.getfield 10, 3, 10, 0, 3, [86], 0, 0) 96 172 := X_at (r := mi96) rfl rfl
theorem x96_175 {z : P0} : X z 96 175 = XI mT z (X z) (.invokevirtual 154, 3, 0, 50, 0, [73], 0, 0) 96 175 := X_at (r := mi96) rfl rfl
theorem x96_178 {z : P0} : X z 96 178 = XI mT z (X z) (.ireturn, 1, 0, 0, 0, [], 0, 0) 96 178 := X_at (r := mi96) rfl rfl
theorem x96_179 {z : P0} : X z 96 179 = XI mT z (X z) (.aload_n 0, 1, 0, 0, 0, [], 0, 0) 96 179 := X_at (r := mi96) rfl rfl
theorem x96_180 {z : P0} : X z 96 180 = XI mT z (X z) (.getfield 10, 3, 10, 0, 3, [86], 0, 0) 96 180 := X_at (r := mi96) rfl rfl
theorem x96_183 {z : P0} : X z 96 183 = XI mT z (X z) (.getfield 112, 3, 8, 4, 3, [97], 0, 0) 96 183 := X_at (r := mi96) rfl rfl
theorem x96_186 {z : P0} : X z 96 186 = XI mT z (X z) (.invokevirtual 394, 3, 0, 30, 0, [84], 0, 0) 96 186 := X_at (r := mi96) rfl rfl
theorem x96_189 {z : P0} : X z 96 189 = XI mT z (X z) (.ireturn, 1, 0, 0, 0, [], 0, 0) 96 189 := X_at (r := mi96) rfl rfl
theorem x96_190 {z : P0} : X z 96 190 = XI mT z (X z) (.aload_n 0, 1, 0, 0, 0, [], 0, 0) 96 190 := X_at (r := mi96) rfl rfl
theorem x96_191 {z : P0} : X z 96 191 = XI mT z (X z) (.getfield 19, 3, 10, 1, 3, [87], 0, 0) 96 191 := X_at (r := mi96) rfl rfl
theorem x96_194 {z : P0} : X z 96 194 = XI mT z (X z) (.getfield 224, 3, 3, 1, 0, [128], 0, 0) 96 194 := X_at (r := mi96) rfl rfl
theorem x96_197 {z : P0} : X z 96 197 = XI mT z (X z) (.ireturn, 1, 0, 0, 0, [], 0, 0) 96 197 := X_at (r := mi96) rfl rfl
