theorem x57_0 {z : P0} : X z 57 0 = XI mT z (X z) (.aload_n 0, 1, 0, 0, 0, [], 0, 0) 57 0 := X_at (r := mi57) rfl rfl
theorem x57_1 {z : P0} : X z 57 1 = XI mT z (X z) (.invokespecial 1, 3, 0, 9003, 0, [58], 0, 0) 57 1 := X_at (r := mi57) rfl rfl
theorem x57_4 {z : P0} : X z 57 4 = XI mT z (X z) (.aload_n 0, 1, 0, 0, 0, [], 0, 0) 57 4 := X_at (r := mi57) rfl rfl
theorem x57_5 {z : P0} : X z 57 5 = XI mT z (X z) (.new 7, 3, 8, 10, 0, [34], 0, 0) 57 5 := X_at (r := mi57) rfl rfl
theorem x57_8 {z : P0} : X z 57 8 = XI mT z (X z) (.dup, 1, 0, 0, 0, [], 0, 0) 57 8 := X_at (r := mi57) rfl rfl
theorem x57_9 {z : P0} : X z 57 9 = XI mT z (X z) (.invokespecial 9, 3, 0, 47, 0, [59], 0, 0) 57 9 := X_at (r := mi57) rfl rfl
theorem x57_12 {z : P0} : X z 57 12 = XI mT z (X z) (.putfield 10, 3, 10, 0, 3, [87], 0, 0) 57 12 := X_at (r := mi57) rfl rfl
theorem x57_15 {z : P0} : X z 57 15 = XI mT z (X z) (.aload_n 0, 1, 0, 0, 0, [], 0, 0) 57 15 := X_at (r := mi57) rfl rfl
theorem x57_16 {z : P0} : X z 57 16 = XI mT z (X z) (.new 16, 3, 3, 2, 0, [182], 0, 0) 57 16 := X_at (r := mi57) rfl rfl
theorem x57_19 {z : P0} : X z 57 19 = XI mT z (X z) (.dup, 1, 0, 0, 0, [], 0, 0) 57 19 := X_at (r := mi57) rfl rfl
theorem x57_20 {z : P0} : X z 57 20 = XI mT z (X z) (.invokespecial 18, 3, 0, 23, 0, [60], 0, 0) 57 20 := X_at (r := mi57) rfl rfl
theorem x57_23 {z : P0} : X z 57 23 = XI mT z (X z) (.putfield 19, 3, 10, 1, 3, [88], 0, 0) 57 23 := X_at (r := mi57) rfl rfl
theorem x57_26 {z : P0} : X z 57 26 = XI mT z (X z) (.aload_n 0, 1, 0, 0, 0, [], 0, 0) 57 26 := X_at (r := mi57) rfl rfl
theorem x57_27 {z : P0} : X z 57 27 = XI mT z (X z) (.new 23, 3, 0, 2, 0, [199], 0, 0) 57 27 := X_at (r := mi57) rfl rfl
theorem x57_30 {z : P0} : X z 57 30 = XI mT z (X z) (.dup, 1, 0, 0, 0, [], 0, 0) 57 30 := X_at (r := mi57) rfl rfl
theorem x57_31 {z : P0} : X z 57 31 = XI mT z (X z) (.invokespecial 25, 3, 0, 0, 1, [61], 0, 0) 57 31 := X_at (r := mi57) rfl rfl
theorem x57_34 {z : P0} : X z 57 34 = XI mT z (X z) (.putfield 26, 3, 10, 2, 3, [89], 0, 0) 57 34 := X_at (r := mi57) rfl rfl
theorem x57_37 {z : P0} : X z 57 37 = XI mT z (X z) (.new 30, 3, 1, 3, 0, [218], 0, 0) 57 37 := X_at (r := mi57) rfl rfl
theorem x57_40 {z : P0} : X z 57 40 = XI mT z (X z) (.dup, 1, 0, 0, 0, [], 0, 0) 57 40 := X_at (r := mi57) rfl rfl
theorem x57_41 {z : P0} : X z 57 41 = XI mT z (X z) (.invokespecial 32, 3, 0, 9, 1, [62], 0, 0) 57 41 := X_at (r := mi57) rfl rfl
theorem x57_44 {z : P0} : X z 57 44 = XI mT z (X z) (.astore_n 1, 1, 1, 0, 0, [], 0, 0) 57 44 := X_at (r := mi57) rfl rfl
theorem x57_45 {z : P0} : X z 57 45 = XI mT z (X z) (.new 33, 3, 5, 5, 0, [238], 0, 0) 57 45 := X_at (r := mi57) rfl rfl
theorem x57_48 {z : P0} : X z 57 48 = XI mT z (X z) (.dup, 1, 0, 0, 0, [], 0, 0) 57 48 := X_at (r := mi57) rfl rfl
theorem x57_49 {z : P0} : X z 57 49 = XI mT z (X z) (.invokespecial 35, 3, 0, 32, 1, [63], 0, 0) 57 49 := X_at (r := mi57) rfl rfl
theorem x57_52 {z : P0} : X z 57 52 = XI mT z (X z) (.astore_n 2, 1, 2, 0, 0, [], 0, 0) 57 52 := X_at (r := mi57) rfl rfl
theorem x57_53 {z : P0} : X z 57 53 = XI mT z (X z) (.aload_n 0, 1, 0, 0, 0, [], 0, 0) 57 53 := X_at (r := mi57) rfl rfl
theorem x57_54 {z : P0} : X z 57 54 = XI mT z (X z) (.new 36, 3, 6, 12, 0, [262], 0, 0) 57 54 := X_at (r := mi57) rfl rfl
theorem x57_57 {z : P0} : X z 57 57 = XI mT z (X z) (.dup, 1, 0, 0, 0, [], 0, 0) 57 57 := X_at (r := mi57) rfl rfl
theorem x57_58 {z : P0} : X z 57 58 = XI mT z (X z) (.aload_n 1, 1, 1, 0, 0, [], 0, 0) 57 58 := X_at (r := mi57) rfl rfl
theorem x57_59 {z : P0} : X z 57 59 = XI mT z (X z) (.aload_n 2, 1, 2, 0, 0, [], 0, 0) 57 59 := X_at (r := mi57) rfl rfl
theorem x57_60 {z : P0} : X z 57 60 = XI mT z (X z) (.invokespecial 38, 3, 2, 36, 0, [64], 0, 0) 57 60 := X_at (r := mi57) rfl rfl
theorem x57_63 {z : P0} : X z 57 63 = XI mT z (X z) (.putfield 41, 3, 10, 3, 3, [90], 0, 0) 57 63 := X_at (r := mi57) rfl rfl
theorem x57_66 {z : P0} : X z 57 66 = XI mT z (X z) (.aload_n 0, 1, 0, 0, 0, [], 0, 0) 57 66 := X_at (r := mi57) rfl rfl
theorem x57_67 {z : P0} : X z 57 67 = XI mT z (X z) (.new 36, 3, 6, 12, 0, [262], 0, 0) 57 67 := X_at (r := mi57) rfl rfl
theorem x57_70 {z : P0} : X z 57 70 = XI mT z (X z) (.dup, 1, 0, 0, 0, [], 0, 0) 57 70 := X_at (r := mi57) rfl rfl
theorem x57_71 {z : P0} : X z 57 71 = XI mT z (X z) (.aload_n 1, 1, 1, 0, 0, [], 0, 0) 57 71 := X_at (r := mi57) rfl rfl
theorem x57_72 {z : P0} : X z 57 72 = XI mT z (X z) (.aload_n 2, 1, 2, 0, 0, [], 0, 0) 57 72 := X_at (r := mi57) rfl rfl
theorem x57_73 {z : P0} : X z 57 73 = XI mT z (X z) (.invokespecial 38, 3, 2, 36, 0, [64], 0, 0) 57 73 := X_at (r := mi57) rfl rfl
theorem x57_76 {z : P0} : X z 57 76 = XI mT z (X z) (.putfield 45, 3, 10, 4, 3, [91], 0, 0) 57 76 := X_at (r := mi57) rfl rfl
theorem x57_79 {z : P0} : X z 57 79 = XI mT z (X z) (.aload_n 0, 1, 0, 0, 0, [], 0, 0) 57 79 := X_at (r := mi57) rfl rfl
theorem x57_80 {z : P0} : X z 57 80 = XI mT z (X z) (.bipush 6, 2, 0, 0, 0, [], nI 6, 0) 57 80 := X_at (r := mi57) rfl rfl
theorem x57_82 {z : P0} : X z 57 82 = XI mT z (X z) (.newarray .int, 2, 20, 0, 0, [], 0, 0) 57 82 := X_at (r := mi57) rfl rfl
theorem x57_84 {z : P0} : X z 57 84 = XI mT z (X z) (.putfield 48, 3, 10, 5, 3, [92], 0, 0) 57 84 := X_at (r := mi57) rfl rfl
theorem x57_87 {z : P0} : X z 57 87 = XI mT z (X z) (.return_, 1, 0, 0, 0, [], 0, 0) 57 87 := X_at (r := mi57) rfl rfl
theorem x58_0 {z : P0} : X z 58 0 = XI mT z (X z) (.iload_n 1, 1, 1, 0, 0, [], 0, 0) 58 0 := X_at (r := mi58) rfl rfl
theorem x58_1 {z : P0} : X z 58 1 = XI mT z (X z) (.invokestatic 52, 3, 1, 85, 0, [65], 0, 0) 58 1 := X_at (r := mi58) rfl rfl
theorem x58_4 {z : P0} : X z 58 4 = XI mT z (X z) (.ifCond .eq 12, 3, 16, 0, 0, [], 0, 0) 58 4 := X_at (r := mi58) rfl rfl
theorem x58_7 {z : P0} : X z 58 7 = XI mT z (X z) (.iload_n 2, 1, 2, 0, 0, [], 0, 0) 58 7 := X_at (r := mi58) rfl rfl
theorem x58_8 {z : P0} : X z 58 8 = XI mT z (X z) (.ifCond .lt 8, 3, 16, 0, 0, [], 0, 0) 58 8 := X_at (r := mi58) rfl rfl
theorem x58_11 {z : P0} : X z 58 11 = XI mT z (X z) (.iload_n 2, 1, 2, 0, 0, [], 0, 0) 58 11 := X_at (r := mi58) rfl rfl
theorem x58_12 {z : P0} : X z 58 12 = XI mT z (X z) (.iconst 3, 1, 0, 0, 0, [], nI 3, 0) 58 12 := X_at (r := mi58) rfl rfl
theorem x58_13 {z : P0} : X z 58 13 = XI mT z (X z) (.if_icmp .lt 13, 3, 26, 0, 0, [], 0, 0) 58 13 := X_at (r := mi58) rfl rfl
theorem x58_16 {z : P0} : X z 58 16 = XI mT z (X z) (.new 56, 3, 0, 0, 9, [632], 0, 0) 58 16 := X_at (r := mi58) rfl rfl
theorem x58_19 {z : P0} : X z 58 19 = XI mT z (X z) (.dup, 1, 0, 0, 0, [], 0, 0) 58 19 := X_at (r := mi58) rfl rfl
theorem x58_20 {z : P0} : X z 58 20 = XI mT z (X z) (.ldc 58, 2, 0, 0, 98, [], 0, 0) 58 20 := X_at (r := mi58) rfl rfl
theorem x58_22 {z : P0} : X z 58 22 = XI mT z (X z) (.invokespecial 60, 3, 0, 9999, 0, [], 0, 0) 58 22 := X_at (r := mi58) rfl rfl
theorem x58_25 {z : P0} : X z 58 25 = XI mT z (X z) (.athrow, 1, 0, 0, 0, [], 0, 0) 58 25 := X_at (r := mi58) rfl rfl
theorem x58_26 {z : P0} : X z 58 26 = XI mT z (X z) (.aload_n 0, 1, 0, 0, 0, [], 0, 0) 58 26 := X_at (r := mi58) rfl rfl
theorem x58_27 {z : P0} : X z 58 27 = XI mT z (X z) (.getfield 26, 3, 10, 2, 3, [89], 0, 0) 58 27 := X_at (r := mi58) rfl rfl
theorem x58_30 {z : P0} : X z 58 30 = XI mT z (X z) (.iconst 0, 1, 0, 0, 0, [], nI 0, 0) 58 30 := X_at (r := mi58) rfl rfl
theorem x58_31 {z : P0} : X z 58 31 = XI mT z (X z) (.invokevirtual 63, 3, 1, 2, 0, [66], 0, 0) 58 31 := X_at (r := mi58) rfl rfl
theorem x58_34 {z : P0} : X z 58 34 = XI mT z (X z) (.ifCond .ne 13, 3, 47, 0, 0, [], 0, 0) 58 34 := X_at (r := mi58) rfl rfl
theorem x58_37 {z : P0} : X z 58 37 = XI mT z (X z) (.new 56, 3, 0, 0, 9, [632], 0, 0) 58 37 := X_at (r := mi58) rfl rfl
theorem x58_40 {z : P0} : X z 58 40 = XI mT z (X z) (.dup, 1, 0, 0, 0, [], 0, 0) 58 40 := X_at (r := mi58) rfl rfl
theorem x58_41 {z : P0} : X z 58 41 = XI mT z (X z) (.ldc 66, 2, 0, 0, 98, [], 0, 0) 58 41 := X_at (r := mi58) rfl rfl
theorem x58_43 {z : P0} : X z 58 43 = XI mT z (X z) (.invokespecial 60, 3, 0, 9999, 0, [], 0, 0) 58 43 := X_at (r := mi58) rfl rfl
theorem x58_46 {z : P0} : X z 58 46 = XI mT z (X z) (.athrow, 1, 0, 0, 0, [], 0, 0) 58 46 := X_at (r := mi58) rfl rfl
theorem x58_47 {z : P0} : X z 58 47 = XI mT z (X z) (.aload_n 0, 1, 0, 0, 0, [], 0, 0) 58 47 := X_at (r := mi58) rfl rfl
theorem x58_48 {z : P0} : X z 58 48 = XI mT z (X z) (.getfield 10, 3, 10, 0, 3, [87], 0, 0) 58 48 := X_at (r := mi58) rfl rfl
theorem x58_51 {z : P0} : X z 58 51 = XI mT z (X z) (.getfield 68, 3, 8, 1, 0, [93], 0, 0) 58 51 := X_at (r := mi58) rfl rfl
theorem x58_54 {z : P0} : X z 58 54 = XI mT z (X z) (.bipush 20, 2, 0, 0, 0, [], nI 20, 0) 58 54 := X_at (r := mi58) rfl rfl
theorem x58_56 {z : P0} : X z 58 56 = XI mT z (X z) (.if_icmp .lt 13, 3, 69, 0, 0, [], 0, 0) 58 56 := X_at (r := mi58) rfl rfl
theorem x58_59 {z : P0} : X z 58 59 = XI mT z (X z) (.new 72, 3, 1, 0, 9, [726], 0, 0) 58 59 := X_at (r := mi58) rfl rfl
theorem x58_62 {z : P0} : X z 58 62 = XI mT z (X z) (.dup, 1, 0, 0, 0, [], 0, 0) 58 62 := X_at (r := mi58) rfl rfl
theorem x58_63 {z : P0} : X z 58 63 = XI mT z (X z) (.ldc 74, 2, 0, 0, 98, [], 0, 0) 58 63 := X_at (r := mi58) rfl rfl
theorem x58_65 {z : P0} : X z 58 65 = XI mT z (X z) (.invokespecial 76, 3, 0, 9999, 0, [], 0, 0) 58 65 := X_at (r := mi58) rfl rfl
theorem x58_68 {z : P0} : X z 58 68 = XI mT z (X z) (.athrow, 1, 0, 0, 0, [], 0, 0) 58 68 := X_at (r := mi58) rfl rfl
theorem x58_69 {z : P0} : X z 58 69 = XI mT z (X z) (.aload_n 0, 1, 0, 0, 0, [], 0, 0) 58 69 := X_at (r := mi58) rfl rfl
theorem x58_70 {z : P0} : X z 58 70 = XI mT z (X z) (.getfield 19, 3, 10, 1, 3, [88], 0, 0) 58 70 := X_at (r := mi58) rfl rfl
theorem x58_73 {z : P0} : X z 58 73 = XI mT z (X z) (.aload_n 0, 1, 0, 0, 0, [], 0, 0) 58 73 := X_at (r := mi58) rfl rfl
theorem x58_74 {z : P0} : X z 58 74 = XI mT z (X z) (.getfield 10, 3, 10, 0, 3, [87], 0, 0) 58 74 := X_at (r := mi58) rfl rfl
theorem x58_77 {z : P0} : X z 58 77 = XI mT z (X z) (.invokevirtual 77, 3, 1, 24, 0, [67], 0, 0) 58 77 := X_at (r := mi58) rfl rfl
theorem x58_80 {z : P0} : X z 58 80 = XI mT z (X z) (.aload_n 0, 1, 0, 0, 0, [], 0, 0) 58 80 := X_at (r := mi58) rfl rfl
theorem x58_81 {z : P0} : X z 58 81 = XI mT z (X z) (.getfield 10, 3, 10, 0, 3, [87], 0, 0) 58 81 := X_at (r := mi58) rfl rfl
theorem x58_84 {z : P0} : X z 58 84 = XI mT z (X z) (.getfield 68, 3, 8, 1, 0, [93], 0, 0) 58 84 := X_at (r := mi58) rfl rfl
theorem x58_87 {z : P0} : X z 58 87 = XI mT z (X z) (.istore_n 3, 1, 3, 0, 0, [], 0, 0) 58 87 := X_at (r := mi58) rfl rfl
theorem x58_88 {z : P0} : X z 58 88 = XI mT z (X z) (.aload_n 0, 1, 0, 0, 0, [], 0, 0) 58 88 := X_at (r := mi58) rfl rfl
theorem x58_89 {z : P0} : X z 58 89 = XI mT z (X z) (.getfield 10, 3, 10, 0, 3, [87], 0, 0) 58 89 := X_at (r := mi58) rfl rfl
theorem x58_92 {z : P0} : X z 58 92 = XI mT z (X z) (.getfield 81, 3, 8, 0, 3, [94], 0, 0) 58 92 := X_at (r := mi58) rfl rfl
theorem x58_95 {z : P0} : X z 58 95 = XI mT z (X z) (.iload_n 3, 1, 3, 0, 0, [], 0, 0) 58 95 := X_at (r := mi58) rfl rfl
theorem x58_96 {z : P0} : X z 58 96 = XI mT z (X z) (.aaload, 1, 0, 0, 0, [], 0, 0) 58 96 := X_at (r := mi58) rfl rfl
theorem x58_97 {z : P0} : X z 58 97 = XI mT z (X z) (.aload_n 0, 1, 0, 0, 0, [], 0, 0) 58 97 := X_at (r := mi58) rfl rfl
theorem x58_98 {z : P0} : X z 58 98 = XI mT z (X z) (.getfield 26, 3, 10, 2, 3, [89], 0, 0) 58 98 := X_at (r := mi58) rfl rfl
theorem x58_101 {z : P0} : X z 58 101 = XI mT z (X z) (.iload_n 1, 1, 1, 0, 0, [], 0, 0) 58 101 := X_at (r := mi58) rfl rfl
theorem x58_102 {z : P0} : X z 58 102 = XI mT z (X z) (.iload_n 2, 1, 2, 0, 0, [], 0, 0) 58 102 := X_at (r := mi58) rfl rfl
theorem x58_103 {z : P0} : X z 58 103 = XI mT z (X z) (.invokevirtual 85, 3, 3, 45, 0, [68], 0, 0) 58 103 := X_at (r := mi58) rfl rfl
theorem x58_106 {z : P0} : X z 58 106 = XI mT z (X z) (.aload_n 0, 1, 0, 0, 0, [], 0, 0) 58 106 := X_at (r := mi58) rfl rfl
theorem x58_107 {z : P0} : X z 58 107 = XI mT z (X z) (.getfield 10, 3, 10, 0, 3, [87], 0, 0) 58 107 := X_at (r := mi58) rfl rfl
theorem x58_110 {z : P0} : X z 58 110 = XI mT z (X z) (.iload_n 3, 1, 3, 0, 0, [], 0, 0) 58 110 := X_at (r := mi58) rfl rfl
theorem x58_111 {z : P0} : X z 58 111 = XI mT z (X z) (.iconst 1, 1, 0, 0, 0, [], nI 1, 0) 58 111 := X_at (r := mi58) rfl rfl
theorem x58_112 {z : P0} : X z 58 112 = XI mT z (X z) (.iadd, 1, 0, 0, 0, [], 0, 0) 58 112 := X_at (r := mi58) rfl rfl
theorem x58_113 {z : P0} : X z 58 113 = XI mT z (X z) (.putfield 68, 3, 8, 1, 0, [93], 0, 0) 58 113 := X_at (r := mi58) rfl rfl
theorem x58_116 {z : P0} : X z 58 116 = XI mT z (X z) (.aload_n 0, 1, 0, 0, 0, [], 0, 0) 58 116 := X_at (r := mi58) rfl rfl
theorem x58_117 {z : P0} : X z 58 117 = XI mT z (X z) (.getfield 26, 3, 10, 2, 3, [89], 0, 0) 58 117 := X_at (r := mi58) rfl rfl
theorem x58_120 {z : P0} : X z 58 120 = XI mT z (X z) (.iconst 0, 1, 0, 0, 0, [], nI 0, 0) 58 120 := X_at (r := mi58) rfl rfl
theorem x58_121 {z : P0} : X z 58 121 = XI mT z (X z) (.putfield 91, 3, 0, 1, 0, [95], 0, 0) 58 121 := X_at (r := mi58) rfl rfl
theorem x58_124 {z : P0} : X z 58 124 = XI mT z (X z) (.iload_n 3, 1, 3, 0, 0, [], 0, 0) 58 124 := X_at (r := mi58) rfl rfl
theorem x58_125 {z : P0} : X z 58 125 = XI mT z (X z) (.ireturn, 1, 0, 0, 0, [], 0, 0) 58 125 := X_at (r := mi58) rfl rfl
theorem x59_0 {z : P0} : X z 59 0 = XI mT z (X z) (.aload_n 0, 1, 0, 0, 0, [], 0, 0) 59 0 := X_at (r := mi59) rfl rfl
theorem x59_1 {z : P0} : X z 59 1 = XI mT z (X z) (.getfield 26, 3, 10, 2, 3, [89], 0, 0) 59 1 := X_at (r := mi59) rfl rfl
theorem x59_4 {z : P0} : X z 59 4 = XI mT z (X z) (.iconst 1, 1, 0, 0, 0, [], nI 1, 0) 59 4 := X_at (r := mi59) rfl rfl
theorem x59_5 {z : P0} : X z 59 5 = XI mT z (X z) (.invokevirtual 63, 3, 1, 2, 0, [66], 0, 0) 59 5 := X_at (r := mi59) rfl rfl
theorem x59_8 {z : P0} : X z 59 8 = XI mT z (X z) (.ifCond .ne 13, 3, 21, 0, 0, [], 0, 0) 59 8 := X_at (r := mi59) rfl rfl
theorem x59_11 {z : P0} : X z 59 11 = XI mT z (X z) (.new 56, 3, 0, 0, 9, [632], 0, 0) 59 11 := X_at (r := mi59) rfl rfl
theorem x59_14 {z : P0} : X z 59 14 = XI mT z (X z) (.dup, 1, 0, 0, 0, [], 0, 0) 59 14 := X_at (r := mi59) rfl rfl
theorem x59_15 {z : P0} : X z 59 15 = XI mT z (X z) (.ldc 94, 2, 0, 0, 98, [], 0, 0) 59 15 := X_at (r := mi59) rfl rfl
theorem x59_17 {z : P0} : X z 59 17 = XI mT z (X z) (.invokespecial 60, 3, 0, 9999, 0, [], 0, 0) 59 17 := X_at (r := mi59) rfl rfl
theorem x59_20 {z : P0} : X z 59 20 = XI mT z (X z) (.athrow, 1, 0, 0, 0, [], 0, 0) 59 20 := X_at (r := mi59) rfl rfl
theorem x59_21 {z : P0} : X z 59 21 = XI mT z (X z) (.aload_n 0, 1, 0, 0, 0, [], 0, 0) 59 21 := X_at (r := mi59) rfl rfl
theorem x59_22 {z : P0} : X z 59 22 = XI mT z (X z) (.getfield 10, 3, 10, 0, 3, [87], 0, 0) 59 22 := X_at (r := mi59) rfl rfl
theorem x59_25 {z : P0} : X z 59 25 = XI mT z (X z) (.getfield 96, 3, 8, 3, 0, [96], 0, 0) 59 25 := X_at (r := mi59) rfl rfl
theorem x59_28 {z : P0} : X z 59 28 = XI mT z (X z) (.bipush 10, 2, 0, 0, 0, [], nI 10, 0) 59 28 := X_at (r := mi59) rfl rfl
theorem x59_30 {z : P0} : X z 59 30 = XI mT z (X z) (.if_icmp .lt 13, 3, 43, 0, 0, [], 0, 0) 59 30 := X_at (r := mi59) rfl rfl
theorem x59_33 {z : P0} : X z 59 33 = XI mT z (X z) (.new 72, 3, 1, 0, 9, [726], 0, 0) 59 33 := X_at (r := mi59) rfl rfl
theorem x59_36 {z : P0} : X z 59 36 = XI mT z (X z) (.dup, 1, 0, 0, 0, [], 0, 0) 59 36 := X_at (r := mi59) rfl rfl
theorem x59_37 {z : P0} : X z 59 37 = XI mT z (X z) (.ldc 99, 2, 0, 0, 98, [], 0, 0) 59 37 := X_at (r := mi59) rfl rfl
theorem x59_39 {z : P0} : X z 59 39 = XI mT z (X z) (.invokespecial 76, 3, 0, 9999, 0, [], 0, 0) 59 39 := X_at (r := mi59) rfl rfl
theorem x59_42 {z : P0} : X z 59 42 = XI mT z (X z) (.athrow, 1, 0, 0, 0, [], 0, 0) 59 42 := X_at (r := mi59) rfl rfl
theorem x59_43 {z : P0} : X z 59 43 = XI mT z (X z) (.aload_n 0, 1, 0, 0, 0, [], 0, 0) 59 43 := X_at (r := mi59) rfl rfl
theorem x59_44 {z : P0} : X z 59 44 = XI mT z (X z) (.getfield 19, 3, 10, 1, 3, [88], 0, 0) 59 44 := X_at (r := mi59) rfl rfl
theorem x59_47 {z : P0} : X z 59 47 = XI mT z (X z) (.aload_n 0, 1, 0, 0, 0, [], 0, 0) 59 47 := X_at (r := mi59) rfl rfl
theorem x59_48 {z : P0} : X z 59 48 = XI mT z (X z) (.getfield 10, 3, 10, 0, 3, [87], 0, 0) 59 48 := X_at (r := mi59) rfl rfl
theorem x59_51 {z : P0} : X z 59 51 = XI mT z (X z) (.invokevirtual 77, 3, 1, 24, 0, [67], 0, 0) 59 51 := X_at (r := mi59) rfl rfl
theorem x59_54 {z : P0} : X z 59 54 = XI mT z (X z) (.aload_n 0, 1, 0, 0, 0, [], 0, 0) 59 54 := X_at (r := mi59) rfl rfl
theorem x59_55 {z : P0} : X z 59 55 = XI mT z (X z) (.getfield 10, 3, 10, 0, 3, [87], 0, 0) 59 55 := X_at (r := mi59) rfl rfl
theorem x59_58 {z : P0} : X z 59 58 = XI mT z (X z) (.getfield 96, 3, 8, 3, 0, [96], 0, 0) 59 58 := X_at (r := mi59) rfl rfl
theorem x59_61 {z : P0} : X z 59 61 = XI mT z (X z) (.istore_n 1, 1, 1, 0, 0, [], 0, 0) 59 61 := X_at (r := mi59) rfl rfl
theorem x59_62 {z : P0} : X z 59 62 = XI mT z (X z) (.aload_n 0, 1, 0, 0, 0, [], 0, 0) 59 62 := X_at (r := mi59) rfl rfl
theorem x59_63 {z : P0} : X z 59 63 = XI mT z (X z) (.getfield 10, 3, 10, 0, 3, [87], 0, 0) 59 63 := X_at (r := mi59) rfl rfl
theorem x59_66 {z : P0} : X z 59 66 = XI mT z (X z) (.getfield 101, 3, 8, 2, 3, [97], 0, 0) 59 66 := X_at (r := mi59) rfl rfl
theorem x59_69 {z : P0} : X z 59 69 = XI mT z (X z) (.iload_n 1, 1, 1, 0, 0, [], 0, 0) 59 69 := X_at (r := mi59) rfl rfl
theorem x59_70 {z : P0} : X z 59 70 = XI mT z (X z) (.aaload, 1, 0, 0, 0, [], 0, 0) 59 70 := X_at (r := mi59) rfl rfl
theorem x59_71 {z : P0} : X z 59 71 = XI mT z (X z) (.aload_n 0, 1, 0, 0, 0, [], 0, 0) 59 71 := X_at (r := mi59) rfl rfl
theorem x59_72 {z : P0} : X z 59 72 = XI mT z (X z) (.getfield 26, 3, 10, 2, 3, [89], 0, 0) 59 72 := X_at (r := mi59) rfl rfl
theorem x59_75 {z : P0} : X z 59 75 = XI mT z (X z) (.invokevirtual 105, 3, 1, 53, 0, [69], 0, 0) 59 75 := X_at (r := mi59) rfl rfl
theorem x59_78 {z : P0} : X z 59 78 = XI mT z (X z) (.aload_n 0, 1, 0, 0, 0, [], 0, 0) 59 78 := X_at (r := mi59) rfl rfl
theorem x59_79 {z : P0} : X z 59 79 = XI mT z (X z) (.getfield 10, 3, 10, 0, 3, [87], 0, 0) 59 79 := X_at (r := mi59) rfl rfl
theorem x59_82 {z : P0} : X z 59 82 = XI mT z (X z) (.iload_n 1, 1, 1, 0, 0, [], 0, 0) 59 82 := X_at (r := mi59) rfl rfl
theorem x59_83 {z : P0} : X z 59 83 = XI mT z (X z) (.iconst 1, 1, 0, 0, 0, [], nI 1, 0) 59 83 := X_at (r := mi59) rfl rfl
theorem x59_84 {z : P0} : X z 59 84 = XI mT z (X z) (.iadd, 1, 0, 0, 0, [], 0, 0) 59 84 := X_at (r := mi59) rfl rfl
theorem x59_85 {z : P0} : X z 59 85 = XI mT z (X z) (.putfield 96, 3, 8, 3, 0, [96], 0, 0) 59 85 := X_at (r := mi59) rfl rfl
theorem x59_88 {z : P0} : X z 59 88 = XI mT z (X z) (.aload_n 0, 1, 0, 0, 0, [], 0, 0) 59 88 := X_at (r := mi59) rfl rfl
theorem x59_89 {z : P0} : X z 59 89 = XI mT z (X z) (.getfield 26, 3, 10, 2, 3, [89], 0, 0) 59 89 := X_at (r := mi59) rfl rfl
theorem x59_92 {z : P0} : X z 59 92 = XI mT z (X z) (.iconst 0, 1, 0, 0, 0, [], nI 0, 0) 59 92 := X_at (r := mi59) rfl rfl
theorem x59_93 {z : P0} : X z 59 93 = XI mT z (X z) (.putfield 91, 3, 0, 1, 0, [95], 0, 0) 59 93 := X_at (r := mi59) rfl rfl
theorem x59_96 {z : P0} : X z 59 96 = XI mT z (X z) (.iload_n 1, 1, 1, 0, 0, [], 0, 0) 59 96 := X_at (r := mi59) rfl rfl
theorem x59_97 {z : P0} : X z 59 97 = XI mT z (X z) (.ireturn, 1, 0, 0, 0, [], 0, 0) 59 97 := X_at (r := mi59) rfl rfl
theorem x60_0 {z : P0} : X z 60 0 = XI mT z (X z) (.aload_n 0, 1, 0, 0, 0, [], 0, 0) 60 0 := X_at (r := mi60) rfl rfl
theorem x60_1 {z : P0} : X z 60 1 = XI mT z (X z) (.getfield 26, 3, 10, 2, 3, [89], 0, 0) 60 1 := X_at (r := mi60) rfl rfl
theorem x60_4 {z : P0} : X z 60 4 = XI mT z (X z) (.iconst 2, 1, 0, 0, 0, [], nI 2, 0) 60 4 := X_at (r := mi60) rfl rfl
theorem x60_5 {z : P0} : X z 60 5 = XI mT z (X z) (.invokevirtual 63, 3, 1, 2, 0, [66], 0, 0) 60 5 := X_at (r := mi60) rfl rfl
theorem x60_8 {z : P0} : X z 60 8 = XI mT z (X z) (.ifCond .ne 13, 3, 21, 0, 0, [], 0, 0) 60 8 := X_at (r := mi60) rfl rfl
theorem x60_11 {z : P0} : X z 60 11 = XI mT z (X z) (.new 56, 3, 0, 0, 9, [632], 0, 0) 60 11 := X_at (r := mi60) rfl rfl
theorem x60_14 {z : P0} : X z 60 14 = XI mT z (X z) (.dup, 1, 0, 0, 0, [], 0, 0) 60 14 := X_at (r := mi60) rfl rfl
theorem x60_15 {z : P0} : X z 60 15 = XI mT z (X z) (.ldc 110, 2, 0, 0, 98, [], 0, 0) 60 15 := X_at (r := mi60) rfl rfl
theorem x60_17 {z : P0} : X z 60 17 = XI mT z (X z) (.invokespecial 60, 3, 0, 9999, 0, [], 0, 0) 60 17 := X_at (r := mi60) rfl rfl
theorem x60_20 {z : P0} : X z 60 20 = XI mT z (X z) (.athrow, 1, 0, 0, 0, [], 0, 0) 60 20 := X_at (r := mi60) rfl rfl
theorem x60_21 {z : P0} : X z 60 21 = XI mT z (X z) (.aload_n 0, 1, 0, 0, 0, [], 0, 0) 60 21 := X_at (r := mi60) rfl rfl
theorem x60_22 {z : P0} : X z 60 22 = XI mT z (X z) (.getfield 19, 3, 10, 1, 3, [88], 0, 0) 60 22 := X_at (r := mi60) rfl rfl
theorem x60_25 {z : P0} : X z 60 25 = XI mT z (X z) (.aload_n 0, 1, 0, 0, 0, [], 0, 0) 60 25 := X_at (r := mi60) rfl rfl
theorem x60_26 {z : P0} : X z 60 26 = XI mT z (X z) (.getfield 10, 3, 10, 0, 3, [87], 0, 0) 60 26 := X_at (r := mi60) rfl rfl
theorem x60_29 {z : P0} : X z 60 29 = XI mT z (X z) (.invokevirtual 77, 3, 1, 24, 0, [67], 0, 0) 60 29 := X_at (r := mi60) rfl rfl
theorem x60_32 {z : P0} : X z 60 32 = XI mT z (X z) (.aload_n 0, 1, 0, 0, 0, [], 0, 0) 60 32 := X_at (r := mi60) rfl rfl
theorem x60_33 {z : P0} : X z 60 33 = XI mT z (X z) (.getfield 10, 3, 10, 0, 3, [87], 0, 0) 60 33 := X_at (r := mi60) rfl rfl
theorem x60_36 {z : P0} : X z 60 36 = XI mT z (X z) (.getfield 112, 3, 8, 4, 3, [98], 0, 0) 60 36 := X_at (r := mi60) rfl rfl
theorem x60_39 {z : P0} : X z 60 39 = XI mT z (X z) (.aload_n 0, 1, 0, 0, 0, [], 0, 0) 60 39 := X_at (r := mi60) rfl rfl
theorem x60_40 {z : P0} : X z 60 40 = XI mT z (X z) (.getfield 26, 3, 10, 2, 3, [89], 0, 0) 60 40 := X_at (r := mi60) rfl rfl
theorem x60_43 {z : P0} : X z 60 43 = XI mT z (X z) (.getfield 116, 3, 0, 0, 3, [99], 0, 0) 60 43 := X_at (r := mi60) rfl rfl
theorem x60_46 {z : P0} : X z 60 46 = XI mT z (X z) (.aload_n 0, 1, 0, 0, 0, [], 0, 0) 60 46 := X_at (r := mi60) rfl rfl
theorem x60_47 {z : P0} : X z 60 47 = XI mT z (X z) (.getfield 26, 3, 10, 2, 3, [89], 0, 0) 60 47 := X_at (r := mi60) rfl rfl
theorem x60_50 {z : P0} : X z 60 50 = XI mT z (X z) (.getfield 91, 3, 0, 1, 0, [95], 0, 0) 60 50 := X_at (r := mi60) rfl rfl
theorem x60_53 {z : P0} : X z 60 53 = XI mT z (X z) (.invokevirtual 119, 3, 2, 28, 0, [70], 0, 0) 60 53 := X_at (r := mi60) rfl rfl
theorem x60_56 {z : P0} : X z 60 56 = XI mT z (X z) (.aload_n 0, 1, 0, 0, 0, [], 0, 0) 60 56 := X_at (r := mi60) rfl rfl
theorem x60_57 {z : P0} : X z 60 57 = XI mT z (X z) (.getfield 26, 3, 10, 2, 3, [89], 0, 0) 60 57 := X_at (r := mi60) rfl rfl
theorem x60_60 {z : P0} : X z 60 60 = XI mT z (X z) (.iconst 0, 1, 0, 0, 0, [], nI 0, 0) 60 60 := X_at (r := mi60) rfl rfl
theorem x60_61 {z : P0} : X z 60 61 = XI mT z (X z) (.putfield 91, 3, 0, 1, 0, [95], 0, 0) 60 61 := X_at (r := mi60) rfl rfl
theorem x60_64 {z : P0} : X z 60 64 = XI mT z (X z) (.aload_n 0, 1, 0, 0, 0, [], 0, 0) 60 64 := X_at (r := mi60) rfl rfl
theorem x60_65 {z : P0} : X z 60 65 = XI mT z (X z) (.getfield 10, 3, 10, 0, 3, [87], 0, 0) 60 65 := X_at (r := mi60) rfl rfl
theorem x60_68 {z : P0} : X z 60 68 = XI mT z (X z) (.getfield 112, 3, 8, 4, 3, [98], 0, 0) 60 68 := X_at (r := mi60) rfl rfl
theorem x60_71 {z : P0} : X z 60 71 = XI mT z (X z) (.invokevirtual 125, 3, 0, 29, 0, [71], 0, 0) 60 71 := X_at (r := mi60) rfl rfl
theorem x60_74 {z : P0} : X z 60 74 = XI mT z (X z) (.ireturn, 1, 0, 0, 0, [], 0, 0) 60 74 := X_at (r := mi60) rfl rfl
theorem x61_0 {z : P0} : X z 61 0 = XI mT z (X z) (.aload_n 0, 1, 0, 0, 0, [], 0, 0) 61 0 := X_at (r := mi61) rfl rfl
theorem x61_1 {z : P0} : X z 61 1 = XI mT z (X z) (.iload_n 1, 1, 1, 0, 0, [], 0, 0) 61 1 := X_at (r := mi61) rfl rfl
theorem x61_2 {z : P0} : X z 61 2 = XI mT z (X z) (.invokevirtual 129, 3, 1, 89, 0, [72], 0, 0) 61 2 := X_at (r := mi61) rfl rfl
theorem x61_5 {z : P0} : X z 61 5 = XI mT z (X z) (.ifCond .ne 13, 3, 18, 0, 0, [], 0, 0) 61 5 := X_at (r := mi61) rfl rfl
theorem x61_8 {z : P0} : X z 61 8 = XI mT z (X z) (.new 132, 3, 2, 0, 9, [812], 0, 0) 61 8 := X_at (r := mi61) rfl rfl
theorem x61_11 {z : P0} : X z 61 11 = XI mT z (X z) (.dup, 1, 0, 0, 0, [], 0, 0) 61 11 := X_at (r := mi61) rfl rfl
theorem x61_12 {z : P0} : X z 61 12 = XI mT z (X z) (.ldc 134, 2, 0, 0, 98, [], 0, 0) 61 12 := X_at (r := mi61) rfl rfl
theorem x61_14 {z : P0} : X z 61 14 = XI mT z (X z) (.invokespecial 136, 3, 0, 9999, 0, [], 0, 0) 61 14 := X_at (r := mi61) rfl rfl
theorem x61_17 {z : P0} : X z 61 17 = XI mT z (X z) (.athrow, 1, 0, 0, 0, [], 0, 0) 61 17 := X_at (r := mi61) rfl rfl
theorem x61_18 {z : P0} : X z 61 18 = XI mT z (X z) (.iload_n 2, 1, 2, 0, 0, [], 0, 0) 61 18 := X_at (r := mi61) rfl rfl
theorem x61_19 {z : P0} : X z 61 19 = XI mT z (X z) (.invokestatic 52, 3, 1, 85, 0, [65], 0, 0) 61 19 := X_at (r := mi61) rfl rfl
theorem x61_22 {z : P0} : X z 61 22 = XI mT z (X z) (.ifCond .ne 13, 3, 35, 0, 0, [], 0, 0) 61 22 := X_at (r := mi61) rfl rfl
theorem x61_25 {z : P0} : X z 61 25 = XI mT z (X z) (.new 56, 3, 0, 0, 9, [632], 0, 0) 61 25 := X_at (r := mi61) rfl rfl
theorem x61_28 {z : P0} : X z 61 28 = XI mT z (X z) (.dup, 1, 0, 0, 0, [], 0, 0) 61 28 := X_at (r := mi61) rfl rfl
theorem x61_29 {z : P0} : X z 61 29 = XI mT z (X z) (.ldc 137, 2, 0, 0, 98, [], 0, 0) 61 29 := X_at (r := mi61) rfl rfl
theorem x61_31 {z : P0} : X z 61 31 = XI mT z (X z) (.invokespecial 60, 3, 0, 9999, 0, [], 0, 0) 61 31 := X_at (r := mi61) rfl rfl
theorem x61_34 {z : P0} : X z 61 34 = XI mT z (X z) (.athrow, 1, 0, 0, 0, [], 0, 0) 61 34 := X_at (r := mi61) rfl rfl
theorem x61_35 {z : P0} : X z 61 35 = XI mT z (X z) (.aload_n 0, 1, 0, 0, 0, [], 0, 0) 61 35 := X_at (r := mi61) rfl rfl
theorem x61_36 {z : P0} : X z 61 36 = XI mT z (X z) (.getfield 19, 3, 10, 1, 3, [88], 0, 0) 61 36 := X_at (r := mi61) rfl rfl
theorem x61_39 {z : P0} : X z 61 39 = XI mT z (X z) (.aload_n 0, 1, 0, 0, 0, [], 0, 0) 61 39 := X_at (r := mi61) rfl rfl
theorem x61_40 {z : P0} : X z 61 40 = XI mT z (X z) (.getfield 10, 3, 10, 0, 3, [87], 0, 0) 61 40 := X_at (r := mi61) rfl rfl
theorem x61_43 {z : P0} : X z 61 43 = XI mT z (X z) (.invokevirtual 77, 3, 1, 24, 0, [67], 0, 0) 61 43 := X_at (r := mi61) rfl rfl
theorem x61_46 {z : P0} : X z 61 46 = XI mT z (X z) (.aload_n 0, 1, 0, 0, 0, [], 0, 0) 61 46 := X_at (r := mi61) rfl rfl
theorem x61_47 {z : P0} : X z 61 47 = XI mT z (X z) (.getfield 10, 3, 10, 0, 3, [87], 0, 0) 61 47 := X_at (r := mi61) rfl rfl
theorem x61_50 {z : P0} : X z 61 50 = XI mT z (X z) (.getfield 81, 3, 8, 0, 3, [94], 0, 0) 61 50 := X_at (r := mi61) rfl rfl
theorem x61_53 {z : P0} : X z 61 53 = XI mT z (X z) (.iload_n 1, 1, 1, 0, 0, [], 0, 0) 61 53 := X_at (r := mi61) rfl rfl
theorem x61_54 {z : P0} : X z 61 54 = XI mT z (X z) (.aaload, 1, 0, 0, 0, [], 0, 0) 61 54 := X_at (r := mi61) rfl rfl
theorem x61_55 {z : P0} : X z 61 55 = XI mT z (X z) (.getfield 139, 3, 7, 2, 0, [100], 0, 0) 61 55 := X_at (r := mi61) rfl rfl
theorem x61_58 {z : P0} : X z 61 58 = XI mT z (X z) (.istore_n 3, 1, 3, 0, 0, [], 0, 0) 61 58 := X_at (r := mi61) rfl rfl
theorem x61_59 {z : P0} : X z 61 59 = XI mT z (X z) (.aload_n 0, 1, 0, 0, 0, [], 0, 0) 61 59 := X_at (r := mi61) rfl rfl
theorem x61_60 {z : P0} : X z 61 60 = XI mT z (X z) (.getfield 10, 3, 10, 0, 3, [87], 0, 0) 61 60 := X_at (r := mi61) rfl rfl
theorem x61_63 {z : P0} : X z 61 63 = XI mT z (X z) (.getfield 81, 3, 8, 0, 3, [94], 0, 0) 61 63 := X_at (r := mi61) rfl rfl
theorem x61_66 {z : P0} : X z 61 66 = XI mT z (X z) (.iload_n 1, 1, 1, 0, 0, [], 0, 0) 61 66 := X_at (r := mi61) rfl rfl
theorem x61_67 {z : P0} : X z 61 67 = XI mT z (X z) (.aaload, 1, 0, 0, 0, [], 0, 0) 61 67 := X_at (r := mi61) rfl rfl
theorem x61_68 {z : P0} : X z 61 68 = XI mT z (X z) (.iload_n 2, 1, 2, 0, 0, [], 0, 0) 61 68 := X_at (r := mi61) rfl rfl
theorem x61_69 {z : P0} : X z 61 69 = XI mT z (X z) (.putfield 139, 3, 7, 2, 0, [100], 0, 0) 61 69 := X_at (r := mi61) rfl rfl
theorem x61_72 {z : P0} : X z 61 72 = XI mT z (X z) (.iload_n 3, 1, 3, 0, 0, [], 0, 0) 61 72 := X_at (r := mi61) rfl rfl
theorem x61_73 {z : P0} : X z 61 73 = XI mT z (X z) (.ireturn, 1, 0, 0, 0, [], 0, 0) 61 73 := X_at (r := mi61) rfl rfl
theorem x62_0 {z : P0} : X z 62 0 = XI mT z (X z) (.aload_n 0, 1, 0, 0, 0, [], 0, 0) 62 0 := X_at (r := mi62) rfl rfl
theorem x62_1 {z : P0} : X z 62 1 = XI mT z (X z) (.iload_n 1, 1, 1, 0, 0, [], 0, 0) 62 1 := X_at (r := mi62) rfl rfl
theorem x62_2 {z : P0} : X z 62 2 = XI mT z (X z) (.invokevirtual 129, 3, 1, 89, 0, [72], 0, 0) 62 2 := X_at (r := mi62) rfl rfl
theorem x62_5 {z : P0} : X z 62 5 = XI mT z (X z) (.ifCond .ne 13, 3, 18, 0, 0, [], 0, 0) 62 5 := X_at (r := mi62) rfl rfl
theorem x62_8 {z : P0} : X z 62 8 = XI mT z (X z) (.new 132, 3, 2, 0, 9, [812], 0, 0) 62 8 := X_at (r := mi62) rfl rfl
theorem x62_11 {z : P0} : X z 62 11 = XI mT z (X z) (.dup, 1, 0, 0, 0, [], 0, 0) 62 11 := X_at (r := mi62) rfl rfl
theorem x62_12 {z : P0} : X z 62 12 = XI mT z (X z) (.ldc 134, 2, 0, 0, 98, [], 0, 0) 62 12 := X_at (r := mi62) rfl rfl
theorem x62_14 {z : P0} : X z 62 14 = XI mT z (X z) (.invokespecial 136, 3, 0, 9999, 0, [], 0, 0) 62 14 := X_at (r := mi62) rfl rfl
theorem x62_17 {z : P0} : X z 62 17 = XI mT z (X z) (.athrow, 1, 0, 0, 0, [], 0, 0) 62 17 := X_at (r := mi62) rfl rfl
theorem x62_18 {z : P0} : X z 62 18 = XI mT z (X z) (.iload_n 2, 1, 2, 0, 0, [], 0, 0) 62 18 := X_at (r := mi62) rfl rfl
theorem x62_19 {z : P0} : X z 62 19 = XI mT z (X z) (.iconst (-1), 1, 0, 0, 0, [], (-1), 0) 62 19 := X_at (r := mi62) rfl rfl
theorem x62_20 {z : P0} : X z 62 20 = XI mT z (X z) (.if_icmp .eq 21, 3, 41, 0, 0, [], 0, 0) 62 20 := X_at (r := mi62) rfl rfl
theorem x62_23 {z : P0} : X z 62 23 = XI mT z (X z) (.aload_n 0, 1, 0, 0, 0, [], 0, 0) 62 23 := X_at (r := mi62) rfl rfl
theorem x62_24 {z : P0} : X z 62 24 = XI mT z (X z) (.iload_n 2, 1, 2, 0, 0, [], 0, 0) 62 24 := X_at (r := mi62) rfl rfl
theorem x62_25 {z : P0} : X z 62 25 = XI mT z (X z) (.invokevirtual 142, 3, 1, 90, 0, [73], 0, 0) 62 25 := X_at (r := mi62) rfl rfl
theorem x62_28 {z : P0} : X z 62 28 = XI mT z (X z) (.ifCond .ne 13, 3, 41, 0, 0, [], 0, 0) 62 28 := X_at (r := mi62) rfl rfl
theorem x62_31 {z : P0} : X z 62 31 = XI mT z (X z) (.new 132, 3, 2, 0, 9, [812], 0, 0) 62 31 := X_at (r := mi62) rfl rfl
theorem x62_34 {z : P0} : X z 62 34 = XI mT z (X z) (.dup, 1, 0, 0, 0, [], 0, 0) 62 34 := X_at (r := mi62) rfl rfl
theorem x62_35 {z : P0} : X z 62 35 = XI mT z (X z) (.ldc 145, 2, 0, 0, 98, [], 0, 0) 62 35 := X_at (r := mi62) rfl rfl
theorem x62_37 {z : P0} : X z 62 37 = XI mT z (X z) (.invokespecial 136, 3, 0, 9999, 0, [], 0, 0) 62 37 := X_at (r := mi62) rfl rfl
theorem x62_40 {z : P0} : X z 62 40 = XI mT z (X z) (.athrow, 1, 0, 0, 0, [], 0, 0) 62 40 := X_at (r := mi62) rfl rfl
theorem x62_41 {z : P0} : X z 62 41 = XI mT z (X z) (.aload_n 0, 1, 0, 0, 0, [], 0, 0) 62 41 := X_at (r := mi62) rfl rfl
theorem x62_42 {z : P0} : X z 62 42 = XI mT z (X z) (.getfield 19, 3, 10, 1, 3, [88], 0, 0) 62 42 := X_at (r := mi62) rfl rfl
theorem x62_45 {z : P0} : X z 62 45 = XI mT z (X z) (.aload_n 0, 1, 0, 0, 0, [], 0, 0) 62 45 := X_at (r := mi62) rfl rfl
theorem x62_46 {z : P0} : X z 62 46 = XI mT z (X z) (.getfield 10, 3, 10, 0, 3, [87], 0, 0) 62 46 := X_at (r := mi62) rfl rfl
theorem x62_49 {z : P0} : X z 62 49 = XI mT z (X z) (.invokevirtual 77, 3, 1, 24, 0, [67], 0, 0) 62 49 := X_at (r := mi62) rfl rfl
theorem x62_52 {z : P0} : X z 62 52 = XI mT z (X z) (.aload_n 0, 1, 0, 0, 0, [], 0, 0) 62 52 := X_at (r := mi62) rfl rfl
theorem x62_53 {z : P0} : X z 62 53 = XI mT z (X z) (.getfield 10, 3, 10, 0, 3, [87], 0, 0) 62 53 := X_at (r := mi62) rfl rfl
theorem x62_56 {z : P0} : X z 62 56 = XI mT z (X z) (.getfield 81, 3, 8, 0, 3, [94], 0, 0) 62 56 := X_at (r := mi62) rfl rfl
theorem x62_59 {z : P0} : X z 62 59 = XI mT z (X z) (.iload_n 1, 1, 1, 0, 0, [], 0, 0) 62 59 := X_at (r := mi62) rfl rfl
theorem x62_60 {z : P0} : X z 62 60 = XI mT z (X z) (.aaload, 1, 0, 0, 0, [], 0, 0) 62 60 := X_at (r := mi62) rfl rfl
theorem x62_61 {z : P0} : X z 62 61 = XI mT z (X z) (.getfield 147, 3, 7, 4, 0, [101], 0, 0) 62 61 := X_at (r := mi62) rfl rfl
theorem x62_64 {z : P0} : X z 62 64 = XI mT z (X z) (.istore_n 3, 1, 3, 0, 0, [], 0, 0) 62 64 := X_at (r := mi62) rfl rfl
theorem x62_65 {z : P0} : X z 62 65 = XI mT z (X z) (.aload_n 0, 1, 0, 0, 0, [], 0, 0) 62 65 := X_at (r := mi62) rfl rfl
theorem x62_66 {z : P0} : X z 62 66 = XI mT z (X z) (.getfield 10, 3, 10, 0, 3, [87], 0, 0) 62 66 := X_at (r := mi62) rfl rfl
theorem x62_69 {z : P0} : X z 62 69 = XI mT z (X z) (.getfield 81, 3, 8, 0, 3, [94], 0, 0) 62 69 := X_at (r := mi62) rfl rfl
theorem x62_72 {z : P0} : X z 62 72 = XI mT z (X z) (.iload_n 1, 1, 1, 0, 0, [], 0, 0) 62 72 := X_at (r := mi62) rfl rfl
theorem x62_73 {z : P0} : X z 62 73 = XI mT z (X z) (.aaload, 1, 0, 0, 0, [], 0, 0) 62 73 := X_at (r := mi62) rfl rfl
theorem x62_74 {z : P0} : X z 62 74 = XI mT z (X z) (.iload_n 2, 1, 2, 0, 0, [], 0, 0) 62 74 := X_at (r := mi62) rfl rfl
theorem x62_75 {z : P0} : X z 62 75 = XI mT z (X z) (.putfield 147, 3, 7, 4, 0, [101], 0, 0) 62 75 := X_at (r := mi62) rfl rfl
theorem x62_78 {z : P0} : X z 62 78 = XI mT z (X z) (.iload_n 3, 1, 3, 0, 0, [], 0, 0) 62 78 := X_at (r := mi62) rfl rfl
theorem x62_79 {z : P0} : X z 62 79 = XI mT z (X z) (.ireturn, 1, 0, 0, 0, [], 0, 0) 62 79 := X_at (r := mi62) rfl rfl
theorem x63_0 {z : P0} : X z 63 0 = XI mT z (X z) (.aload_n 0, 1, 0, 0, 0, [], 0, 0) 63 0 := X_at (r := mi63) rfl rfl
theorem x63_1 {z : P0} : X z 63 1 = XI mT z (X z) (.iload_n 1, 1, 1, 0, 0, [], 0, 0) 63 1 := X_at (r := mi63) rfl rfl
theorem x63_2 {z : P0} : X z 63 2 = XI mT z (X z) (.invokevirtual 129, 3, 1, 89, 0, [72], 0, 0) 63 2 := X_at (r := mi63) rfl rfl
theorem x63_5 {z : P0} : X z 63 5 = XI mT z (X z) (.ifCond .ne 13, 3, 18, 0, 0, [], 0, 0) 63 5 := X_at (r := mi63) rfl rfl
theorem x63_8 {z : P0} : X z 63 8 = XI mT z (X z) (.new 132, 3, 2, 0, 9, [812], 0, 0) 63 8 := X_at (r := mi63) rfl rfl
theorem x63_11 {z : P0} : X z 63 11 = XI mT z (X z) (.dup, 1, 0, 0, 0, [], 0, 0) 63 11 := X_at (r := mi63) rfl rfl
theorem x63_12 {z : P0} : X z 63 12 = XI mT z (X z) (.ldc 134, 2, 0, 0, 98, [], 0, 0) 63 12 := X_at (r := mi63) rfl rfl
theorem x63_14 {z : P0} : X z 63 14 = XI mT z (X z) (.invokespecial 136, 3, 0, 9999, 0, [], 0, 0) 63 14 := X_at (r := mi63) rfl rfl
theorem x63_17 {z : P0} : X z 63 17 = XI mT z (X z) (.athrow, 1, 0, 0, 0, [], 0, 0) 63 17 := X_at (r := mi63) rfl rfl
theorem x63_18 {z : P0} : X z 63 18 = XI mT z (X z) (.aload_n 0, 1, 0, 0, 0, [], 0, 0) 63 18 := X_at (r := mi63) rfl rfl
theorem x63_19 {z : P0} : X z 63 19 = XI mT z (X z) (.getfield 19, 3, 10, 1, 3, [88], 0, 0) 63 19 := X_at (r := mi63) rfl rfl
theorem x63_22 {z : P0} : X z 63 22 = XI mT z (X z) (.aload_n 0, 1, 0, 0, 0, [], 0, 0) 63 22 := X_at (r := mi63) rfl rfl
theorem x63_23 {z : P0} : X z 63 23 = XI mT z (X z) (.getfield 10, 3, 10, 0, 3, [87], 0, 0) 63 23 := X_at (r := mi63) rfl rfl
theorem x63_26 {z : P0} : X z 63 26 = XI mT z (X z) (.invokevirtual 77, 3, 1, 24, 0, [67], 0, 0) 63 26 := X_at (r := mi63) rfl rfl
theorem x63_29 {z : P0} : X z 63 29 = XI mT z (X z) (.aload_n 0, 1, 0, 0, 0, [], 0, 0) 63 29 := X_at (r := mi63) rfl rfl
theorem x63_30 {z : P0} : X z 63 30 = XI mT z (X z) (.getfield 10, 3, 10, 0, 3, [87], 0, 0) 63 30 := X_at (r := mi63) rfl rfl
theorem x63_33 {z : P0} : X z 63 33 = XI mT z (X z) (.getfield 81, 3, 8, 0, 3, [94], 0, 0) 63 33 := X_at (r := mi63) rfl rfl
theorem x63_36 {z : P0} : X z 63 36 = XI mT z (X z) (.iload_n 1, 1, 1, 0, 0, [], 0, 0) 63 36 := X_at (r := mi63) rfl rfl
theorem x63_37 {z : P0} : X z 63 37 = XI mT z (X z) (.aaload, 1, 0, 0, 0, [], 0, 0) 63 37 := X_at (r := mi63) rfl rfl
theorem x63_38 {z : P0} : X z 63 38 = XI mT z (X z) (.iload_n 2, 1, 2, 0, 0, [], 0, 0) 63 38 := X_at (r := mi63) rfl rfl
theorem x63_39 {z : P0} : X z 63 39 = XI mT z (X z) (.putfield 150, 3, 7, 5, 1, [102], 0, 0) 63 39 := X_at (r := mi63) rfl rfl
theorem x63_42 {z : P0} : X z 63 42 = XI mT z (X z) (.aload_n 0, 1, 0, 0, 0, [], 0, 0) 63 42 := X_at (r := mi63) rfl rfl
theorem x63_43 {z : P0} : X z 63 43 = XI mT z (X z) (.getfield 10, 3, 10, 0, 3, [87], 0, 0) 63 43 := X_at (r := mi63) rfl rfl
theorem x63_46 {z : P0} : X z 63 46 = XI mT z (X z) (.invokevirtual 154, 3, 0, 50, 0, [74], 0, 0) 63 46 := X_at (r := mi63) rfl rfl
theorem x63_49 {z : P0} : X z 63 49 = XI mT z (X z) (.ireturn, 1, 0, 0, 0, [], 0, 0) 63 49 := X_at (r := mi63) rfl rfl
theorem x64_0 {z : P0} : X z 64 0 = XI mT z (X z) (.iload_n 1, 1, 1, 0, 0, [], 0, 0) 64 0 := X_at (r := mi64) rfl rfl
theorem x64_1 {z : P0} : X z 64 1 = XI mT z (X z) (.invokestatic 157, 3, 1, 86, 0, [75], 0, 0) 64 1 := X_at (r := mi64) rfl rfl
theorem x64_4 {z : P0} : X z 64 4 = XI mT z (X z) (.ifCond .ne 13, 3, 17, 0, 0, [], 0, 0) 64 4 := X_at (r := mi64) rfl rfl
theorem x64_7 {z : P0} : X z 64 7 = XI mT z (X z) (.new 132, 3, 2, 0, 9, [812], 0, 0) 64 7 := X_at (r := mi64) rfl rfl
theorem x64_10 {z : P0} : X z 64 10 = XI mT z (X z) (.dup, 1, 0, 0, 0, [], 0, 0) 64 10 := X_at (r := mi64) rfl rfl
theorem x64_11 {z : P0} : X z 64 11 = XI mT z (X z) (.ldc 160, 2, 0, 0, 98, [], 0, 0) 64 11 := X_at (r := mi64) rfl rfl
theorem x64_13 {z : P0} : X z 64 13 = XI mT z (X z) (.invokespecial 136, 3, 0, 9999, 0, [], 0, 0) 64 13 := X_at (r := mi64) rfl rfl
theorem x64_16 {z : P0} : X z 64 16 = XI mT z (X z) (.athrow, 1, 0, 0, 0, [], 0, 0) 64 16 := X_at (r := mi64) rfl rfl
theorem x64_17 {z : P0} : X z 64 17 = XI mT z (X z) (.iload_n 1, 1, 1, 0, 0, [], 0, 0) 64 17 := X_at (r := mi64) rfl rfl
theorem x64_18 {z : P0} : X z 64 18 = XI mT z (X z) (.iload_n 2, 1, 2, 0, 0, [], 0, 0) 64 18 := X_at (r := mi64) rfl rfl
theorem x64_19 {z : P0} : X z 64 19 = XI mT z (X z) (.invokestatic 162, 3, 2, 87, 0, [76], 0, 0) 64 19 := X_at (r := mi64) rfl rfl
theorem x64_22 {z : P0} : X z 64 22 = XI mT z (X z) (.ifCond .ne 13, 3, 35, 0, 0, [], 0, 0) 64 22 := X_at (r := mi64) rfl rfl
theorem x64_25 {z : P0} : X z 64 25 = XI mT z (X z) (.new 56, 3, 0, 0, 9, [632], 0, 0) 64 25 := X_at (r := mi64) rfl rfl
theorem x64_28 {z : P0} : X z 64 28 = XI mT z (X z) (.dup, 1, 0, 0, 0, [], 0, 0) 64 28 := X_at (r := mi64) rfl rfl
theorem x64_29 {z : P0} : X z 64 29 = XI mT z (X z) (.ldc 166, 2, 0, 0, 98, [], 0, 0) 64 29 := X_at (r := mi64) rfl rfl
theorem x64_31 {z : P0} : X z 64 31 = XI mT z (X z) (.invokespecial 60, 3, 0, 9999, 0, [], 0, 0) 64 31 := X_at (r := mi64) rfl rfl
theorem x64_34 {z : P0} : X z 64 34 = XI mT z (X z) (.athrow, 1, 0, 0, 0, [], 0, 0) 64 34 := X_at (r := mi64) rfl rfl
theorem x64_35 {z : P0} : X z 64 35 = XI mT z (X z) (.aload_n 0, 1, 0, 0, 0, [], 0, 0) 64 35 := X_at (r := mi64) rfl rfl
theorem x64_36 {z : P0} : X z 64 36 = XI mT z (X z) (.getfield 19, 3, 10, 1, 3, [88], 0, 0) 64 36 := X_at (r := mi64) rfl rfl
theorem x64_39 {z : P0} : X z 64 39 = XI mT z (X z) (.aload_n 0, 1, 0, 0, 0, [], 0, 0) 64 39 := X_at (r := mi64) rfl rfl
theorem x64_40 {z : P0} : X z 64 40 = XI mT z (X z) (.getfield 10, 3, 10, 0, 3, [87], 0, 0) 64 40 := X_at (r := mi64) rfl rfl
theorem x64_43 {z : P0} : X z 64 43 = XI mT z (X z) (.invokevirtual 77, 3, 1, 24, 0, [67], 0, 0) 64 43 := X_at (r := mi64) rfl rfl
theorem x64_46 {z : P0} : X z 64 46 = XI mT z (X z) (.aload_n 0, 1, 0, 0, 0, [], 0, 0) 64 46 := X_at (r := mi64) rfl rfl
theorem x64_47 {z : P0} : X z 64 47 = XI mT z (X z) (.getfield 10, 3, 10, 0, 3, [87], 0, 0) 64 47 := X_at (r := mi64) rfl rfl
theorem x64_50 {z : P0} : X z 64 50 = XI mT z (X z) (.getfield 168, 3, 8, 5, 3, [103], 0, 0) 64 50 := X_at (r := mi64) rfl rfl
theorem x64_53 {z : P0} : X z 64 53 = XI mT z (X z) (.iload_n 1, 1, 1, 0, 0, [], 0, 0) 64 53 := X_at (r := mi64) rfl rfl
theorem x64_54 {z : P0} : X z 64 54 = XI mT z (X z) (.iaload, 1, 0, 0, 0, [], 0, 0) 64 54 := X_at (r := mi64) rfl rfl
theorem x64_55 {z : P0} : X z 64 55 = XI mT z (X z) (.istore_n 3, 1, 3, 0, 0, [], 0, 0) 64 55 := X_at (r := mi64) rfl rfl
theorem x64_56 {z : P0} : X z 64 56 = XI mT z (X z) (.aload_n 0, 1, 0, 0, 0, [], 0, 0) 64 56 := X_at (r := mi64) rfl rfl
theorem x64_57 {z : P0} : X z 64 57 = XI mT z (X z) (.getfield 10, 3, 10, 0, 3, [87], 0, 0) 64 57 := X_at (r := mi64) rfl rfl
theorem x64_60 {z : P0} : X z 64 60 = XI mT z (X z) (.getfield 168, 3, 8, 5, 3, [103], 0, 0) 64 60 := X_at (r := mi64) rfl rfl
theorem x64_63 {z : P0} : X z 64 63 = XI mT z (X z) (.iload_n 1, 1, 1, 0, 0, [], 0, 0) 64 63 := X_at (r := mi64) rfl rfl
theorem x64_64 {z : P0} : X z 64 64 = XI mT z (X z) (.iload_n 2, 1, 2, 0, 0, [], 0, 0) 64 64 := X_at (r := mi64) rfl rfl
theorem x64_65 {z : P0} : X z 64 65 = XI mT z (X z) (.iastore, 1, 0, 0, 0, [], 0, 0) 64 65 := X_at (r := mi64) rfl rfl
theorem x64_66 {z : P0} : X z 64 66 = XI mT z (X z) (.iload_n 3, 1, 3, 0, 0, [], 0, 0) 64 66 := X_at (r := mi64) rfl rfl
theorem x64_67 {z : P0} : X z 64 67 = XI mT z (X z) (.ireturn, 1, 0, 0, 0, [], 0, 0) 64 67 := X_at (r := mi64) rfl rfl
theorem x65_0 {z : P0} : X z 65 0 = XI mT z (X z) (.aload_n 0, 1, 0, 0, 0, [], 0, 0) 65 0 := X_at (r := mi65) rfl rfl
theorem x65_1 {z : P0} : X z 65 1 = XI mT z (X z) (.getfield 10, 3, 10, 0, 3, [87], 0, 0) 65 1 := X_at (r := mi65) rfl rfl
theorem x65_4 {z : P0} : X z 65 4 = XI mT z (X z) (.getfield 112, 3, 8, 4, 3, [98], 0, 0) 65 4 := X_at (r := mi65) rfl rfl
theorem x65_7 {z : P0} : X z 65 7 = XI mT z (X z) (.getfield 171, 3, 4, 1, 0, [104], 0, 0) 65 7 := X_at (r := mi65) rfl rfl
theorem x65_10 {z : P0} : X z 65 10 = XI mT z (X z) (.ifCond .ne 13, 3, 23, 0, 0, [], 0, 0) 65 10 := X_at (r := mi65) rfl rfl
theorem x65_13 {z : P0} : X z 65 13 = XI mT z (X z) (.new 72, 3, 1, 0, 9, [726], 0, 0) 65 13 := X_at (r := mi65) rfl rfl
theorem x65_16 {z : P0} : X z 65 16 = XI mT z (X z) (.dup, 1, 0, 0, 0, [], 0, 0) 65 16 := X_at (r := mi65) rfl rfl
theorem x65_17 {z : P0} : X z 65 17 = XI mT z (X z) (.ldc 172, 2, 0, 0, 98, [], 0, 0) 65 17 := X_at (r := mi65) rfl rfl
theorem x65_19 {z : P0} : X z 65 19 = XI mT z (X z) (.invokespecial 76, 3, 0, 9999, 0, [], 0, 0) 65 19 := X_at (r := mi65) rfl rfl
theorem x65_22 {z : P0} : X z 65 22 = XI mT z (X z) (.athrow, 1, 0, 0, 0, [], 0, 0) 65 22 := X_at (r := mi65) rfl rfl
theorem x65_23 {z : P0} : X z 65 23 = XI mT z (X z) (.aload_n 0, 1, 0, 0, 0, [], 0, 0) 65 23 := X_at (r := mi65) rfl rfl
theorem x65_24 {z : P0} : X z 65 24 = XI mT z (X z) (.getfield 41, 3, 10, 3, 3, [90], 0, 0) 65 24 := X_at (r := mi65) rfl rfl
theorem x65_27 {z : P0} : X z 65 27 = XI mT z (X z) (.aload_n 0, 1, 0, 0, 0, [], 0, 0) 65 27 := X_at (r := mi65) rfl rfl
theorem x65_28 {z : P0} : X z 65 28 = XI mT z (X z) (.getfield 10, 3, 10, 0, 3, [87], 0, 0) 65 28 := X_at (r := mi65) rfl rfl
theorem x65_31 {z : P0} : X z 65 31 = XI mT z (X z) (.aload_n 0, 1, 0, 0, 0, [], 0, 0) 65 31 := X_at (r := mi65) rfl rfl
theorem x65_32 {z : P0} : X z 65 32 = XI mT z (X z) (.getfield 10, 3, 10, 0, 3, [87], 0, 0) 65 32 := X_at (r := mi65) rfl rfl
theorem x65_35 {z : P0} : X z 65 35 = XI mT z (X z) (.getfield 168, 3, 8, 5, 3, [103], 0, 0) 65 35 := X_at (r := mi65) rfl rfl
theorem x65_38 {z : P0} : X z 65 38 = XI mT z (X z) (.invokevirtual 174, 3, 2, 38, 0, [77], 0, 0) 65 38 := X_at (r := mi65) rfl rfl
theorem x65_41 {z : P0} : X z 65 41 = XI mT z (X z) (.aload_n 0, 1, 0, 0, 0, [], 0, 0) 65 41 := X_at (r := mi65) rfl rfl
theorem x65_42 {z : P0} : X z 65 42 = XI mT z (X z) (.getfield 41, 3, 10, 3, 3, [90], 0, 0) 65 42 := X_at (r := mi65) rfl rfl
theorem x65_45 {z : P0} : X z 65 45 = XI mT z (X z) (.getfield 178, 3, 6, 8, 0, [105], 0, 0) 65 45 := X_at (r := mi65) rfl rfl
theorem x65_48 {z : P0} : X z 65 48 = XI mT z (X z) (.ifCond .ne 13, 3, 61, 0, 0, [], 0, 0) 65 48 := X_at (r := mi65) rfl rfl
theorem x65_51 {z : P0} : X z 65 51 = XI mT z (X z) (.new 72, 3, 1, 0, 9, [726], 0, 0) 65 51 := X_at (r := mi65) rfl rfl
theorem x65_54 {z : P0} : X z 65 54 = XI mT z (X z) (.dup, 1, 0, 0, 0, [], 0, 0) 65 54 := X_at (r := mi65) rfl rfl
theorem x65_55 {z : P0} : X z 65 55 = XI mT z (X z) (.ldc 181, 2, 0, 0, 98, [], 0, 0) 65 55 := X_at (r := mi65) rfl rfl
theorem x65_57 {z : P0} : X z 65 57 = XI mT z (X z) (.invokespecial 76, 3, 0, 9999, 0, [], 0, 0) 65 57 := X_at (r := mi65) rfl rfl
theorem x65_60 {z : P0} : X z 65 60 = XI mT z (X z) (.athrow, 1, 0, 0, 0, [], 0, 0) 65 60 := X_at (r := mi65) rfl rfl
theorem x65_61 {z : P0} : X z 65 61 = XI mT z (X z) (.aload_n 0, 1, 0, 0, 0, [], 0, 0) 65 61 := X_at (r := mi65) rfl rfl
theorem x65_62 {z : P0} : X z 65 62 = XI mT z (X z) (.getfield 19, 3, 10, 1, 3, [88], 0, 0) 65 62 := X_at (r := mi65) rfl rfl
theorem x65_65 {z : P0} : X z 65 65 = XI mT z (X z) (.aload_n 0, 1, 0, 0, 0, [], 0, 0) 65 65 := X_at (r := mi65) rfl rfl
theorem x65_66 {z : P0} : X z 65 66 = XI mT z (X z) (.getfield 10, 3, 10, 0, 3, [87], 0, 0) 65 66 := X_at (r := mi65) rfl rfl
theorem x65_69 {z : P0} : X z 65 69 = XI mT z (X z) (.invokevirtual 77, 3, 1, 24, 0, [67], 0, 0) 65 69 := X_at (r := mi65) rfl rfl
theorem x65_72 {z : P0} : X z 65 72 = XI mT z (X z) (.iconst 0, 1, 0, 0, 0, [], nI 0, 0) 65 72 := X_at (r := mi65) rfl rfl
theorem x65_73 {z : P0} : X z 65 73 = XI mT z (X z) (.istore_n 1, 1, 1, 0, 0, [], 0, 0) 65 73 := X_at (r := mi65) rfl rfl
theorem x65_74 {z : P0} : X z 65 74 = XI mT z (X z) (.iload_n 1, 1, 1, 0, 0, [], 0, 0) 65 74 := X_at (r := mi65) rfl rfl
theorem x65_75 {z : P0} : X z 65 75 = XI mT z (X z) (.aload_n 0, 1, 0, 0, 0, [], 0, 0) 65 75 := X_at (r := mi65) rfl rfl
theorem x65_76 {z : P0} : X z 65 76 = XI mT z (X z) (.getfield 10, 3, 10, 0, 3, [87], 0, 0) 65 76 := X_at (r := mi65) rfl rfl
theorem x65_79 {z : P0} : X z 65 79 = XI mT z (X z) (.getfield 68, 3, 8, 1, 0, [93], 0, 0) 65 79 := X_at (r := mi65) rfl rfl
theorem x65_82 {z : P0} : X z 65 82 = XI mT z (X z) (.if_icmp .ge 58, 3, 140, 0, 0, [], 0, 0) 65 82 := X_at (r := mi65) rfl rfl
theorem x65_85 {z : P0} : X z 65 85 = XI mT z (X z) (.aload_n 0, 1, 0, 0, 0, [], 0, 0) 65 85 := X_at (r := mi65) rfl rfl
theorem x65_86 {z : P0} : X z 65 86 = XI mT z (X z) (.getfield 41, 3, 10, 3, 3, [90], 0, 0) 65 86 := X_at (r := mi65) rfl rfl
theorem x65_89 {z : P0} : X z 65 89 = XI mT z (X z) (.getfield 183, 3, 6, 2, 3, [106], 0, 0) 65 89 := X_at (r := mi65) rfl rfl
theorem x65_92 {z : P0} : X z 65 92 = XI mT z (X z) (.iload_n 1, 1, 1, 0, 0, [], 0, 0) 65 92 := X_at (r := mi65) rfl rfl
theorem x65_93 {z : P0} : X z 65 93 = XI mT z (X z) (.iaload, 1, 0, 0, 0, [], 0, 0) 65 93 := X_at (r := mi65) rfl rfl
theorem x65_94 {z : P0} : X z 65 94 = XI mT z (X z) (.ifCond .ne 40, 3, 134, 0, 0, [], 0, 0) 65 94 := X_at (r := mi65) rfl rfl
theorem x65_97 {z : P0} : X z 65 97 = XI mT z (X z) (.aload_n 0, 1, 0, 0, 0, [], 0, 0) 65 97 := X_at (r := mi65) rfl rfl
theorem x65_98 {z : P0} : X z 65 98 = XI mT z (X z) (.getfield 10, 3, 10, 0, 3, [87], 0, 0) 65 98 := X_at (r := mi65) rfl rfl
theorem x65_101 {z : P0} : X z 65 101 = XI mT z (X z) (.getfield 81, 3, 8, 0, 3, [94], 0, 0) 65 101 := X_at (r := mi65) rfl rfl
theorem x65_104 {z : P0} : X z 65 104 = XI mT z (X z) (.iload_n 1, 1, 1, 0, 0, [], 0, 0) 65 104 := X_at (r := mi65) rfl rfl
theorem x65_105 {z : P0} : X z 65 105 = XI mT z (X z) (.aaload, 1, 0, 0, 0, [], 0, 0) 65 105 := X_at (r := mi65) rfl rfl
theorem x65_106 {z : P0} : X z 65 106 = XI mT z (X z) (.aload_n 0, 1, 0, 0, 0, [], 0, 0) 65 106 := X_at (r := mi65) rfl rfl
theorem x65_107 {z : P0} : X z 65 107 = XI mT z (X z) (.getfield 10, 3, 10, 0, 3, [87], 0, 0) 65 107 := X_at (r := mi65) rfl rfl
theorem x65_110 {z : P0} : X z 65 110 = XI mT z (X z) (.getfield 186, 3, 8, 6, 0, [107], 0, 0) 65 110 := X_at (r := mi65) rfl rfl
theorem x65_113 {z : P0} : X z 65 113 = XI mT z (X z) (.putfield 189, 3, 7, 6, 0, [108], 0, 0) 65 113 := X_at (r := mi65) rfl rfl
theorem x65_116 {z : P0} : X z 65 116 = XI mT z (X z) (.aload_n 0, 1, 0, 0, 0, [], 0, 0) 65 116 := X_at (r := mi65) rfl rfl
theorem x65_117 {z : P0} : X z 65 117 = XI mT z (X z) (.getfield 10, 3, 10, 0, 3, [87], 0, 0) 65 117 := X_at (r := mi65) rfl rfl
theorem x65_120 {z : P0} : X z 65 120 = XI mT z (X z) (.getfield 81, 3, 8, 0, 3, [94], 0, 0) 65 120 := X_at (r := mi65) rfl rfl
theorem x65_123 {z : P0} : X z 65 123 = XI mT z (X z) (.iload_n 1, 1, 1, 0, 0, [], 0, 0) 65 123 := X_at (r := mi65) rfl rfl
theorem x65_124 {z : P0} : X z 65 124 = XI mT z (X z) (.aaload, 1, 0, 0, 0, [], 0, 0) 65 124 := X_at (r := mi65) rfl rfl
theorem x65_125 {z : P0} : X z 65 125 = XI mT z (X z) (.dup, 1, 0, 0, 0, [], 0, 0) 65 125 := X_at (r := mi65) rfl rfl
theorem x65_126 {z : P0} : X z 65 126 = XI mT z (X z) (.getfield 192, 3, 7, 7, 0, [109], 0, 0) 65 126 := X_at (r := mi65) rfl rfl
theorem x65_129 {z : P0} : X z 65 129 = XI mT z (X z) (.iconst 1, 1, 0, 0, 0, [], nI 1, 0) 65 129 := X_at (r := mi65) rfl rfl
theorem x65_130 {z : P0} : X z 65 130 = XI mT z (X z) (.iadd, 1, 0, 0, 0, [], 0, 0) 65 130 := X_at (r := mi65) rfl rfl
theorem x65_131 {z : P0} : X z 65 131 = XI mT z (X z) (.putfield 192, 3, 7, 7, 0, [109], 0, 0) 65 131 := X_at (r := mi65) rfl rfl
theorem x65_134 {z : P0} : X z 65 134 = XI mT z (X z) (.iinc 1 1, 3, 1, 0, 0, [], nI 1, 0) 65 134 := X_at (r := mi65) rfl rfl
theorem x65_137 {z : P0} : X z 65 137 = XI mT z (X z) (.goto (-63), 3, 74, 0, 0, [], 0, 0) 65 137 := X_at (r := mi65) rfl rfl
theorem x65_140 {z : P0} : X z 65 140 = XI mT z (X z) (.aload_n 0, 1, 0, 0, 0, [], 0, 0) 65 140 := X_at (r := mi65) rfl rfl
theorem x65_141 {z : P0} : X z 65 141 = XI mT z (X z) (.getfield 10, 3, 10, 0, 3, [87], 0, 0) 65 141 := X_at (r := mi65) rfl rfl
theorem x65_144 {z : P0} : X z 65 144 = XI mT z (X z) (.dup, 1, 0, 0, 0, [], 0, 0) 65 144 := X_at (r := mi65) rfl rfl
theorem x65_145 {z : P0} : X z 65 145 = XI mT z (X z) (.getfield 195, 3, 8, 7, 0, [110], 0, 0) 65 145 := X_at (r := mi65) rfl rfl
theorem x65_148 {z : P0} : X z 65 148 = XI mT z (X z) (.aload_n 0, 1, 0, 0, 0, [], 0, 0) 65 148 := X_at (r := mi65) rfl rfl
theorem x65_149 {z : P0} : X z 65 149 = XI mT z (X z) (.getfield 41, 3, 10, 3, 3, [90], 0, 0) 65 149 := X_at (r := mi65) rfl rfl
theorem x65_152 {z : P0} : X z 65 152 = XI mT z (X z) (.getfield 178, 3, 6, 8, 0, [105], 0, 0) 65 152 := X_at (r := mi65) rfl rfl
theorem x65_155 {z : P0} : X z 65 155 = XI mT z (X z) (.iadd, 1, 0, 0, 0, [], 0, 0) 65 155 := X_at (r := mi65) rfl rfl
theorem x65_156 {z : P0} : X z 65 156 = XI mT z (X z) (.putfield 195, 3, 8, 7, 0, [110], 0, 0) 65 156 := X_at (r := mi65) rfl rfl
theorem x65_159 {z : P0} : X z 65 159 = XI mT z (X z) (.aload_n 0, 1, 0, 0, 0, [], 0, 0) 65 159 := X_at (r := mi65) rfl rfl
theorem x65_160 {z : P0} : X z 65 160 = XI mT z (X z) (.getfield 10, 3, 10, 0, 3, [87], 0, 0) 65 160 := X_at (r := mi65) rfl rfl
theorem x65_163 {z : P0} : X z 65 163 = XI mT z (X z) (.dup, 1, 0, 0, 0, [], 0, 0) 65 163 := X_at (r := mi65) rfl rfl
theorem x65_164 {z : P0} : X z 65 164 = XI mT z (X z) (.getfield 198, 3, 8, 8, 0, [111], 0, 0) 65 164 := X_at (r := mi65) rfl rfl
theorem x65_167 {z : P0} : X z 65 167 = XI mT z (X z) (.aload_n 0, 1, 0, 0, 0, [], 0, 0) 65 167 := X_at (r := mi65) rfl rfl
theorem x65_168 {z : P0} : X z 65 168 = XI mT z (X z) (.getfield 41, 3, 10, 3, 3, [90], 0, 0) 65 168 := X_at (r := mi65) rfl rfl
theorem x65_171 {z : P0} : X z 65 171 = XI mT z (X z) (.getfield 201, 3, 6, 10, 0, [112], 0, 0) 65 171 := X_at (r := mi65) rfl rfl
theorem x65_174 {z : P0} : X z 65 174 = XI mT z (X z) (.iadd, 1, 0, 0, 0, [], 0, 0) 65 174 := X_at (r := mi65) rfl rfl
theorem x65_175 {z : P0} : X z 65 175 = XI mT z (X z) (.putfield 198, 3, 8, 8, 0, [111], 0, 0) 65 175 := X_at (r := mi65) rfl rfl
theorem x65_178 {z : P0} : X z 65 178 = XI mT z (X z) (.aload_n 0, 1, 0, 0, 0, [], 0, 0) 65 178 := X_at (r := mi65) rfl rfl
theorem x65_179 {z : P0} : X z 65 179 = XI mT z (X z) (.getfield 10, 3, 10, 0, 3, [87], 0, 0) 65 179 := X_at (r := mi65) rfl rfl
theorem x65_182 {z : P0} : X z 65 182 = XI mT z (X z) (.dup, 1, 0, 0, 0, [], 0, 0) 65 182 := X_at (r := mi65) rfl rfl
theorem x65_183 {z : P0} : X z 65 183 = XI mT z (X z) (.getfield 204, 3, 8, 9, 0, [113], 0, 0) 65 183 := X_at (r := mi65) rfl rfl
theorem x65_186 {z : P0} : X z 65 186 = XI mT z (X z) (.aload_n 0, 1, 0, 0, 0, [], 0, 0) 65 186 := X_at (r := mi65) rfl rfl
theorem x65_187 {z : P0} : X z 65 187 = XI mT z (X z) (.getfield 41, 3, 10, 3, 3, [90], 0, 0) 65 187 := X_at (r := mi65) rfl rfl
theorem x65_190 {z : P0} : X z 65 190 = XI mT z (X z) (.getfield 207, 3, 6, 11, 0, [114], 0, 0) 65 190 := X_at (r := mi65) rfl rfl
theorem x65_193 {z : P0} : X z 65 193 = XI mT z (X z) (.iadd, 1, 0, 0, 0, [], 0, 0) 65 193 := X_at (r := mi65) rfl rfl
theorem x65_194 {z : P0} : X z 65 194 = XI mT z (X z) (.putfield 204, 3, 8, 9, 0, [113], 0, 0) 65 194 := X_at (r := mi65) rfl rfl
theorem x65_197 {z : P0} : X z 65 197 = XI mT z (X z) (.aload_n 0, 1, 0, 0, 0, [], 0, 0) 65 197 := X_at (r := mi65) rfl rfl
theorem x65_198 {z : P0} : X z 65 198 = XI mT z (X z) (.getfield 41, 3, 10, 3, 3, [90], 0, 0) 65 198 := X_at (r := mi65) rfl rfl
theorem x65_201 {z : P0} : X z 65 201 = XI mT z (X z) (.getfield 178, 3, 6, 8, 0, [105], 0, 0) 65 201 := X_at (r := mi65) rfl rfl
theorem x65_204 {z : P0} : X z 65 204 = XI mT z (X z) (.ireturn, 1, 0, 0, 0, [], 0, 0) 65 204 := X_at (r := mi65) rfl rfl
theorem x66_0 {z : P0} : X z 66 0 = XI mT z (X z) (.iload_n 1, 1, 1, 0, 0, [], 0, 0) 66 0 := X_at (r := mi66) rfl rfl
theorem x66_1 {z : P0} : X z 66 1 = XI mT z (X z) (.iconst 1, 1, 0, 0, 0, [], nI 1, 0) 66 1 := X_at (r := mi66) rfl rfl
theorem x66_2 {z : P0} : X z 66 2 = XI mT z (X z) (.if_icmp .lt 9, 3, 11, 0, 0, [], 0, 0) 66 2 := X_at (r := mi66) rfl rfl
theorem x66_5 {z : P0} : X z 66 5 = XI mT z (X z) (.iload_n 1, 1, 1, 0, 0, [], 0, 0) 66 5 := X_at (r := mi66) rfl rfl
theorem x66_6 {z : P0} : X z 66 6 = XI mT z (X z) (.bipush 100, 2, 0, 0, 0, [], nI 100, 0) 66 6 := X_at (r := mi66) rfl rfl
theorem x66_8 {z : P0} : X z 66 8 = XI mT z (X z) (.if_icmp .le 13, 3, 21, 0, 0, [], 0, 0) 66 8 := X_at (r := mi66) rfl rfl
theorem x66_11 {z : P0} : X z 66 11 = XI mT z (X z) (.new 56, 3, 0, 0, 9, [632], 0, 0) 66 11 := X_at (r := mi66) rfl rfl
theorem x66_14 {z : P0} : X z 66 14 = XI mT z (X z) (.dup, 1, 0, 0, 0, [], 0, 0) 66 14 := X_at (r := mi66) rfl rfl
theorem x66_15 {z : P0} : X z 66 15 = XI mT z (X z) (.ldc 210, 2, 0, 0, 98, [], 0, 0) 66 15 := X_at (r := mi66) rfl rfl
theorem x66_17 {z : P0} : X z 66 17 = XI mT z (X z) (.invokespecial 60, 3, 0, 9999, 0, [], 0, 0) 66 17 := X_at (r := mi66) rfl rfl
theorem x66_20 {z : P0} : X z 66 20 = XI mT z (X z) (.athrow, 1, 0, 0, 0, [], 0, 0) 66 20 := X_at (r := mi66) rfl rfl
theorem x66_21 {z : P0} : X z 66 21 = XI mT z (X z) (.aload_n 0, 1, 0, 0, 0, [], 0, 0) 66 21 := X_at (r := mi66) rfl rfl
theorem x66_22 {z : P0} : X z 66 22 = XI mT z (X z) (.getfield 10, 3, 10, 0, 3, [87], 0, 0) 66 22 := X_at (r := mi66) rfl rfl
theorem x66_25 {z : P0} : X z 66 25 = XI mT z (X z) (.getfield 186, 3, 8, 6, 0, [107], 0, 0) 66 25 := X_at (r := mi66) rfl rfl
theorem x66_28 {z : P0} : X z 66 28 = XI mT z (X z) (.iload_n 1, 1, 1, 0, 0, [], 0, 0) 66 28 := X_at (r := mi66) rfl rfl
theorem x66_29 {z : P0} : X z 66 29 = XI mT z (X z) (.iadd, 1, 0, 0, 0, [], 0, 0) 66 29 := X_at (r := mi66) rfl rfl
theorem x66_30 {z : P0} : X z 66 30 = XI mT z (X z) (.sipush 10000, 3, 0, 0, 0, [], nI 10000, 0) 66 30 := X_at (r := mi66) rfl rfl
theorem x66_33 {z : P0} : X z 66 33 = XI mT z (X z) (.if_icmp .le 13, 3, 46, 0, 0, [], 0, 0) 66 33 := X_at (r := mi66) rfl rfl
theorem x66_36 {z : P0} : X z 66 36 = XI mT z (X z) (.new 72, 3, 1, 0, 9, [726], 0, 0) 66 36 := X_at (r := mi66) rfl rfl
theorem x66_39 {z : P0} : X z 66 39 = XI mT z (X z) (.dup, 1, 0, 0, 0, [], 0, 0) 66 39 := X_at (r := mi66) rfl rfl
theorem x66_40 {z : P0} : X z 66 40 = XI mT z (X z) (.ldc 212, 2, 0, 0, 98, [], 0, 0) 66 40 := X_at (r := mi66) rfl rfl
theorem x66_42 {z : P0} : X z 66 42 = XI mT z (X z) (.invokespecial 76, 3, 0, 9999, 0, [], 0, 0) 66 42 := X_at (r := mi66) rfl rfl
theorem x66_45 {z : P0} : X z 66 45 = XI mT z (X z) (.athrow, 1, 0, 0, 0, [], 0, 0) 66 45 := X_at (r := mi66) rfl rfl
theorem x66_46 {z : P0} : X z 66 46 = XI mT z (X z) (.aload_n 0, 1, 0, 0, 0, [], 0, 0) 66 46 := X_at (r := mi66) rfl rfl
theorem x66_47 {z : P0} : X z 66 47 = XI mT z (X z) (.getfield 19, 3, 10, 1, 3, [88], 0, 0) 66 47 := X_at (r := mi66) rfl rfl
theorem x66_50 {z : P0} : X z 66 50 = XI mT z (X z) (.aload_n 0, 1, 0, 0, 0, [], 0, 0) 66 50 := X_at (r := mi66) rfl rfl
theorem x66_51 {z : P0} : X z 66 51 = XI mT z (X z) (.getfield 10, 3, 10, 0, 3, [87], 0, 0) 66 51 := X_at (r := mi66) rfl rfl
theorem x66_54 {z : P0} : X z 66 54 = XI mT z (X z) (.invokevirtual 77, 3, 1, 24, 0, [67], 0, 0) 66 54 := X_at (r := mi66) rfl rfl
theorem x66_57 {z : P0} : X z 66 57 = XI mT z (X z) (.aload_n 0, 1, 0, 0, 0, [], 0, 0) 66 57 := X_at (r := mi66) rfl rfl
theorem x66_58 {z : P0} : X z 66 58 = XI mT z (X z) (.getfield 10, 3, 10, 0, 3, [87], 0, 0) 66 58 := X_at (r := mi66) rfl rfl
theorem x66_61 {z : P0} : X z 66 61 = XI mT z (X z) (.dup, 1, 0, 0, 0, [], 0, 0) 66 61 := X_at (r := mi66) rfl rfl
theorem x66_62 {z : P0} : X z 66 62 = XI mT z (X z) (.getfield 186, 3, 8, 6, 0, [107], 0, 0) 66 62 := X_at (r := mi66) rfl rfl
theorem x66_65 {z : P0} : X z 66 65 = XI mT z (X z) (.iload_n 1, 1, 1, 0, 0, [], 0, 0) 66 65 := X_at (r := mi66) rfl rfl
theorem x66_66 {z : P0} : X z 66 66 = XI mT z (X z) (.iadd, 1, 0, 0, 0, [], 0, 0) 66 66 := X_at (r := mi66) rfl rfl
theorem x66_67 {z : P0} : X z 66 67 = XI mT z (X z) (.putfield 186, 3, 8, 6, 0, [107], 0, 0) 66 67 := X_at (r := mi66) rfl rfl
theorem x66_70 {z : P0} : X z 66 70 = XI mT z (X z) (.aload_n 0, 1, 0, 0, 0, [], 0, 0) 66 70 := X_at (r := mi66) rfl rfl
theorem x66_71 {z : P0} : X z 66 71 = XI mT z (X z) (.getfield 10, 3, 10, 0, 3, [87], 0, 0) 66 71 := X_at (r := mi66) rfl rfl
theorem x66_74 {z : P0} : X z 66 74 = XI mT z (X z) (.getfield 186, 3, 8, 6, 0, [107], 0, 0) 66 74 := X_at (r := mi66) rfl rfl
theorem x66_77 {z : P0} : X z 66 77 = XI mT z (X z) (.ireturn, 1, 0, 0, 0, [], 0, 0) 66 77 := X_at (r := mi66) rfl rfl
theorem x67_0 {z : P0} : X z 67 0 = XI mT z (X z) (.iload_n 1, 1, 1, 0, 0, [], 0, 0) 67 0 := X_at (r := mi67) rfl rfl
theorem x67_1 {z : P0} : X z 67 1 = XI mT z (X z) (.bipush 33, 2, 0, 0, 0, [], nI 33, 0) 67 1 := X_at (r := mi67) rfl rfl
theorem x67_3 {z : P0} : X z 67 3 = XI mT z (X z) (.if_icmp .lt 9, 3, 12, 0, 0, [], 0, 0) 67 3 := X_at (r := mi67) rfl rfl
theorem x67_6 {z : P0} : X z 67 6 = XI mT z (X z) (.iload_n 1, 1, 1, 0, 0, [], 0, 0) 67 6 := X_at (r := mi67) rfl rfl
theorem x67_7 {z : P0} : X z 67 7 = XI mT z (X z) (.bipush 126, 2, 0, 0, 0, [], nI 126, 0) 67 7 := X_at (r := mi67) rfl rfl
theorem x67_9 {z : P0} : X z 67 9 = XI mT z (X z) (.if_icmp .le 13, 3, 22, 0, 0, [], 0, 0) 67 9 := X_at (r := mi67) rfl rfl
theorem x67_12 {z : P0} : X z 67 12 = XI mT z (X z) (.new 56, 3, 0, 0, 9, [632], 0, 0) 67 12 := X_at (r := mi67) rfl rfl
theorem x67_15 {z : P0} : X z 67 15 = XI mT z (X z) (.dup, 1, 0, 0, 0, [], 0, 0) 67 15 := X_at (r := mi67) rfl rfl
theorem x67_16 {z : P0} : X z 67 16 = XI mT z (X z) (.ldc 214, 2, 0, 0, 98, [], 0, 0) 67 16 := X_at (r := mi67) rfl rfl
theorem x67_18 {z : P0} : X z 67 18 = XI mT z (X z) (.invokespecial 60, 3, 0, 9999, 0, [], 0, 0) 67 18 := X_at (r := mi67) rfl rfl
theorem x67_21 {z : P0} : X z 67 21 = XI mT z (X z) (.athrow, 1, 0, 0, 0, [], 0, 0) 67 21 := X_at (r := mi67) rfl rfl
theorem x67_22 {z : P0} : X z 67 22 = XI mT z (X z) (.aload_n 0, 1, 0, 0, 0, [], 0, 0) 67 22 := X_at (r := mi67) rfl rfl
theorem x67_23 {z : P0} : X z 67 23 = XI mT z (X z) (.getfield 26, 3, 10, 2, 3, [89], 0, 0) 67 23 := X_at (r := mi67) rfl rfl
theorem x67_26 {z : P0} : X z 67 26 = XI mT z (X z) (.getfield 91, 3, 0, 1, 0, [95], 0, 0) 67 26 := X_at (r := mi67) rfl rfl
theorem x67_29 {z : P0} : X z 67 29 = XI mT z (X z) (.bipush 60, 2, 0, 0, 0, [], nI 60, 0) 67 29 := X_at (r := mi67) rfl rfl
theorem x67_31 {z : P0} : X z 67 31 = XI mT z (X z) (.if_icmp .lt 13, 3, 44, 0, 0, [], 0, 0) 67 31 := X_at (r := mi67) rfl rfl
theorem x67_34 {z : P0} : X z 67 34 = XI mT z (X z) (.new 72, 3, 1, 0, 9, [726], 0, 0) 67 34 := X_at (r := mi67) rfl rfl
theorem x67_37 {z : P0} : X z 67 37 = XI mT z (X z) (.dup, 1, 0, 0, 0, [], 0, 0) 67 37 := X_at (r := mi67) rfl rfl
theorem x67_38 {z : P0} : X z 67 38 = XI mT z (X z) (.ldc 216, 2, 0, 0, 98, [], 0, 0) 67 38 := X_at (r := mi67) rfl rfl
theorem x67_40 {z : P0} : X z 67 40 = XI mT z (X z) (.invokespecial 76, 3, 0, 9999, 0, [], 0, 0) 67 40 := X_at (r := mi67) rfl rfl
theorem x67_43 {z : P0} : X z 67 43 = XI mT z (X z) (.athrow, 1, 0, 0, 0, [], 0, 0) 67 43 := X_at (r := mi67) rfl rfl
theorem x67_44 {z : P0} : X z 67 44 = XI mT z (X z) (.aload_n 0, 1, 0, 0, 0, [], 0, 0) 67 44 := X_at (r := mi67) rfl rfl
theorem x67_45 {z : P0} : X z 67 45 = XI mT z (X z) (.getfield 26, 3, 10, 2, 3, [89], 0, 0) 67 45 := X_at (r := mi67) rfl rfl
theorem x67_48 {z : P0} : X z 67 48 = XI mT z (X z) (.getfield 116, 3, 0, 0, 3, [99], 0, 0) 67 48 := X_at (r := mi67) rfl rfl
theorem x67_51 {z : P0} : X z 67 51 = XI mT z (X z) (.aload_n 0, 1, 0, 0, 0, [], 0, 0) 67 51 := X_at (r := mi67) rfl rfl
theorem x67_52 {z : P0} : X z 67 52 = XI mT z (X z) (.getfield 26, 3, 10, 2, 3, [89], 0, 0) 67 52 := X_at (r := mi67) rfl rfl
theorem x67_55 {z : P0} : X z 67 55 = XI mT z (X z) (.getfield 91, 3, 0, 1, 0, [95], 0, 0) 67 55 := X_at (r := mi67) rfl rfl
theorem x67_58 {z : P0} : X z 67 58 = XI mT z (X z) (.iload_n 1, 1, 1, 0, 0, [], 0, 0) 67 58 := X_at (r := mi67) rfl rfl
theorem x67_59 {z : P0} : X z 67 59 = XI mT z (X z) (.iastore, 1, 0, 0, 0, [], 0, 0) 67 59 := X_at (r := mi67) rfl rfl
theorem x67_60 {z : P0} : X z 67 60 = XI mT z (X z) (.aload_n 0, 1, 0, 0, 0, [], 0, 0) 67 60 := X_at (r := mi67) rfl rfl
theorem x67_61 {z : P0} : X z 67 61 = XI mT z (X z) (.getfield 26, 3, 10, 2, 3, [89], 0, 0) 67 61 := X_at (r := mi67) rfl rfl
theorem x67_64 {z : P0} : X z 67 64 = XI mT z (X z) (.dup, 1, 0, 0, 0, [], 0, 0) 67 64 := X_at (r := mi67) rfl rfl
theorem x67_65 {z : P0} : X z 67 65 = XI mT z (X z) (.getfield 91, 3, 0, 1, 0, [95], 0, 0) 67 65 := X_at (r := mi67) rfl rfl
theorem x67_68 {z : P0} : X z 67 68 = XI mT z (X z) (.iconst 1, 1, 0, 0, 0, [], nI 1, 0) 67 68 := X_at (r := mi67) rfl rfl
theorem x67_69 {z : P0} : X z 67 69 = XI mT z (X z) (.iadd, 1, 0, 0, 0, [], 0, 0) 67 69 := X_at (r := mi67) rfl rfl
theorem x67_70 {z : P0} : X z 67 70 = XI mT z (X z) (.putfield 91, 3, 0, 1, 0, [95], 0, 0) 67 70 := X_at (r := mi67) rfl rfl
theorem x67_73 {z : P0} : X z 67 73 = XI mT z (X z) (.aload_n 0, 1, 0, 0, 0, [], 0, 0) 67 73 := X_at (r := mi67) rfl rfl
theorem x67_74 {z : P0} : X z 67 74 = XI mT z (X z) (.getfield 26, 3, 10, 2, 3, [89], 0, 0) 67 74 := X_at (r := mi67) rfl rfl
theorem x67_77 {z : P0} : X z 67 77 = XI mT z (X z) (.getfield 91, 3, 0, 1, 0, [95], 0, 0) 67 77 := X_at (r := mi67) rfl rfl
theorem x67_80 {z : P0} : X z 67 80 = XI mT z (X z) (.ireturn, 1, 0, 0, 0, [], 0, 0) 67 80 := X_at (r := mi67) rfl rfl
theorem x68_0 {z : P0} : X z 68 0 = XI mT z (X z) (.aload_n 0, 1, 0, 0, 0, [], 0, 0) 68 0 := X_at (r := mi68) rfl rfl
theorem x68_1 {z : P0} : X z 68 1 = XI mT z (X z) (.getfield 26, 3, 10, 2, 3, [89], 0, 0) 68 1 := X_at (r := mi68) rfl rfl
theorem x68_4 {z : P0} : X z 68 4 = XI mT z (X z) (.getfield 91, 3, 0, 1, 0, [95], 0, 0) 68 4 := X_at (r := mi68) rfl rfl
theorem x68_7 {z : P0} : X z 68 7 = XI mT z (X z) (.istore_n 1, 1, 1, 0, 0, [], 0, 0) 68 7 := X_at (r := mi68) rfl rfl
theorem x68_8 {z : P0} : X z 68 8 = XI mT z (X z) (.aload_n 0, 1, 0, 0, 0, [], 0, 0) 68 8 := X_at (r := mi68) rfl rfl
theorem x68_9 {z : P0} : X z 68 9 = XI mT z (X z) (.getfield 26, 3, 10, 2, 3, [89], 0, 0) 68 9 := X_at (r := mi68) rfl rfl
theorem x68_12 {z : P0} : X z 68 12 = XI mT z (X z) (.iconst 0, 1, 0, 0, 0, [], nI 0, 0) 68 12 := X_at (r := mi68) rfl rfl
theorem x68_13 {z : P0} : X z 68 13 = XI mT z (X z) (.putfield 91, 3, 0, 1, 0, [95], 0, 0) 68 13 := X_at (r := mi68) rfl rfl
theorem x68_16 {z : P0} : X z 68 16 = XI mT z (X z) (.iload_n 1, 1, 1, 0, 0, [], 0, 0) 68 16 := X_at (r := mi68) rfl rfl
theorem x68_17 {z : P0} : X z 68 17 = XI mT z (X z) (.ireturn, 1, 0, 0, 0, [], 0, 0) 68 17 := X_at (r := mi68) rfl rfl
theorem x69_0 {z : P0} : X z 69 0 = XI mT z (X z) (.iload_n 1, 1, 1, 0, 0, [], 0, 0) 69 0 := X_at (r := mi69) rfl rfl
theorem x69_1 {z : P0} : X z 69 1 = XI mT z (X z) (.ifCond .lt 8, 3, 9, 0, 0, [], 0, 0) 69 1 := X_at (r := mi69) rfl rfl
theorem x69_4 {z : P0} : X z 69 4 = XI mT z (X z) (.iload_n 1, 1, 1, 0, 0, [], 0, 0) 69 4 := X_at (r := mi69) rfl rfl
theorem x69_5 {z : P0} : X z 69 5 = XI mT z (X z) (.iconst 2, 1, 0, 0, 0, [], nI 2, 0) 69 5 := X_at (r := mi69) rfl rfl
theorem x69_6 {z : P0} : X z 69 6 = XI mT z (X z) (.if_icmp .le 13, 3, 19, 0, 0, [], 0, 0) 69 6 := X_at (r := mi69) rfl rfl
theorem x69_9 {z : P0} : X z 69 9 = XI mT z (X z) (.new 56, 3, 0, 0, 9, [632], 0, 0) 69 9 := X_at (r := mi69) rfl rfl
theorem x69_12 {z : P0} : X z 69 12 = XI mT z (X z) (.dup, 1, 0, 0, 0, [], 0, 0) 69 12 := X_at (r := mi69) rfl rfl
theorem x69_13 {z : P0} : X z 69 13 = XI mT z (X z) (.ldc 218, 2, 0, 0, 98, [], 0, 0) 69 13 := X_at (r := mi69) rfl rfl
theorem x69_15 {z : P0} : X z 69 15 = XI mT z (X z) (.invokespecial 60, 3, 0, 9999, 0, [], 0, 0) 69 15 := X_at (r := mi69) rfl rfl
theorem x69_18 {z : P0} : X z 69 18 = XI mT z (X z) (.athrow, 1, 0, 0, 0, [], 0, 0) 69 18 := X_at (r := mi69) rfl rfl
theorem x69_19 {z : P0} : X z 69 19 = XI mT z (X z) (.aload_n 0, 1, 0, 0, 0, [], 0, 0) 69 19 := X_at (r := mi69) rfl rfl
theorem x69_20 {z : P0} : X z 69 20 = XI mT z (X z) (.getfield 26, 3, 10, 2, 3, [89], 0, 0) 69 20 := X_at (r := mi69) rfl rfl
theorem x69_23 {z : P0} : X z 69 23 = XI mT z (X z) (.iload_n 1, 1, 1, 0, 0, [], 0, 0) 69 23 := X_at (r := mi69) rfl rfl
theorem x69_24 {z : P0} : X z 69 24 = XI mT z (X z) (.invokevirtual 220, 3, 1, 1, 0, [78], 0, 0) 69 24 := X_at (r := mi69) rfl rfl
theorem x69_27 {z : P0} : X z 69 27 = XI mT z (X z) (.ireturn, 1, 0, 0, 0, [], 0, 0) 69 27 := X_at (r := mi69) rfl rfl
theorem x70_0 {z : P0} : X z 70 0 = XI mT z (X z) (.aload_n 0, 1, 0, 0, 0, [], 0, 0) 70 0 := X_at (r := mi70) rfl rfl
theorem x70_1 {z : P0} : X z 70 1 = XI mT z (X z) (.getfield 19, 3, 10, 1, 3, [88], 0, 0) 70 1 := X_at (r := mi70) rfl rfl
theorem x70_4 {z : P0} : X z 70 4 = XI mT z (X z) (.getfield 224, 3, 3, 1, 0, [115], 0, 0) 70 4 := X_at (r := mi70) rfl rfl
theorem x70_7 {z : P0} : X z 70 7 = XI mT z (X z) (.ifCond .ne 13, 3, 20, 0, 0, [], 0, 0) 70 7 := X_at (r := mi70) rfl rfl
theorem x70_10 {z : P0} : X z 70 10 = XI mT z (X z) (.new 72, 3, 1, 0, 9, [726], 0, 0) 70 10 := X_at (r := mi70) rfl rfl
theorem x70_13 {z : P0} : X z 70 13 = XI mT z (X z) (.dup, 1, 0, 0, 0, [], 0, 0) 70 13 := X_at (r := mi70) rfl rfl
theorem x70_14 {z : P0} : X z 70 14 = XI mT z (X z) (.ldc 227, 2, 0, 0, 98, [], 0, 0) 70 14 := X_at (r := mi70) rfl rfl
theorem x70_16 {z : P0} : X z 70 16 = XI mT z (X z) (.invokespecial 76, 3, 0, 9999, 0, [], 0, 0) 70 16 := X_at (r := mi70) rfl rfl
theorem x70_19 {z : P0} : X z 70 19 = XI mT z (X z) (.athrow, 1, 0, 0, 0, [], 0, 0) 70 19 := X_at (r := mi70) rfl rfl
theorem x70_20 {z : P0} : X z 70 20 = XI mT z (X z) (.aload_n 0, 1, 0, 0, 0, [], 0, 0) 70 20 := X_at (r := mi70) rfl rfl
theorem x70_21 {z : P0} : X z 70 21 = XI mT z (X z) (.getfield 19, 3, 10, 1, 3, [88], 0, 0) 70 21 := X_at (r := mi70) rfl rfl
theorem x70_24 {z : P0} : X z 70 24 = XI mT z (X z) (.aload_n 0, 1, 0, 0, 0, [], 0, 0) 70 24 := X_at (r := mi70) rfl rfl
theorem x70_25 {z : P0} : X z 70 25 = XI mT z (X z) (.getfield 10, 3, 10, 0, 3, [87], 0, 0) 70 25 := X_at (r := mi70) rfl rfl
theorem x70_28 {z : P0} : X z 70 28 = XI mT z (X z) (.invokevirtual 229, 3, 1, 25, 0, [79], 0, 0) 70 28 := X_at (r := mi70) rfl rfl
theorem x70_31 {z : P0} : X z 70 31 = XI mT z (X z) (.aload_n 0, 1, 0, 0, 0, [], 0, 0) 70 31 := X_at (r := mi70) rfl rfl
theorem x70_32 {z : P0} : X z 70 32 = XI mT z (X z) (.getfield 19, 3, 10, 1, 3, [88], 0, 0) 70 32 := X_at (r := mi70) rfl rfl
theorem x70_35 {z : P0} : X z 70 35 = XI mT z (X z) (.getfield 224, 3, 3, 1, 0, [115], 0, 0) 70 35 := X_at (r := mi70) rfl rfl
theorem x70_38 {z : P0} : X z 70 38 = XI mT z (X z) (.ireturn, 1, 0, 0, 0, [], 0, 0) 70 38 := X_at (r := mi70) rfl rfl
theorem x71_0 {z : P0} : X z 71 0 = XI mT z (X z) (.aload_n 0, 1, 0, 0, 0, [], 0, 0) 71 0 := X_at (r := mi71) rfl rfl
theorem x71_1 {z : P0} : X z 71 1 = XI mT z (X z) (.iload_n 1, 1, 1, 0, 0, [], 0, 0) 71 1 := X_at (r := mi71) rfl rfl
theorem x71_2 {z : P0} : X z 71 2 = XI mT z (X z) (.invokevirtual 129, 3, 1, 89, 0, [72], 0, 0) 71 2 := X_at (r := mi71) rfl rfl
theorem x71_5 {z : P0} : X z 71 5 = XI mT z (X z) (.ifCond .ne 13, 3, 18, 0, 0, [], 0, 0) 71 5 := X_at (r := mi71) rfl rfl
theorem x71_8 {z : P0} : X z 71 8 = XI mT z (X z) (.new 132, 3, 2, 0, 9, [812], 0, 0) 71 8 := X_at (r := mi71) rfl rfl
theorem x71_11 {z : P0} : X z 71 11 = XI mT z (X z) (.dup, 1, 0, 0, 0, [], 0, 0) 71 11 := X_at (r := mi71) rfl rfl
theorem x71_12 {z : P0} : X z 71 12 = XI mT z (X z) (.ldc 134, 2, 0, 0, 98, [], 0, 0) 71 12 := X_at (r := mi71) rfl rfl
theorem x71_14 {z : P0} : X z 71 14 = XI mT z (X z) (.invokespecial 136, 3, 0, 9999, 0, [], 0, 0) 71 14 := X_at (r := mi71) rfl rfl
theorem x71_17 {z : P0} : X z 71 17 = XI mT z (X z) (.athrow, 1, 0, 0, 0, [], 0, 0) 71 17 := X_at (r := mi71) rfl rfl
theorem x71_18 {z : P0} : X z 71 18 = XI mT z (X z) (.iload_n 2, 1, 2, 0, 0, [], 0, 0) 71 18 := X_at (r := mi71) rfl rfl
theorem x71_19 {z : P0} : X z 71 19 = XI mT z (X z) (.ifCond .lt 9, 3, 28, 0, 0, [], 0, 0) 71 19 := X_at (r := mi71) rfl rfl
theorem x71_22 {z : P0} : X z 71 22 = XI mT z (X z) (.iload_n 2, 1, 2, 0, 0, [], 0, 0) 71 22 := X_at (r := mi71) rfl rfl
theorem x71_23 {z : P0} : X z 71 23 = XI mT z (X z) (.bipush 8, 2, 0, 0, 0, [], nI 8, 0) 71 23 := X_at (r := mi71) rfl rfl
theorem x71_25 {z : P0} : X z 71 25 = XI mT z (X z) (.if_icmp .le 13, 3, 38, 0, 0, [], 0, 0) 71 25 := X_at (r := mi71) rfl rfl
theorem x71_28 {z : P0} : X z 71 28 = XI mT z (X z) (.new 56, 3, 0, 0, 9, [632], 0, 0) 71 28 := X_at (r := mi71) rfl rfl
theorem x71_31 {z : P0} : X z 71 31 = XI mT z (X z) (.dup, 1, 0, 0, 0, [], 0, 0) 71 31 := X_at (r := mi71) rfl rfl
theorem x71_32 {z : P0} : X z 71 32 = XI mT z (X z) (.ldc 232, 2, 0, 0, 98, [], 0, 0) 71 32 := X_at (r := mi71) rfl rfl
theorem x71_34 {z : P0} : X z 71 34 = XI mT z (X z) (.invokespecial 60, 3, 0, 9999, 0, [], 0, 0) 71 34 := X_at (r := mi71) rfl rfl
theorem x71_37 {z : P0} : X z 71 37 = XI mT z (X z) (.athrow, 1, 0, 0, 0, [], 0, 0) 71 37 := X_at (r := mi71) rfl rfl
theorem x71_38 {z : P0} : X z 71 38 = XI mT z (X z) (.aload_n 0, 1, 0, 0, 0, [], 0, 0) 71 38 := X_at (r := mi71) rfl rfl
theorem x71_39 {z : P0} : X z 71 39 = XI mT z (X z) (.getfield 41, 3, 10, 3, 3, [90], 0, 0) 71 39 := X_at (r := mi71) rfl rfl
theorem x71_42 {z : P0} : X z 71 42 = XI mT z (X z) (.aload_n 0, 1, 0, 0, 0, [], 0, 0) 71 42 := X_at (r := mi71) rfl rfl
theorem x71_43 {z : P0} : X z 71 43 = XI mT z (X z) (.getfield 10, 3, 10, 0, 3, [87], 0, 0) 71 43 := X_at (r := mi71) rfl rfl
theorem x71_46 {z : P0} : X z 71 46 = XI mT z (X z) (.aload_n 0, 1, 0, 0, 0, [], 0, 0) 71 46 := X_at (r := mi71) rfl rfl
theorem x71_47 {z : P0} : X z 71 47 = XI mT z (X z) (.getfield 10, 3, 10, 0, 3, [87], 0, 0) 71 47 := X_at (r := mi71) rfl rfl
theorem x71_50 {z : P0} : X z 71 50 = XI mT z (X z) (.getfield 168, 3, 8, 5, 3, [103], 0, 0) 71 50 := X_at (r := mi71) rfl rfl
theorem x71_53 {z : P0} : X z 71 53 = XI mT z (X z) (.invokevirtual 174, 3, 2, 38, 0, [77], 0, 0) 71 53 := X_at (r := mi71) rfl rfl
theorem x71_56 {z : P0} : X z 71 56 = XI mT z (X z) (.aload_n 0, 1, 0, 0, 0, [], 0, 0) 71 56 := X_at (r := mi71) rfl rfl
theorem x71_57 {z : P0} : X z 71 57 = XI mT z (X z) (.iload_n 1, 1, 1, 0, 0, [], 0, 0) 71 57 := X_at (r := mi71) rfl rfl
theorem x71_58 {z : P0} : X z 71 58 = XI mT z (X z) (.iload_n 2, 1, 2, 0, 0, [], 0, 0) 71 58 := X_at (r := mi71) rfl rfl
theorem x71_59 {z : P0} : X z 71 59 = XI mT z (X z) (.invokevirtual 234, 3, 2, 93, 0, [80], 0, 0) 71 59 := X_at (r := mi71) rfl rfl
theorem x71_62 {z : P0} : X z 71 62 = XI mT z (X z) (.ireturn, 1, 0, 0, 0, [], 0, 0) 71 62 := X_at (r := mi71) rfl rfl
theorem x72_0 {z : P0} : X z 72 0 = XI mT z (X z) (.aload_n 0, 1, 0, 0, 0, [], 0, 0) 72 0 := X_at (r := mi72) rfl rfl
theorem x72_1 {z : P0} : X z 72 1 = XI mT z (X z) (.iload_n 1, 1, 1, 0, 0, [], 0, 0) 72 1 := X_at (r := mi72) rfl rfl
theorem x72_2 {z : P0} : X z 72 2 = XI mT z (X z) (.invokevirtual 129, 3, 1, 89, 0, [72], 0, 0) 72 2 := X_at (r := mi72) rfl rfl
theorem x72_5 {z : P0} : X z 72 5 = XI mT z (X z) (.ifCond .eq 23, 3, 28, 0, 0, [], 0, 0) 72 5 := X_at (r := mi72) rfl rfl
theorem x72_8 {z : P0} : X z 72 8 = XI mT z (X z) (.iload_n 2, 1, 2, 0, 0, [], 0, 0) 72 8 := X_at (r := mi72) rfl rfl
theorem x72_9 {z : P0} : X z 72 9 = XI mT z (X z) (.ifCond .lt 19, 3, 28, 0, 0, [], 0, 0) 72 9 := X_at (r := mi72) rfl rfl
theorem x72_12 {z : P0} : X z 72 12 = XI mT z (X z) (.iload_n 2, 1, 2, 0, 0, [], 0, 0) 72 12 := X_at (r := mi72) rfl rfl
theorem x72_13 {z : P0} : X z 72 13 = XI mT z (X z) (.aload_n 0, 1, 0, 0, 0, [], 0, 0) 72 13 := X_at (r := mi72) rfl rfl
theorem x72_14 {z : P0} : X z 72 14 = XI mT z (X z) (.getfield 10, 3, 10, 0, 3, [87], 0, 0) 72 14 := X_at (r := mi72) rfl rfl
theorem x72_17 {z : P0} : X z 72 17 = XI mT z (X z) (.getfield 81, 3, 8, 0, 3, [94], 0, 0) 72 17 := X_at (r := mi72) rfl rfl
theorem x72_20 {z : P0} : X z 72 20 = XI mT z (X z) (.iload_n 1, 1, 1, 0, 0, [], 0, 0) 72 20 := X_at (r := mi72) rfl rfl
theorem x72_21 {z : P0} : X z 72 21 = XI mT z (X z) (.aaload, 1, 0, 0, 0, [], 0, 0) 72 21 := X_at (r := mi72) rfl rfl
theorem x72_22 {z : P0} : X z 72 22 = XI mT z (X z) (.getfield 238, 3, 7, 1, 0, [116], 0, 0) 72 22 := X_at (r := mi72) rfl rfl
theorem x72_25 {z : P0} : X z 72 25 = XI mT z (X z) (.if_icmp .lt 13, 3, 38, 0, 0, [], 0, 0) 72 25 := X_at (r := mi72) rfl rfl
theorem x72_28 {z : P0} : X z 72 28 = XI mT z (X z) (.new 132, 3, 2, 0, 9, [812], 0, 0) 72 28 := X_at (r := mi72) rfl rfl
theorem x72_31 {z : P0} : X z 72 31 = XI mT z (X z) (.dup, 1, 0, 0, 0, [], 0, 0) 72 31 := X_at (r := mi72) rfl rfl
theorem x72_32 {z : P0} : X z 72 32 = XI mT z (X z) (.ldc 241, 2, 0, 0, 98, [], 0, 0) 72 32 := X_at (r := mi72) rfl rfl
theorem x72_34 {z : P0} : X z 72 34 = XI mT z (X z) (.invokespecial 136, 3, 0, 9999, 0, [], 0, 0) 72 34 := X_at (r := mi72) rfl rfl
theorem x72_37 {z : P0} : X z 72 37 = XI mT z (X z) (.athrow, 1, 0, 0, 0, [], 0, 0) 72 37 := X_at (r := mi72) rfl rfl
theorem x72_38 {z : P0} : X z 72 38 = XI mT z (X z) (.aload_n 0, 1, 0, 0, 0, [], 0, 0) 72 38 := X_at (r := mi72) rfl rfl
theorem x72_39 {z : P0} : X z 72 39 = XI mT z (X z) (.getfield 10, 3, 10, 0, 3, [87], 0, 0) 72 39 := X_at (r := mi72) rfl rfl
theorem x72_42 {z : P0} : X z 72 42 = XI mT z (X z) (.getfield 81, 3, 8, 0, 3, [94], 0, 0) 72 42 := X_at (r := mi72) rfl rfl
theorem x72_45 {z : P0} : X z 72 45 = XI mT z (X z) (.iload_n 1, 1, 1, 0, 0, [], 0, 0) 72 45 := X_at (r := mi72) rfl rfl
theorem x72_46 {z : P0} : X z 72 46 = XI mT z (X z) (.aaload, 1, 0, 0, 0, [], 0, 0) 72 46 := X_at (r := mi72) rfl rfl
theorem x72_47 {z : P0} : X z 72 47 = XI mT z (X z) (.getfield 243, 3, 7, 0, 3, [117], 0, 0) 72 47 := X_at (r := mi72) rfl rfl
theorem x72_50 {z : P0} : X z 72 50 = XI mT z (X z) (.iload_n 2, 1, 2, 0, 0, [], 0, 0) 72 50 := X_at (r := mi72) rfl rfl
theorem x72_51 {z : P0} : X z 72 51 = XI mT z (X z) (.iaload, 1, 0, 0, 0, [], 0, 0) 72 51 := X_at (r := mi72) rfl rfl
theorem x72_52 {z : P0} : X z 72 52 = XI mT z (X z) (.ireturn, 1, 0, 0, 0, [], 0, 0) 72 52 := X_at (r := mi72) rfl rfl
theorem x73_0 {z : P0} : X z 73 0 = XI mT z (X z) (.aload_n 0, 1, 0, 0, 0, [], 0, 0) 73 0 := X_at (r := mi73) rfl rfl
theorem x73_1 {z : P0} : X z 73 1 = XI mT z (X z) (.iload_n 1, 1, 1, 0, 0, [], 0, 0) 73 1 := X_at (r := mi73) rfl rfl
theorem x73_2 {z : P0} : X z 73 2 = XI mT z (X z) (.invokevirtual 142, 3, 1, 90, 0, [73], 0, 0) 73 2 := X_at (r := mi73) rfl rfl
theorem x73_5 {z : P0} : X z 73 5 = XI mT z (X z) (.ifCond .ne 13, 3, 18, 0, 0, [], 0, 0) 73 5 := X_at (r := mi73) rfl rfl
theorem x73_8 {z : P0} : X z 73 8 = XI mT z (X z) (.new 132, 3, 2, 0, 9, [812], 0, 0) 73 8 := X_at (r := mi73) rfl rfl
theorem x73_11 {z : P0} : X z 73 11 = XI mT z (X z) (.dup, 1, 0, 0, 0, [], 0, 0) 73 11 := X_at (r := mi73) rfl rfl
theorem x73_12 {z : P0} : X z 73 12 = XI mT z (X z) (.ldc 145, 2, 0, 0, 98, [], 0, 0) 73 12 := X_at (r := mi73) rfl rfl
theorem x73_14 {z : P0} : X z 73 14 = XI mT z (X z) (.invokespecial 136, 3, 0, 9999, 0, [], 0, 0) 73 14 := X_at (r := mi73) rfl rfl
theorem x73_17 {z : P0} : X z 73 17 = XI mT z (X z) (.athrow, 1, 0, 0, 0, [], 0, 0) 73 17 := X_at (r := mi73) rfl rfl
theorem x73_18 {z : P0} : X z 73 18 = XI mT z (X z) (.iload_n 2, 1, 2, 0, 0, [], 0, 0) 73 18 := X_at (r := mi73) rfl rfl
theorem x73_19 {z : P0} : X z 73 19 = XI mT z (X z) (.bipush 10, 2, 0, 0, 0, [], nI 10, 0) 73 19 := X_at (r := mi73) rfl rfl
theorem x73_21 {z : P0} : X z 73 21 = XI mT z (X z) (.if_icmp .lt 13, 3, 34, 0, 0, [], 0, 0) 73 21 := X_at (r := mi73) rfl rfl
theorem x73_24 {z : P0} : X z 73 24 = XI mT z (X z) (.iload_n 2, 1, 2, 0, 0, [], 0, 0) 73 24 := X_at (r := mi73) rfl rfl
theorem x73_25 {z : P0} : X z 73 25 = XI mT z (X z) (.bipush 18, 2, 0, 0, 0, [], nI 18, 0) 73 25 := X_at (r := mi73) rfl rfl
theorem x73_27 {z : P0} : X z 73 27 = XI mT z (X z) (.if_icmp .ge 7, 3, 34, 0, 0, [], 0, 0) 73 27 := X_at (r := mi73) rfl rfl
theorem x73_30 {z : P0} : X z 73 30 = XI mT z (X z) (.iconst 1, 1, 0, 0, 0, [], nI 1, 0) 73 30 := X_at (r := mi73) rfl rfl
theorem x73_31 {z : P0} : X z 73 31 = XI mT z (X z) (.goto 4, 3, 35, 0, 0, [], 0, 0) 73 31 := X_at (r := mi73) rfl rfl
theorem x73_34 {z : P0} : X z 73 34 = XI mT z (X z) (.iconst 0, 1, 0, 0, 0, [], nI 0, 0) 73 34 := X_at (r := mi73) rfl rfl
theorem x73_35 {z : P0} : X z 73 35 = XI mT z (X z) (.istore_n 3, 1, 3, 0, 0, [], 0, 0) 73 35 := X_at (r := mi73) rfl rfl
theorem x73_36 {z : P0} : X z 73 36 = XI mT z (X z) (.iload_n 3, 1, 3, 0, 0, [], 0, 0) 73 36 := X_at (r := mi73) rfl rfl
theorem x73_37 {z : P0} : X z 73 37 = XI mT z (X z) (.ifCond .ne 22, 3, 59, 0, 0, [], 0, 0) 73 37 := X_at (r := mi73) rfl rfl
theorem x73_40 {z : P0} : X z 73 40 = XI mT z (X z) (.iload_n 2, 1, 2, 0, 0, [], 0, 0) 73 40 := X_at (r := mi73) rfl rfl
theorem x73_41 {z : P0} : X z 73 41 = XI mT z (X z) (.ifCond .lt 8, 3, 49, 0, 0, [], 0, 0) 73 41 := X_at (r := mi73) rfl rfl
theorem x73_44 {z : P0} : X z 73 44 = XI mT z (X z) (.iload_n 2, 1, 2, 0, 0, [], 0, 0) 73 44 := X_at (r := mi73) rfl rfl
theorem x73_45 {z : P0} : X z 73 45 = XI mT z (X z) (.iconst 3, 1, 0, 0, 0, [], nI 3, 0) 73 45 := X_at (r := mi73) rfl rfl
theorem x73_46 {z : P0} : X z 73 46 = XI mT z (X z) (.if_icmp .le 13, 3, 59, 0, 0, [], 0, 0) 73 46 := X_at (r := mi73) rfl rfl
theorem x73_49 {z : P0} : X z 73 49 = XI mT z (X z) (.new 56, 3, 0, 0, 9, [632], 0, 0) 73 49 := X_at (r := mi73) rfl rfl
theorem x73_52 {z : P0} : X z 73 52 = XI mT z (X z) (.dup, 1, 0, 0, 0, [], 0, 0) 73 52 := X_at (r := mi73) rfl rfl
theorem x73_53 {z : P0} : X z 73 53 = XI mT z (X z) (.ldc 246, 2, 0, 0, 98, [], 0, 0) 73 53 := X_at (r := mi73) rfl rfl
theorem x73_55 {z : P0} : X z 73 55 = XI mT z (X z) (.invokespecial 60, 3, 0, 9999, 0, [], 0, 0) 73 55 := X_at (r := mi73) rfl rfl
theorem x73_58 {z : P0} : X z 73 58 = XI mT z (X z) (.athrow, 1, 0, 0, 0, [], 0, 0) 73 58 := X_at (r := mi73) rfl rfl
theorem x73_59 {z : P0} : X z 73 59 = XI mT z (X z) (.iload_n 3, 1, 3, 0, 0, [], 0, 0) 73 59 := X_at (r := mi73) rfl rfl
theorem x73_60 {z : P0} : X z 73 60 = XI mT z (X z) (.ifCond .eq 22, 3, 82, 0, 0, [], 0, 0) 73 60 := X_at (r := mi73) rfl rfl
theorem x73_63 {z : P0} : X z 73 63 = XI mT z (X z) (.aload_n 0, 1, 0, 0, 0, [], 0, 0) 73 63 := X_at (r := mi73) rfl rfl
theorem x73_64 {z : P0} : X z 73 64 = XI mT z (X z) (.getfield 10, 3, 10, 0, 3, [87], 0, 0) 73 64 := X_at (r := mi73) rfl rfl
theorem x73_67 {z : P0} : X z 73 67 = XI mT z (X z) (.getfield 101, 3, 8, 2, 3, [97], 0, 0) 73 67 := X_at (r := mi73) rfl rfl
theorem x73_70 {z : P0} : X z 73 70 = XI mT z (X z) (.iload_n 1, 1, 1, 0, 0, [], 0, 0) 73 70 := X_at (r := mi73) rfl rfl
theorem x73_71 {z : P0} : X z 73 71 = XI mT z (X z) (.aaload, 1, 0, 0, 0, [], 0, 0) 73 71 := X_at (r := mi73) rfl rfl
theorem x73_72 {z : P0} : X z 73 72 = XI mT z (X z) (.iload_n 2, 1, 2, 0, 0, [], 0, 0) 73 72 := X_at (r := mi73) rfl rfl
theorem x73_73 {z : P0} : X z 73 73 = XI mT z (X z) (.bipush 10, 2, 0, 0, 0, [], nI 10, 0) 73 73 := X_at (r := mi73) rfl rfl
theorem x73_75 {z : P0} : X z 73 75 = XI mT z (X z) (.isub, 1, 0, 0, 0, [], 0, 0) 73 75 := X_at (r := mi73) rfl rfl
theorem x73_76 {z : P0} : X z 73 76 = XI mT z (X z) (.invokevirtual 248, 3, 1, 55, 0, [81], 0, 0) 73 76 := X_at (r := mi73) rfl rfl
theorem x73_79 {z : P0} : X z 73 79 = XI mT z (X z) (.goto 9, 3, 88, 0, 0, [], 0, 0) 73 79 := X_at (r := mi73) rfl rfl
theorem x73_82 {z : P0} : X z 73 82 = XI mT z (X z) (.aload_n 0, 1, 0, 0, 0, [], 0, 0) 73 82 := X_at (r := mi73) rfl rfl
theorem x73_83 {z : P0} : X z 73 83 = XI mT z (X z) (.iload_n 1, 1, 1, 0, 0, [], 0, 0) 73 83 := X_at (r := mi73) rfl rfl
theorem x73_84 {z : P0} : X z 73 84 = XI mT z (X z) (.iload_n 2, 1, 2, 0, 0, [], 0, 0) 73 84 := X_at (r := mi73) rfl rfl
theorem x73_85 {z : P0} : X z 73 85 = XI mT z (X z) (.invokevirtual 251, 3, 2, 94, 0, [82], 0, 0) 73 85 := X_at (r := mi73) rfl rfl
theorem x73_88 {z : P0} : X z 73 88 = XI mT z (X z) (.ireturn, 1, 0, 0, 0, [], 0, 0) 73 88 := X_at (r := mi73) rfl rfl
theorem x74_0 {z : P0} : X z 74 0 = XI mT z (X z) (.aload_n 0, 1, 0, 0, 0, [], 0, 0) 74 0 := X_at (r := mi74) rfl rfl
theorem x74_1 {z : P0} : X z 74 1 = XI mT z (X z) (.getfield 41, 3, 10, 3, 3, [90], 0, 0) 74 1 := X_at (r := mi74) rfl rfl
theorem x74_4 {z : P0} : X z 74 4 = XI mT z (X z) (.aload_n 0, 1, 0, 0, 0, [], 0, 0) 74 4 := X_at (r := mi74) rfl rfl
theorem x74_5 {z : P0} : X z 74 5 = XI mT z (X z) (.getfield 10, 3, 10, 0, 3, [87], 0, 0) 74 5 := X_at (r := mi74) rfl rfl
theorem x74_8 {z : P0} : X z 74 8 = XI mT z (X z) (.aload_n 0, 1, 0, 0, 0, [], 0, 0) 74 8 := X_at (r := mi74) rfl rfl
theorem x74_9 {z : P0} : X z 74 9 = XI mT z (X z) (.getfield 10, 3, 10, 0, 3, [87], 0, 0) 74 9 := X_at (r := mi74) rfl rfl
theorem x74_12 {z : P0} : X z 74 12 = XI mT z (X z) (.getfield 168, 3, 8, 5, 3, [103], 0, 0) 74 12 := X_at (r := mi74) rfl rfl
theorem x74_15 {z : P0} : X z 74 15 = XI mT z (X z) (.invokevirtual 174, 3, 2, 38, 0, [77], 0, 0) 74 15 := X_at (r := mi74) rfl rfl
theorem x74_18 {z : P0} : X z 74 18 = XI mT z (X z) (.aload_n 0, 1, 0, 0, 0, [], 0, 0) 74 18 := X_at (r := mi74) rfl rfl
theorem x74_19 {z : P0} : X z 74 19 = XI mT z (X z) (.getfield 41, 3, 10, 3, 3, [90], 0, 0) 74 19 := X_at (r := mi74) rfl rfl
theorem x74_22 {z : P0} : X z 74 22 = XI mT z (X z) (.iload_n 1, 1, 1, 0, 0, [], 0, 0) 74 22 := X_at (r := mi74) rfl rfl
theorem x74_23 {z : P0} : X z 74 23 = XI mT z (X z) (.invokevirtual 254, 3, 1, 37, 0, [83], 0, 0) 74 23 := X_at (r := mi74) rfl rfl
theorem x74_26 {z : P0} : X z 74 26 = XI mT z (X z) (.ifCond .ne 14, 3, 40, 0, 0, [], 0, 0) 74 26 := X_at (r := mi74) rfl rfl
theorem x74_29 {z : P0} : X z 74 29 = XI mT z (X z) (.new 132, 3, 2, 1, 9, [812], 0, 0) 74 29 := X_at (r := mi74) rfl rfl
theorem x74_32 {z : P0} : X z 74 32 = XI mT z (X z) (.dup, 1, 0, 0, 0, [], 0, 0) 74 32 := X_at (r := mi74) rfl rfl
theorem x74_33 {z : P0} : X z 74 33 = XI mT z (X z) (.ldc_w 257, 3, 0, 0, 0, [], 0, 0) 74 33 := X_at (r := mi74) rfl rfl
theorem x74_36 {z : P0} : X z 74 36 = XI mT z (X z) (.invokespecial 136, 3, 0, 9999, 0, [], 0, 0) 74 36 := X_at (r := mi74) rfl rfl
theorem x74_39 {z : P0} : X z 74 39 = XI mT z (X z) (.athrow, 1, 0, 0, 0, [], 0, 0) 74 39 := X_at (r := mi74) rfl rfl
theorem x74_40 {z : P0} : X z 74 40 = XI mT z (X z) (.iload_n 2, 1, 2, 0, 0, [], 0, 0) 74 40 := X_at (r := mi74) rfl rfl
theorem x74_41 {z : P0} : X z 74 41 = XI mT z (X z) (.ifCond .lt 9, 3, 50, 0, 0, [], 0, 0) 74 41 := X_at (r := mi74) rfl rfl
theorem x74_44 {z : P0} : X z 74 44 = XI mT z (X z) (.iload_n 2, 1, 2, 0, 0, [], 0, 0) 74 44 := X_at (r := mi74) rfl rfl
theorem x74_45 {z : P0} : X z 74 45 = XI mT z (X z) (.bipush 7, 2, 0, 0, 0, [], nI 7, 0) 74 45 := X_at (r := mi74) rfl rfl
theorem x74_47 {z : P0} : X z 74 47 = XI mT z (X z) (.if_icmp .le 14, 3, 61, 0, 0, [], 0, 0) 74 47 := X_at (r := mi74) rfl rfl
theorem x74_50 {z : P0} : X z 74 50 = XI mT z (X z) (.new 56, 3, 0, 1, 9, [632], 0, 0) 74 50 := X_at (r := mi74) rfl rfl
theorem x74_53 {z : P0} : X z 74 53 = XI mT z (X z) (.dup, 1, 0, 0, 0, [], 0, 0) 74 53 := X_at (r := mi74) rfl rfl
theorem x74_54 {z : P0} : X z 74 54 = XI mT z (X z) (.ldc_w 259, 3, 0, 0, 0, [], 0, 0) 74 54 := X_at (r := mi74) rfl rfl
theorem x74_57 {z : P0} : X z 74 57 = XI mT z (X z) (.invokespecial 60, 3, 0, 9999, 0, [], 0, 0) 74 57 := X_at (r := mi74) rfl rfl
theorem x74_60 {z : P0} : X z 74 60 = XI mT z (X z) (.athrow, 1, 0, 0, 0, [], 0, 0) 74 60 := X_at (r := mi74) rfl rfl
theorem x74_61 {z : P0} : X z 74 61 = XI mT z (X z) (.aload_n 0, 1, 0, 0, 0, [], 0, 0) 74 61 := X_at (r := mi74) rfl rfl
theorem x74_62 {z : P0} : X z 74 62 = XI mT z (X z) (.iload_n 1, 1, 1, 0, 0, [], 0, 0) 74 62 := X_at (r := mi74) rfl rfl
theorem x74_63 {z : P0} : X z 74 63 = XI mT z (X z) (.iload_n 2, 1, 2, 0, 0, [], 0, 0) 74 63 := X_at (r := mi74) rfl rfl
theorem x74_64 {z : P0} : X z 74 64 = XI mT z (X z) (.invokevirtual 261, 3, 2, 95, 0, [84], 0, 0) 74 64 := X_at (r := mi74) rfl rfl
theorem x74_67 {z : P0} : X z 74 67 = XI mT z (X z) (.ireturn, 1, 0, 0, 0, [], 0, 0) 74 67 := X_at (r := mi74) rfl rfl
theorem x75_0 {z : P0} : X z 75 0 = XI mT z (X z) (.aload_n 0, 1, 0, 0, 0, [], 0, 0) 75 0 := X_at (r := mi75) rfl rfl
theorem x75_1 {z : P0} : X z 75 1 = XI mT z (X z) (.getfield 41, 3, 10, 3, 3, [90], 0, 0) 75 1 := X_at (r := mi75) rfl rfl
theorem x75_4 {z : P0} : X z 75 4 = XI mT z (X z) (.aload_n 0, 1, 0, 0, 0, [], 0, 0) 75 4 := X_at (r := mi75) rfl rfl
theorem x75_5 {z : P0} : X z 75 5 = XI mT z (X z) (.getfield 10, 3, 10, 0, 3, [87], 0, 0) 75 5 := X_at (r := mi75) rfl rfl
theorem x75_8 {z : P0} : X z 75 8 = XI mT z (X z) (.aload_n 0, 1, 0, 0, 0, [], 0, 0) 75 8 := X_at (r := mi75) rfl rfl
theorem x75_9 {z : P0} : X z 75 9 = XI mT z (X z) (.getfield 10, 3, 10, 0, 3, [87], 0, 0) 75 9 := X_at (r := mi75) rfl rfl
theorem x75_12 {z : P0} : X z 75 12 = XI mT z (X z) (.getfield 168, 3, 8, 5, 3, [103], 0, 0) 75 12 := X_at (r := mi75) rfl rfl
theorem x75_15 {z : P0} : X z 75 15 = XI mT z (X z) (.invokevirtual 174, 3, 2, 38, 0, [77], 0, 0) 75 15 := X_at (r := mi75) rfl rfl
theorem x75_18 {z : P0} : X z 75 18 = XI mT z (X z) (.aload_n 0, 1, 0, 0, 0, [], 0, 0) 75 18 := X_at (r := mi75) rfl rfl
theorem x75_19 {z : P0} : X z 75 19 = XI mT z (X z) (.getfield 41, 3, 10, 3, 3, [90], 0, 0) 75 19 := X_at (r := mi75) rfl rfl
theorem x75_22 {z : P0} : X z 75 22 = XI mT z (X z) (.iload_n 1, 1, 1, 0, 0, [], 0, 0) 75 22 := X_at (r := mi75) rfl rfl
theorem x75_23 {z : P0} : X z 75 23 = XI mT z (X z) (.invokevirtual 254, 3, 1, 37, 0, [83], 0, 0) 75 23 := X_at (r := mi75) rfl rfl
theorem x75_26 {z : P0} : X z 75 26 = XI mT z (X z) (.ifCond .eq 23, 3, 49, 0, 0, [], 0, 0) 75 26 := X_at (r := mi75) rfl rfl
theorem x75_29 {z : P0} : X z 75 29 = XI mT z (X z) (.iload_n 2, 1, 2, 0, 0, [], 0, 0) 75 29 := X_at (r := mi75) rfl rfl
theorem x75_30 {z : P0} : X z 75 30 = XI mT z (X z) (.ifCond .lt 19, 3, 49, 0, 0, [], 0, 0) 75 30 := X_at (r := mi75) rfl rfl
theorem x75_33 {z : P0} : X z 75 33 = XI mT z (X z) (.iload_n 2, 1, 2, 0, 0, [], 0, 0) 75 33 := X_at (r := mi75) rfl rfl
theorem x75_34 {z : P0} : X z 75 34 = XI mT z (X z) (.aload_n 0, 1, 0, 0, 0, [], 0, 0) 75 34 := X_at (r := mi75) rfl rfl
theorem x75_35 {z : P0} : X z 75 35 = XI mT z (X z) (.getfield 41, 3, 10, 3, 3, [90], 0, 0) 75 35 := X_at (r := mi75) rfl rfl
theorem x75_38 {z : P0} : X z 75 38 = XI mT z (X z) (.getfield 264, 3, 6, 0, 3, [118], 0, 0) 75 38 := X_at (r := mi75) rfl rfl
theorem x75_41 {z : P0} : X z 75 41 = XI mT z (X z) (.iload_n 1, 1, 1, 0, 0, [], 0, 0) 75 41 := X_at (r := mi75) rfl rfl
theorem x75_42 {z : P0} : X z 75 42 = XI mT z (X z) (.aaload, 1, 0, 0, 0, [], 0, 0) 75 42 := X_at (r := mi75) rfl rfl
theorem x75_43 {z : P0} : X z 75 43 = XI mT z (X z) (.getfield 268, 3, 2, 3, 0, [119], 0, 0) 75 43 := X_at (r := mi75) rfl rfl
theorem x75_46 {z : P0} : X z 75 46 = XI mT z (X z) (.if_icmp .lt 14, 3, 60, 0, 0, [], 0, 0) 75 46 := X_at (r := mi75) rfl rfl
theorem x75_49 {z : P0} : X z 75 49 = XI mT z (X z) (.new 132, 3, 2, 1, 9, [812], 0, 0) 75 49 := X_at (r := mi75) rfl rfl
theorem x75_52 {z : P0} : X z 75 52 = XI mT z (X z) (.dup, 1, 0, 0, 0, [], 0, 0) 75 52 := X_at (r := mi75) rfl rfl
theorem x75_53 {z : P0} : X z 75 53 = XI mT z (X z) (.ldc_w 273, 3, 0, 0, 0, [], 0, 0) 75 53 := X_at (r := mi75) rfl rfl
theorem x75_56 {z : P0} : X z 75 56 = XI mT z (X z) (.invokespecial 136, 3, 0, 9999, 0, [], 0, 0) 75 56 := X_at (r := mi75) rfl rfl
theorem x75_59 {z : P0} : X z 75 59 = XI mT z (X z) (.athrow, 1, 0, 0, 0, [], 0, 0) 75 59 := X_at (r := mi75) rfl rfl
theorem x75_60 {z : P0} : X z 75 60 = XI mT z (X z) (.aload_n 0, 1, 0, 0, 0, [], 0, 0) 75 60 := X_at (r := mi75) rfl rfl
theorem x75_61 {z : P0} : X z 75 61 = XI mT z (X z) (.getfield 41, 3, 10, 3, 3, [90], 0, 0) 75 61 := X_at (r := mi75) rfl rfl
theorem x75_64 {z : P0} : X z 75 64 = XI mT z (X z) (.getfield 275, 3, 6, 4, 3, [120], 0, 0) 75 64 := X_at (r := mi75) rfl rfl
theorem x75_67 {z : P0} : X z 75 67 = XI mT z (X z) (.aload_n 0, 1, 0, 0, 0, [], 0, 0) 75 67 := X_at (r := mi75) rfl rfl
theorem x75_68 {z : P0} : X z 75 68 = XI mT z (X z) (.getfield 10, 3, 10, 0, 3, [87], 0, 0) 75 68 := X_at (r := mi75) rfl rfl
theorem x75_71 {z : P0} : X z 75 71 = XI mT z (X z) (.aload_n 0, 1, 0, 0, 0, [], 0, 0) 75 71 := X_at (r := mi75) rfl rfl
theorem x75_72 {z : P0} : X z 75 72 = XI mT z (X z) (.getfield 41, 3, 10, 3, 3, [90], 0, 0) 75 72 := X_at (r := mi75) rfl rfl
theorem x75_75 {z : P0} : X z 75 75 = XI mT z (X z) (.getfield 264, 3, 6, 0, 3, [118], 0, 0) 75 75 := X_at (r := mi75) rfl rfl
theorem x75_78 {z : P0} : X z 75 78 = XI mT z (X z) (.iload_n 1, 1, 1, 0, 0, [], 0, 0) 75 78 := X_at (r := mi75) rfl rfl
theorem x75_79 {z : P0} : X z 75 79 = XI mT z (X z) (.aaload, 1, 0, 0, 0, [], 0, 0) 75 79 := X_at (r := mi75) rfl rfl
theorem x75_80 {z : P0} : X z 75 80 = XI mT z (X z) (.invokevirtual 279, 3, 2, 10, 0, [85], 0, 0) 75 80 := X_at (r := mi75) rfl rfl
theorem x75_83 {z : P0} : X z 75 83 = XI mT z (X z) (.aload_n 0, 1, 0, 0, 0, [], 0, 0) 75 83 := X_at (r := mi75) rfl rfl
theorem x75_84 {z : P0} : X z 75 84 = XI mT z (X z) (.getfield 41, 3, 10, 3, 3, [90], 0, 0) 75 84 := X_at (r := mi75) rfl rfl
theorem x75_87 {z : P0} : X z 75 87 = XI mT z (X z) (.getfield 275, 3, 6, 4, 3, [120], 0, 0) 75 87 := X_at (r := mi75) rfl rfl
theorem x75_90 {z : P0} : X z 75 90 = XI mT z (X z) (.getfield 283, 3, 1, 0, 3, [121], 0, 0) 75 90 := X_at (r := mi75) rfl rfl
theorem x75_93 {z : P0} : X z 75 93 = XI mT z (X z) (.iload_n 2, 1, 2, 0, 0, [], 0, 0) 75 93 := X_at (r := mi75) rfl rfl
theorem x75_94 {z : P0} : X z 75 94 = XI mT z (X z) (.iaload, 1, 0, 0, 0, [], 0, 0) 75 94 := X_at (r := mi75) rfl rfl
theorem x75_95 {z : P0} : X z 75 95 = XI mT z (X z) (.ireturn, 1, 0, 0, 0, [], 0, 0) 75 95 := X_at (r := mi75) rfl rfl
theorem x76_0 {z : P0} : X z 76 0 = XI mT z (X z) (.aload_n 0, 1, 0, 0, 0, [], 0, 0) 76 0 := X_at (r := mi76) rfl rfl
theorem x76_1 {z : P0} : X z 76 1 = XI mT z (X z) (.getfield 41, 3, 10, 3, 3, [90], 0, 0) 76 1 := X_at (r := mi76) rfl rfl
theorem x76_4 {z : P0} : X z 76 4 = XI mT z (X z) (.aload_n 0, 1, 0, 0, 0, [], 0, 0) 76 4 := X_at (r := mi76) rfl rfl
theorem x76_5 {z : P0} : X z 76 5 = XI mT z (X z) (.getfield 10, 3, 10, 0, 3, [87], 0, 0) 76 5 := X_at (r := mi76) rfl rfl
theorem x76_8 {z : P0} : X z 76 8 = XI mT z (X z) (.aload_n 0, 1, 0, 0, 0, [], 0, 0) 76 8 := X_at (r := mi76) rfl rfl
theorem x76_9 {z : P0} : X z 76 9 = XI mT z (X z) (.getfield 10, 3, 10, 0, 3, [87], 0, 0) 76 9 := X_at (r := mi76) rfl rfl
theorem x76_12 {z : P0} : X z 76 12 = XI mT z (X z) (.getfield 168, 3, 8, 5, 3, [103], 0, 0) 76 12 := X_at (r := mi76) rfl rfl
theorem x76_15 {z : P0} : X z 76 15 = XI mT z (X z) (.invokevirtual 174, 3, 2, 38, 0, [77], 0, 0) 76 15 := X_at (r := mi76) rfl rfl
theorem x76_18 {z : P0} : X z 76 18 = XI mT z (X z) (.aload_n 0, 1, 0, 0, 0, [], 0, 0) 76 18 := X_at (r := mi76) rfl rfl
theorem x76_19 {z : P0} : X z 76 19 = XI mT z (X z) (.getfield 41, 3, 10, 3, 3, [90], 0, 0) 76 19 := X_at (r := mi76) rfl rfl
theorem x76_22 {z : P0} : X z 76 22 = XI mT z (X z) (.iload_n 1, 1, 1, 0, 0, [], 0, 0) 76 22 := X_at (r := mi76) rfl rfl
theorem x76_23 {z : P0} : X z 76 23 = XI mT z (X z) (.invokevirtual 254, 3, 1, 37, 0, [83], 0, 0) 76 23 := X_at (r := mi76) rfl rfl
theorem x76_26 {z : P0} : X z 76 26 = XI mT z (X z) (.ifCond .ne 14, 3, 40, 0, 0, [], 0, 0) 76 26 := X_at (r := mi76) rfl rfl
theorem x76_29 {z : P0} : X z 76 29 = XI mT z (X z) (.new 132, 3, 2, 1, 9, [812], 0, 0) 76 29 := X_at (r := mi76) rfl rfl
theorem x76_32 {z : P0} : X z 76 32 = XI mT z (X z) (.dup, 1, 0, 0, 0, [], 0, 0) 76 32 := X_at (r := mi76) rfl rfl
theorem x76_33 {z : P0} : X z 76 33 = XI mT z (X z) (.ldc_w 257, 3, 0, 0, 0, [], 0, 0) 76 33 := X_at (r := mi76) rfl rfl
theorem x76_36 {z : P0} : X z 76 36 = XI mT z (X z) (.invokespecial 136, 3, 0, 9999, 0, [], 0, 0) 76 36 := X_at (r := mi76) rfl rfl
theorem x76_39 {z : P0} : X z 76 39 = XI mT z (X z) (.athrow, 1, 0, 0, 0, [], 0, 0) 76 39 := X_at (r := mi76) rfl rfl
theorem x76_40 {z : P0} : X z 76 40 = XI mT z (X z) (.aload_n 0, 1, 0, 0, 0, [], 0, 0) 76 40 := X_at (r := mi76) rfl rfl
theorem x76_41 {z : P0} : X z 76 41 = XI mT z (X z) (.getfield 41, 3, 10, 3, 3, [90], 0, 0) 76 41 := X_at (r := mi76) rfl rfl
theorem x76_44 {z : P0} : X z 76 44 = XI mT z (X z) (.getfield 264, 3, 6, 0, 3, [118], 0, 0) 76 44 := X_at (r := mi76) rfl rfl
theorem x76_47 {z : P0} : X z 76 47 = XI mT z (X z) (.iload_n 1, 1, 1, 0, 0, [], 0, 0) 76 47 := X_at (r := mi76) rfl rfl
theorem x76_48 {z : P0} : X z 76 48 = XI mT z (X z) (.aaload, 1, 0, 0, 0, [], 0, 0) 76 48 := X_at (r := mi76) rfl rfl
theorem x76_49 {z : P0} : X z 76 49 = XI mT z (X z) (.invokevirtual 286, 3, 0, 22, 0, [86], 0, 0) 76 49 := X_at (r := mi76) rfl rfl
theorem x76_52 {z : P0} : X z 76 52 = XI mT z (X z) (.ireturn, 1, 0, 0, 0, [], 0, 0) 76 52 := X_at (r := mi76) rfl rfl
theorem x77_0 {z : P0} : X z 77 0 = XI mT z (X z) (.iload_n 1, 1, 1, 0, 0, [], 0, 0) 77 0 := X_at (r := mi77) rfl rfl
theorem x77_1 {z : P0} : X z 77 1 = XI mT z (X z) (.ifCond .lt 9, 3, 10, 0, 0, [], 0, 0) 77 1 := X_at (r := mi77) rfl rfl
theorem x77_4 {z : P0} : X z 77 4 = XI mT z (X z) (.iload_n 1, 1, 1, 0, 0, [], 0, 0) 77 4 := X_at (r := mi77) rfl rfl
theorem x77_5 {z : P0} : X z 77 5 = XI mT z (X z) (.bipush 14, 2, 0, 0, 0, [], nI 14, 0) 77 5 := X_at (r := mi77) rfl rfl
theorem x77_7 {z : P0} : X z 77 7 = XI mT z (X z) (.if_icmp .le 14, 3, 21, 0, 0, [], 0, 0) 77 7 := X_at (r := mi77) rfl rfl
theorem x77_10 {z : P0} : X z 77 10 = XI mT z (X z) (.new 56, 3, 0, 1, 9, [632], 0, 0) 77 10 := X_at (r := mi77) rfl rfl
theorem x77_13 {z : P0} : X z 77 13 = XI mT z (X z) (.dup, 1, 0, 0, 0, [], 0, 0) 77 13 := X_at (r := mi77) rfl rfl
theorem x77_14 {z : P0} : X z 77 14 = XI mT z (X z) (.ldc_w 289, 3, 0, 0, 0, [], 0, 0) 77 14 := X_at (r := mi77) rfl rfl
theorem x77_17 {z : P0} : X z 77 17 = XI mT z (X z) (.invokespecial 60, 3, 0, 9999, 0, [], 0, 0) 77 17 := X_at (r := mi77) rfl rfl
theorem x77_20 {z : P0} : X z 77 20 = XI mT z (X z) (.athrow, 1, 0, 0, 0, [], 0, 0) 77 20 := X_at (r := mi77) rfl rfl
theorem x77_21 {z : P0} : X z 77 21 = XI mT z (X z) (.aload_n 0, 1, 0, 0, 0, [], 0, 0) 77 21 := X_at (r := mi77) rfl rfl
theorem x77_22 {z : P0} : X z 77 22 = XI mT z (X z) (.getfield 41, 3, 10, 3, 3, [90], 0, 0) 77 22 := X_at (r := mi77) rfl rfl
theorem x77_25 {z : P0} : X z 77 25 = XI mT z (X z) (.aload_n 0, 1, 0, 0, 0, [], 0, 0) 77 25 := X_at (r := mi77) rfl rfl
theorem x77_26 {z : P0} : X z 77 26 = XI mT z (X z) (.getfield 10, 3, 10, 0, 3, [87], 0, 0) 77 26 := X_at (r := mi77) rfl rfl
theorem x77_29 {z : P0} : X z 77 29 = XI mT z (X z) (.aload_n 0, 1, 0, 0, 0, [], 0, 0) 77 29 := X_at (r := mi77) rfl rfl
theorem x77_30 {z : P0} : X z 77 30 = XI mT z (X z) (.getfield 10, 3, 10, 0, 3, [87], 0, 0) 77 30 := X_at (r := mi77) rfl rfl
theorem x77_33 {z : P0} : X z 77 33 = XI mT z (X z) (.getfield 168, 3, 8, 5, 3, [103], 0, 0) 77 33 := X_at (r := mi77) rfl rfl
theorem x77_36 {z : P0} : X z 77 36 = XI mT z (X z) (.invokevirtual 174, 3, 2, 38, 0, [77], 0, 0) 77 36 := X_at (r := mi77) rfl rfl
theorem x77_39 {z : P0} : X z 77 39 = XI mT z (X z) (.aload_n 0, 1, 0, 0, 0, [], 0, 0) 77 39 := X_at (r := mi77) rfl rfl
theorem x77_40 {z : P0} : X z 77 40 = XI mT z (X z) (.iload_n 1, 1, 1, 0, 0, [], 0, 0) 77 40 := X_at (r := mi77) rfl rfl
theorem x77_41 {z : P0} : X z 77 41 = XI mT z (X z) (.invokevirtual 291, 3, 1, 96, 0, [87], 0, 0) 77 41 := X_at (r := mi77) rfl rfl
theorem x77_44 {z : P0} : X z 77 44 = XI mT z (X z) (.ireturn, 1, 0, 0, 0, [], 0, 0) 77 44 := X_at (r := mi77) rfl rfl
theorem x78_0 {z : P0} : X z 78 0 = XI mT z (X z) (.iload_n 1, 1, 1, 0, 0, [], 0, 0) 78 0 := X_at (r := mi78) rfl rfl
theorem x78_1 {z : P0} : X z 78 1 = XI mT z (X z) (.invokestatic 157, 3, 1, 86, 0, [75], 0, 0) 78 1 := X_at (r := mi78) rfl rfl
theorem x78_4 {z : P0} : X z 78 4 = XI mT z (X z) (.ifCond .ne 13, 3, 17, 0, 0, [], 0, 0) 78 4 := X_at (r := mi78) rfl rfl
theorem x78_7 {z : P0} : X z 78 7 = XI mT z (X z) (.new 132, 3, 2, 0, 9, [812], 0, 0) 78 7 := X_at (r := mi78) rfl rfl
theorem x78_10 {z : P0} : X z 78 10 = XI mT z (X z) (.dup, 1, 0, 0, 0, [], 0, 0) 78 10 := X_at (r := mi78) rfl rfl
theorem x78_11 {z : P0} : X z 78 11 = XI mT z (X z) (.ldc 160, 2, 0, 0, 98, [], 0, 0) 78 11 := X_at (r := mi78) rfl rfl
theorem x78_13 {z : P0} : X z 78 13 = XI mT z (X z) (.invokespecial 136, 3, 0, 9999, 0, [], 0, 0) 78 13 := X_at (r := mi78) rfl rfl
theorem x78_16 {z : P0} : X z 78 16 = XI mT z (X z) (.athrow, 1, 0, 0, 0, [], 0, 0) 78 16 := X_at (r := mi78) rfl rfl
theorem x78_17 {z : P0} : X z 78 17 = XI mT z (X z) (.aload_n 0, 1, 0, 0, 0, [], 0, 0) 78 17 := X_at (r := mi78) rfl rfl
theorem x78_18 {z : P0} : X z 78 18 = XI mT z (X z) (.getfield 10, 3, 10, 0, 3, [87], 0, 0) 78 18 := X_at (r := mi78) rfl rfl
theorem x78_21 {z : P0} : X z 78 21 = XI mT z (X z) (.getfield 168, 3, 8, 5, 3, [103], 0, 0) 78 21 := X_at (r := mi78) rfl rfl
theorem x78_24 {z : P0} : X z 78 24 = XI mT z (X z) (.iload_n 1, 1, 1, 0, 0, [], 0, 0) 78 24 := X_at (r := mi78) rfl rfl
theorem x78_25 {z : P0} : X z 78 25 = XI mT z (X z) (.iaload, 1, 0, 0, 0, [], 0, 0) 78 25 := X_at (r := mi78) rfl rfl
theorem x78_26 {z : P0} : X z 78 26 = XI mT z (X z) (.ireturn, 1, 0, 0, 0, [], 0, 0) 78 26 := X_at (r := mi78) rfl rfl
theorem x79_0 {z : P0} : X z 79 0 = XI mT z (X z) (.iload_n 1, 1, 1, 0, 0, [], 0, 0) 79 0 := X_at (r := mi79) rfl rfl
theorem x79_1 {z : P0} : X z 79 1 = XI mT z (X z) (.invokestatic 157, 3, 1, 86, 0, [75], 0, 0) 79 1 := X_at (r := mi79) rfl rfl
theorem x79_4 {z : P0} : X z 79 4 = XI mT z (X z) (.ifCond .ne 13, 3, 17, 0, 0, [], 0, 0) 79 4 := X_at (r := mi79) rfl rfl
theorem x79_7 {z : P0} : X z 79 7 = XI mT z (X z) (.new 132, 3, 2, 0, 9, [812], 0, 0) 79 7 := X_at (r := mi79) rfl rfl
theorem x79_10 {z : P0} : X z 79 10 = XI mT z (X z) (.dup, 1, 0, 0, 0, [], 0, 0) 79 10 := X_at (r := mi79) rfl rfl
theorem x79_11 {z : P0} : X z 79 11 = XI mT z (X z) (.ldc 160, 2, 0, 0, 98, [], 0, 0) 79 11 := X_at (r := mi79) rfl rfl
theorem x79_13 {z : P0} : X z 79 13 = XI mT z (X z) (.invokespecial 136, 3, 0, 9999, 0, [], 0, 0) 79 13 := X_at (r := mi79) rfl rfl
theorem x79_16 {z : P0} : X z 79 16 = XI mT z (X z) (.athrow, 1, 0, 0, 0, [], 0, 0) 79 16 := X_at (r := mi79) rfl rfl
theorem x79_17 {z : P0} : X z 79 17 = XI mT z (X z) (.iload_n 1, 1, 1, 0, 0, [], 0, 0) 79 17 := X_at (r := mi79) rfl rfl
theorem x79_18 {z : P0} : X z 79 18 = XI mT z (X z) (.iload_n 2, 1, 2, 0, 0, [], 0, 0) 79 18 := X_at (r := mi79) rfl rfl
theorem x79_19 {z : P0} : X z 79 19 = XI mT z (X z) (.invokestatic 162, 3, 2, 87, 0, [76], 0, 0) 79 19 := X_at (r := mi79) rfl rfl
theorem x79_22 {z : P0} : X z 79 22 = XI mT z (X z) (.ifCond .eq 12, 3, 34, 0, 0, [], 0, 0) 79 22 := X_at (r := mi79) rfl rfl
theorem x79_25 {z : P0} : X z 79 25 = XI mT z (X z) (.iload_n 3, 1, 3, 0, 0, [], 0, 0) 79 25 := X_at (r := mi79) rfl rfl
theorem x79_26 {z : P0} : X z 79 26 = XI mT z (X z) (.ifCond .lt 8, 3, 34, 0, 0, [], 0, 0) 79 26 := X_at (r := mi79) rfl rfl
theorem x79_29 {z : P0} : X z 79 29 = XI mT z (X z) (.iload_n 3, 1, 3, 0, 0, [], 0, 0) 79 29 := X_at (r := mi79) rfl rfl
theorem x79_30 {z : P0} : X z 79 30 = XI mT z (X z) (.iconst 3, 1, 0, 0, 0, [], nI 3, 0) 79 30 := X_at (r := mi79) rfl rfl
theorem x79_31 {z : P0} : X z 79 31 = XI mT z (X z) (.if_icmp .le 14, 3, 45, 0, 0, [], 0, 0) 79 31 := X_at (r := mi79) rfl rfl
theorem x79_34 {z : P0} : X z 79 34 = XI mT z (X z) (.new 56, 3, 0, 1, 9, [632], 0, 0) 79 34 := X_at (r := mi79) rfl rfl
theorem x79_37 {z : P0} : X z 79 37 = XI mT z (X z) (.dup, 1, 0, 0, 0, [], 0, 0) 79 37 := X_at (r := mi79) rfl rfl
theorem x79_38 {z : P0} : X z 79 38 = XI mT z (X z) (.ldc_w 294, 3, 0, 0, 0, [], 0, 0) 79 38 := X_at (r := mi79) rfl rfl
theorem x79_41 {z : P0} : X z 79 41 = XI mT z (X z) (.invokespecial 60, 3, 0, 9999, 0, [], 0, 0) 79 41 := X_at (r := mi79) rfl rfl
theorem x79_44 {z : P0} : X z 79 44 = XI mT z (X z) (.athrow, 1, 0, 0, 0, [], 0, 0) 79 44 := X_at (r := mi79) rfl rfl
theorem x79_45 {z : P0} : X z 79 45 = XI mT z (X z) (.aload_n 0, 1, 0, 0, 0, [], 0, 0) 79 45 := X_at (r := mi79) rfl rfl
theorem x79_46 {z : P0} : X z 79 46 = XI mT z (X z) (.iload_n 1, 1, 1, 0, 0, [], 0, 0) 79 46 := X_at (r := mi79) rfl rfl
theorem x79_47 {z : P0} : X z 79 47 = XI mT z (X z) (.iload_n 2, 1, 2, 0, 0, [], 0, 0) 79 47 := X_at (r := mi79) rfl rfl
theorem x79_48 {z : P0} : X z 79 48 = XI mT z (X z) (.invokevirtual 296, 3, 2, 91, 0, [88], 0, 0) 79 48 := X_at (r := mi79) rfl rfl
theorem x79_51 {z : P0} : X z 79 51 = XI mT z (X z) (.aload_n 0, 1, 0, 0, 0, [], 0, 0) 79 51 := X_at (r := mi79) rfl rfl
theorem x79_52 {z : P0} : X z 79 52 = XI mT z (X z) (.getfield 45, 3, 10, 4, 3, [91], 0, 0) 79 52 := X_at (r := mi79) rfl rfl
theorem x79_55 {z : P0} : X z 79 55 = XI mT z (X z) (.aload_n 0, 1, 0, 0, 0, [], 0, 0) 79 55 := X_at (r := mi79) rfl rfl
theorem x79_56 {z : P0} : X z 79 56 = XI mT z (X z) (.getfield 10, 3, 10, 0, 3, [87], 0, 0) 79 56 := X_at (r := mi79) rfl rfl
theorem x79_59 {z : P0} : X z 79 59 = XI mT z (X z) (.aload_n 0, 1, 0, 0, 0, [], 0, 0) 79 59 := X_at (r := mi79) rfl rfl
theorem x79_60 {z : P0} : X z 79 60 = XI mT z (X z) (.getfield 48, 3, 10, 5, 3, [92], 0, 0) 79 60 := X_at (r := mi79) rfl rfl
theorem x79_63 {z : P0} : X z 79 63 = XI mT z (X z) (.invokevirtual 174, 3, 2, 38, 0, [77], 0, 0) 79 63 := X_at (r := mi79) rfl rfl
theorem x79_66 {z : P0} : X z 79 66 = XI mT z (X z) (.iload_n 3, 1, 3, 0, 0, [], 0, 0) 79 66 := X_at (r := mi79) rfl rfl
theorem x79_67 {z : P0} : X z 79 67 = XI mT z (X z) (.tableswitch 49 0 2 #[25, 33, 41], 25, 116, 0, 0, [92, 100, 108], 0, 0) 79 67 := X_at (r := mi79) rfl rfl
theorem x79_92 {z : P0} : X z 79 92 = XI mT z (X z) (.aload_n 0, 1, 0, 0, 0, [], 0, 0) 79 92 := X_at (r := mi79) rfl rfl
theorem x79_93 {z : P0} : X z 79 93 = XI mT z (X z) (.getfield 45, 3, 10, 4, 3, [91], 0, 0) 79 93 := X_at (r := mi79) rfl rfl
theorem x79_96 {z : P0} : X z 79 96 = XI mT z (X z) (.getfield 178, 3, 6, 8, 0, [105], 0, 0) 79 96 := X_at (r := mi79) rfl rfl
theorem x79_99 {z : P0} : X z 79 99 = XI mT z (X z) (.ireturn, 1, 0, 0, 0, [], 0, 0) 79 99 := X_at (r := mi79) rfl rfl
theorem x79_100 {z : P0} : X z 79 100 = XI mT z (X z) (.aload_n 0, 1, 0, 0, 0, [], 0, 0) 79 100 := X_at (r := mi79) rfl rfl
theorem x79_101 {z : P0} : X z 79 101 = XI mT z (X z) (.getfield 45, 3, 10, 4, 3, [91], 0, 0) 79 101 := X_at (r := mi79) rfl rfl
theorem x79_104 {z : P0} : X z 79 104 = XI mT z (X z) (.getfield 300, 3, 6, 9, 0, [122], 0, 0) 79 104 := X_at (r := mi79) rfl rfl
theorem x79_107 {z : P0} : X z 79 107 = XI mT z (X z) (.ireturn, 1, 0, 0, 0, [], 0, 0) 79 107 := X_at (r := mi79) rfl rfl
theorem x79_108 {z : P0} : X z 79 108 = XI mT z (X z) (.aload_n 0, 1, 0, 0, 0, [], 0, 0) 79 108 := X_at (r := mi79) rfl rfl
theorem x79_109 {z : P0} : X z 79 109 = XI mT z (X z) (.getfield 45, 3, 10, 4, 3, [91], 0, 0) 79 109 := X_at (r := mi79) rfl rfl
theorem x79_112 {z : P0} : X z 79 112 = XI mT z (X z) (.getfield 201, 3, 6, 10, 0, [112], 0, 0) 79 112 := X_at (r := mi79) rfl rfl
theorem x79_115 {z : P0} : X z 79 115 = XI mT z (X z) (.ireturn, 1, 0, 0, 0, [], 0, 0) 79 115 := X_at (r := mi79) rfl rfl
theorem x79_116 {z : P0} : X z 79 116 = XI mT z (X z) (.aload_n 0, 1, 0, 0, 0, [], 0, 0) 79 116 := X_at (r := mi79) rfl rfl
theorem x79_117 {z : P0} : X z 79 117 = XI mT z (X z) (.getfield 45, 3, 10, 4, 3, [91], 0, 0) 79 117 := X_at (r := mi79) rfl rfl
theorem x79_120 {z : P0} : X z 79 120 = XI mT z (X z) (.getfield 207, 3, 6, 11, 0, [114], 0, 0) 79 120 := X_at (r := mi79) rfl rfl
theorem x79_123 {z : P0} : X z 79 123 = XI mT z (X z) (.ireturn, 1, 0, 0, 0, [], 0, 0) 79 123 := X_at (r := mi79) rfl rfl
theorem x80_0 {z : P0} : X z 80 0 = XI mT z (X z) (.iconst 0, 1, 0, 0, 0, [], nI 0, 0) 80 0 := X_at (r := mi80) rfl rfl
theorem x80_1 {z : P0} : X z 80 1 = XI mT z (X z) (.istore_n 1, 1, 1, 0, 0, [], 0, 0) 80 1 := X_at (r := mi80) rfl rfl
theorem x80_2 {z : P0} : X z 80 2 = XI mT z (X z) (.iconst 0, 1, 0, 0, 0, [], nI 0, 0) 80 2 := X_at (r := mi80) rfl rfl
theorem x80_3 {z : P0} : X z 80 3 = XI mT z (X z) (.istore_n 2, 1, 2, 0, 0, [], 0, 0) 80 3 := X_at (r := mi80) rfl rfl
theorem x80_4 {z : P0} : X z 80 4 = XI mT z (X z) (.iconst 0, 1, 0, 0, 0, [], nI 0, 0) 80 4 := X_at (r := mi80) rfl rfl
theorem x80_5 {z : P0} : X z 80 5 = XI mT z (X z) (.istore_n 3, 1, 3, 0, 0, [], 0, 0) 80 5 := X_at (r := mi80) rfl rfl
theorem x80_6 {z : P0} : X z 80 6 = XI mT z (X z) (.iconst 1, 1, 0, 0, 0, [], nI 1, 0) 80 6 := X_at (r := mi80) rfl rfl
theorem x80_7 {z : P0} : X z 80 7 = XI mT z (X z) (.istore 4, 2, 4, 0, 0, [], 0, 0) 80 7 := X_at (r := mi80) rfl rfl
theorem x80_9 {z : P0} : X z 80 9 = XI mT z (X z) (.iload 4, 2, 4, 0, 0, [], 0, 0) 80 9 := X_at (r := mi80) rfl rfl
theorem x80_11 {z : P0} : X z 80 11 = XI mT z (X z) (.bipush 6, 2, 0, 0, 0, [], nI 6, 0) 80 11 := X_at (r := mi80) rfl rfl
theorem x80_13 {z : P0} : X z 80 13 = XI mT z (X z) (.if_icmp .gt 111, 3, 124, 0, 0, [], 0, 0) 80 13 := X_at (r := mi80) rfl rfl
theorem x80_16 {z : P0} : X z 80 16 = XI mT z (X z) (.aload_n 0, 1, 0, 0, 0, [], 0, 0) 80 16 := X_at (r := mi80) rfl rfl
theorem x80_17 {z : P0} : X z 80 17 = XI mT z (X z) (.iconst 2, 1, 0, 0, 0, [], nI 2, 0) 80 17 := X_at (r := mi80) rfl rfl
theorem x80_18 {z : P0} : X z 80 18 = XI mT z (X z) (.iload 4, 2, 4, 0, 0, [], 0, 0) 80 18 := X_at (r := mi80) rfl rfl
theorem x80_20 {z : P0} : X z 80 20 = XI mT z (X z) (.invokevirtual 296, 3, 2, 91, 0, [88], 0, 0) 80 20 := X_at (r := mi80) rfl rfl
theorem x80_23 {z : P0} : X z 80 23 = XI mT z (X z) (.aload_n 0, 1, 0, 0, 0, [], 0, 0) 80 23 := X_at (r := mi80) rfl rfl
theorem x80_24 {z : P0} : X z 80 24 = XI mT z (X z) (.getfield 45, 3, 10, 4, 3, [91], 0, 0) 80 24 := X_at (r := mi80) rfl rfl
theorem x80_27 {z : P0} : X z 80 27 = XI mT z (X z) (.aload_n 0, 1, 0, 0, 0, [], 0, 0) 80 27 := X_at (r := mi80) rfl rfl
theorem x80_28 {z : P0} : X z 80 28 = XI mT z (X z) (.getfield 10, 3, 10, 0, 3, [87], 0, 0) 80 28 := X_at (r := mi80) rfl rfl
theorem x80_31 {z : P0} : X z 80 31 = XI mT z (X z) (.aload_n 0, 1, 0, 0, 0, [], 0, 0) 80 31 := X_at (r := mi80) rfl rfl
theorem x80_32 {z : P0} : X z 80 32 = XI mT z (X z) (.getfield 48, 3, 10, 5, 3, [92], 0, 0) 80 32 := X_at (r := mi80) rfl rfl
theorem x80_35 {z : P0} : X z 80 35 = XI mT z (X z) (.invokevirtual 174, 3, 2, 38, 0, [77], 0, 0) 80 35 := X_at (r := mi80) rfl rfl
theorem x80_38 {z : P0} : X z 80 38 = XI mT z (X z) (.aload_n 0, 1, 0, 0, 0, [], 0, 0) 80 38 := X_at (r := mi80) rfl rfl
theorem x80_39 {z : P0} : X z 80 39 = XI mT z (X z) (.getfield 45, 3, 10, 4, 3, [91], 0, 0) 80 39 := X_at (r := mi80) rfl rfl
theorem x80_42 {z : P0} : X z 80 42 = XI mT z (X z) (.getfield 300, 3, 6, 9, 0, [122], 0, 0) 80 42 := X_at (r := mi80) rfl rfl
theorem x80_45 {z : P0} : X z 80 45 = XI mT z (X z) (.iload_n 2, 1, 2, 0, 0, [], 0, 0) 80 45 := X_at (r := mi80) rfl rfl
theorem x80_46 {z : P0} : X z 80 46 = XI mT z (X z) (.if_icmp .le 7, 3, 53, 0, 0, [], 0, 0) 80 46 := X_at (r := mi80) rfl rfl
theorem x80_49 {z : P0} : X z 80 49 = XI mT z (X z) (.iconst 1, 1, 0, 0, 0, [], nI 1, 0) 80 49 := X_at (r := mi80) rfl rfl
theorem x80_50 {z : P0} : X z 80 50 = XI mT z (X z) (.goto 4, 3, 54, 0, 0, [], 0, 0) 80 50 := X_at (r := mi80) rfl rfl
theorem x80_53 {z : P0} : X z 80 53 = XI mT z (X z) (.iconst 0, 1, 0, 0, 0, [], nI 0, 0) 80 53 := X_at (r := mi80) rfl rfl
theorem x80_54 {z : P0} : X z 80 54 = XI mT z (X z) (.istore 5, 2, 5, 0, 0, [], 0, 0) 80 54 := X_at (r := mi80) rfl rfl
theorem x80_56 {z : P0} : X z 80 56 = XI mT z (X z) (.aload_n 0, 1, 0, 0, 0, [], 0, 0) 80 56 := X_at (r := mi80) rfl rfl
theorem x80_57 {z : P0} : X z 80 57 = XI mT z (X z) (.getfield 45, 3, 10, 4, 3, [91], 0, 0) 80 57 := X_at (r := mi80) rfl rfl
theorem x80_60 {z : P0} : X z 80 60 = XI mT z (X z) (.getfield 300, 3, 6, 9, 0, [122], 0, 0) 80 60 := X_at (r := mi80) rfl rfl
theorem x80_63 {z : P0} : X z 80 63 = XI mT z (X z) (.iload_n 2, 1, 2, 0, 0, [], 0, 0) 80 63 := X_at (r := mi80) rfl rfl
theorem x80_64 {z : P0} : X z 80 64 = XI mT z (X z) (.if_icmp .ne 18, 3, 82, 0, 0, [], 0, 0) 80 64 := X_at (r := mi80) rfl rfl
theorem x80_67 {z : P0} : X z 80 67 = XI mT z (X z) (.aload_n 0, 1, 0, 0, 0, [], 0, 0) 80 67 := X_at (r := mi80) rfl rfl
theorem x80_68 {z : P0} : X z 80 68 = XI mT z (X z) (.getfield 45, 3, 10, 4, 3, [91], 0, 0) 80 68 := X_at (r := mi80) rfl rfl
theorem x80_71 {z : P0} : X z 80 71 = XI mT z (X z) (.getfield 207, 3, 6, 11, 0, [114], 0, 0) 80 71 := X_at (r := mi80) rfl rfl
theorem x80_74 {z : P0} : X z 80 74 = XI mT z (X z) (.iload_n 3, 1, 3, 0, 0, [], 0, 0) 80 74 := X_at (r := mi80) rfl rfl
theorem x80_75 {z : P0} : X z 80 75 = XI mT z (X z) (.if_icmp .ge 7, 3, 82, 0, 0, [], 0, 0) 80 75 := X_at (r := mi80) rfl rfl
theorem x80_78 {z : P0} : X z 80 78 = XI mT z (X z) (.iconst 1, 1, 0, 0, 0, [], nI 1, 0) 80 78 := X_at (r := mi80) rfl rfl
theorem x80_79 {z : P0} : X z 80 79 = XI mT z (X z) (.goto 4, 3, 83, 0, 0, [], 0, 0) 80 79 := X_at (r := mi80) rfl rfl
theorem x80_82 {z : P0} : X z 80 82 = XI mT z (X z) (.iconst 0, 1, 0, 0, 0, [], nI 0, 0) 80 82 := X_at (r := mi80) rfl rfl
theorem x80_83 {z : P0} : X z 80 83 = XI mT z (X z) (.istore 6, 2, 6, 0, 0, [], 0, 0) 80 83 := X_at (r := mi80) rfl rfl
theorem x80_85 {z : P0} : X z 80 85 = XI mT z (X z) (.iload_n 1, 1, 1, 0, 0, [], 0, 0) 80 85 := X_at (r := mi80) rfl rfl
theorem x80_86 {z : P0} : X z 80 86 = XI mT z (X z) (.ifCond .eq 13, 3, 99, 0, 0, [], 0, 0) 80 86 := X_at (r := mi80) rfl rfl
theorem x80_89 {z : P0} : X z 80 89 = XI mT z (X z) (.iload 5, 2, 5, 0, 0, [], 0, 0) 80 89 := X_at (r := mi80) rfl rfl
theorem x80_91 {z : P0} : X z 80 91 = XI mT z (X z) (.ifCond .ne 8, 3, 99, 0, 0, [], 0, 0) 80 91 := X_at (r := mi80) rfl rfl
theorem x80_94 {z : P0} : X z 80 94 = XI mT z (X z) (.iload 6, 2, 6, 0, 0, [], 0, 0) 80 94 := X_at (r := mi80) rfl rfl
theorem x80_96 {z : P0} : X z 80 96 = XI mT z (X z) (.ifCond .eq 22, 3, 118, 0, 0, [], 0, 0) 80 96 := X_at (r := mi80) rfl rfl
theorem x80_99 {z : P0} : X z 80 99 = XI mT z (X z) (.iload 4, 2, 4, 0, 0, [], 0, 0) 80 99 := X_at (r := mi80) rfl rfl
theorem x80_101 {z : P0} : X z 80 101 = XI mT z (X z) (.istore_n 1, 1, 1, 0, 0, [], 0, 0) 80 101 := X_at (r := mi80) rfl rfl
theorem x80_102 {z : P0} : X z 80 102 = XI mT z (X z) (.aload_n 0, 1, 0, 0, 0, [], 0, 0) 80 102 := X_at (r := mi80) rfl rfl
theorem x80_103 {z : P0} : X z 80 103 = XI mT z (X z) (.getfield 45, 3, 10, 4, 3, [91], 0, 0) 80 103 := X_at (r := mi80) rfl rfl
theorem x80_106 {z : P0} : X z 80 106 = XI mT z (X z) (.getfield 300, 3, 6, 9, 0, [122], 0, 0) 80 106 := X_at (r := mi80) rfl rfl
theorem x80_109 {z : P0} : X z 80 109 = XI mT z (X z) (.istore_n 2, 1, 2, 0, 0, [], 0, 0) 80 109 := X_at (r := mi80) rfl rfl
theorem x80_110 {z : P0} : X z 80 110 = XI mT z (X z) (.aload_n 0, 1, 0, 0, 0, [], 0, 0) 80 110 := X_at (r := mi80) rfl rfl
theorem x80_111 {z : P0} : X z 80 111 = XI mT z (X z) (.getfield 45, 3, 10, 4, 3, [91], 0, 0) 80 111 := X_at (r := mi80) rfl rfl
theorem x80_114 {z : P0} : X z 80 114 = XI mT z (X z) (.getfield 207, 3, 6, 11, 0, [114], 0, 0) 80 114 := X_at (r := mi80) rfl rfl
theorem x80_117 {z : P0} : X z 80 117 = XI mT z (X z) (.istore_n 3, 1, 3, 0, 0, [], 0, 0) 80 117 := X_at (r := mi80) rfl rfl
theorem x80_118 {z : P0} : X z 80 118 = XI mT z (X z) (.iinc 4 1, 3, 4, 0, 0, [], nI 1, 0) 80 118 := X_at (r := mi80) rfl rfl
theorem x80_121 {z : P0} : X z 80 121 = XI mT z (X z) (.goto (-112), 3, 9, 0, 0, [], 0, 0) 80 121 := X_at (r := mi80) rfl rfl
theorem x80_124 {z : P0} : X z 80 124 = XI mT z (X z) (.iload_n 1, 1, 1, 0, 0, [], 0, 0) 80 124 := X_at (r := mi80) rfl rfl
theorem x80_125 {z : P0} : X z 80 125 = XI mT z (X z) (.ireturn, 1, 0, 0, 0, [], 0, 0) 80 125 := X_at (r := mi80) rfl rfl
theorem x81_0 {z : P0} : X z 81 0 = XI mT z (X z) (.aload_n 0, 1, 0, 0, 0, [], 0, 0) 81 0 := X_at (r := mi81) rfl rfl
theorem x81_1 {z : P0} : X z 81 1 = XI mT z (X z) (.getfield 45, 3, 10, 4, 3, [91], 0, 0) 81 1 := X_at (r := mi81) rfl rfl
theorem x81_4 {z : P0} : X z 81 4 = XI mT z (X z) (.aload_n 0, 1, 0, 0, 0, [], 0, 0) 81 4 := X_at (r := mi81) rfl rfl
theorem x81_5 {z : P0} : X z 81 5 = XI mT z (X z) (.getfield 10, 3, 10, 0, 3, [87], 0, 0) 81 5 := X_at (r := mi81) rfl rfl
theorem x81_8 {z : P0} : X z 81 8 = XI mT z (X z) (.invokevirtual 303, 3, 1, 39, 0, [89], 0, 0) 81 8 := X_at (r := mi81) rfl rfl
theorem x81_11 {z : P0} : X z 81 11 = XI mT z (X z) (.ireturn, 1, 0, 0, 0, [], 0, 0) 81 11 := X_at (r := mi81) rfl rfl
theorem x82_0 {z : P0} : X z 82 0 = XI mT z (X z) (.aload_n 0, 1, 0, 0, 0, [], 0, 0) 82 0 := X_at (r := mi82) rfl rfl
theorem x82_1 {z : P0} : X z 82 1 = XI mT z (X z) (.iload_n 1, 1, 1, 0, 0, [], 0, 0) 82 1 := X_at (r := mi82) rfl rfl
theorem x82_2 {z : P0} : X z 82 2 = XI mT z (X z) (.invokevirtual 129, 3, 1, 89, 0, [72], 0, 0) 82 2 := X_at (r := mi82) rfl rfl
theorem x82_5 {z : P0} : X z 82 5 = XI mT z (X z) (.ifCond .ne 13, 3, 18, 0, 0, [], 0, 0) 82 5 := X_at (r := mi82) rfl rfl
theorem x82_8 {z : P0} : X z 82 8 = XI mT z (X z) (.new 132, 3, 2, 0, 9, [812], 0, 0) 82 8 := X_at (r := mi82) rfl rfl
theorem x82_11 {z : P0} : X z 82 11 = XI mT z (X z) (.dup, 1, 0, 0, 0, [], 0, 0) 82 11 := X_at (r := mi82) rfl rfl
theorem x82_12 {z : P0} : X z 82 12 = XI mT z (X z) (.ldc 134, 2, 0, 0, 98, [], 0, 0) 82 12 := X_at (r := mi82) rfl rfl
theorem x82_14 {z : P0} : X z 82 14 = XI mT z (X z) (.invokespecial 136, 3, 0, 9999, 0, [], 0, 0) 82 14 := X_at (r := mi82) rfl rfl
theorem x82_17 {z : P0} : X z 82 17 = XI mT z (X z) (.athrow, 1, 0, 0, 0, [], 0, 0) 82 17 := X_at (r := mi82) rfl rfl
theorem x82_18 {z : P0} : X z 82 18 = XI mT z (X z) (.aload_n 0, 1, 0, 0, 0, [], 0, 0) 82 18 := X_at (r := mi82) rfl rfl
theorem x82_19 {z : P0} : X z 82 19 = XI mT z (X z) (.iload_n 1, 1, 1, 0, 0, [], 0, 0) 82 19 := X_at (r := mi82) rfl rfl
theorem x82_20 {z : P0} : X z 82 20 = XI mT z (X z) (.invokevirtual 307, 3, 1, 92, 0, [90], 0, 0) 82 20 := X_at (r := mi82) rfl rfl
theorem x82_23 {z : P0} : X z 82 23 = XI mT z (X z) (.ireturn, 1, 0, 0, 0, [], 0, 0) 82 23 := X_at (r := mi82) rfl rfl
theorem x83_0 {z : P0} : X z 83 0 = XI mT z (X z) (.aload_n 0, 1, 0, 0, 0, [], 0, 0) 83 0 := X_at (r := mi83) rfl rfl
theorem x83_1 {z : P0} : X z 83 1 = XI mT z (X z) (.getfield 41, 3, 10, 3, 3, [90], 0, 0) 83 1 := X_at (r := mi83) rfl rfl
theorem x83_4 {z : P0} : X z 83 4 = XI mT z (X z) (.aload_n 0, 1, 0, 0, 0, [], 0, 0) 83 4 := X_at (r := mi83) rfl rfl
theorem x83_5 {z : P0} : X z 83 5 = XI mT z (X z) (.getfield 10, 3, 10, 0, 3, [87], 0, 0) 83 5 := X_at (r := mi83) rfl rfl
theorem x83_8 {z : P0} : X z 83 8 = XI mT z (X z) (.aload_n 0, 1, 0, 0, 0, [], 0, 0) 83 8 := X_at (r := mi83) rfl rfl
theorem x83_9 {z : P0} : X z 83 9 = XI mT z (X z) (.getfield 10, 3, 10, 0, 3, [87], 0, 0) 83 9 := X_at (r := mi83) rfl rfl
theorem x83_12 {z : P0} : X z 83 12 = XI mT z (X z) (.getfield 168, 3, 8, 5, 3, [103], 0, 0) 83 12 := X_at (r := mi83) rfl rfl
theorem x83_15 {z : P0} : X z 83 15 = XI mT z (X z) (.invokevirtual 174, 3, 2, 38, 0, [77], 0, 0) 83 15 := X_at (r := mi83) rfl rfl
theorem x83_18 {z : P0} : X z 83 18 = XI mT z (X z) (.aload_n 0, 1, 0, 0, 0, [], 0, 0) 83 18 := X_at (r := mi83) rfl rfl
theorem x83_19 {z : P0} : X z 83 19 = XI mT z (X z) (.invokevirtual 310, 3, 0, 97, 0, [91], 0, 0) 83 19 := X_at (r := mi83) rfl rfl
theorem x83_22 {z : P0} : X z 83 22 = XI mT z (X z) (.dreturn, 1, 0, 0, 0, [], 0, 0) 83 22 := X_at (r := mi83) rfl rfl
theorem x84_0 {z : P0} : X z 84 0 = XI mT z (X z) (.aload_n 0, 1, 0, 0, 0, [], 0, 0) 84 0 := X_at (r := mi84) rfl rfl
theorem x84_1 {z : P0} : X z 84 1 = XI mT z (X z) (.getfield 41, 3, 10, 3, 3, [90], 0, 0) 84 1 := X_at (r := mi84) rfl rfl
theorem x84_4 {z : P0} : X z 84 4 = XI mT z (X z) (.aload_n 0, 1, 0, 0, 0, [], 0, 0) 84 4 := X_at (r := mi84) rfl rfl
theorem x84_5 {z : P0} : X z 84 5 = XI mT z (X z) (.getfield 10, 3, 10, 0, 3, [87], 0, 0) 84 5 := X_at (r := mi84) rfl rfl
theorem x84_8 {z : P0} : X z 84 8 = XI mT z (X z) (.aload_n 0, 1, 0, 0, 0, [], 0, 0) 84 8 := X_at (r := mi84) rfl rfl
theorem x84_9 {z : P0} : X z 84 9 = XI mT z (X z) (.getfield 10, 3, 10, 0, 3, [87], 0, 0) 84 9 := X_at (r := mi84) rfl rfl
theorem x84_12 {z : P0} : X z 84 12 = XI mT z (X z) (.getfield 168, 3, 8, 5, 3, [103], 0, 0) 84 12 := X_at (r := mi84) rfl rfl
theorem x84_15 {z : P0} : X z 84 15 = XI mT z (X z) (.invokevirtual 174, 3, 2, 38, 0, [77], 0, 0) 84 15 := X_at (r := mi84) rfl rfl
theorem x84_18 {z : P0} : X z 84 18 = XI mT z (X z) (.ldc2_w 314, 3, 0, 0, 0, [542], 0, lN 2377) 84 18 := X_at (r := mi84) rfl rfl
theorem x84_21 {z : P0} : X z 84 21 = XI mT z (X z) (.lstore_n 1, 1, 1, 0, 0, [], 0, 0) 84 21 := X_at (r := mi84) rfl rfl
theorem x84_22 {z : P0} : X z 84 22 = XI mT z (X z) (.iconst 0, 1, 0, 0, 0, [], nI 0, 0) 84 22 := X_at (r := mi84) rfl rfl
theorem x84_23 {z : P0} : X z 84 23 = XI mT z (X z) (.istore_n 3, 1, 3, 0, 0, [], 0, 0) 84 23 := X_at (r := mi84) rfl rfl
theorem x84_24 {z : P0} : X z 84 24 = XI mT z (X z) (.iload_n 3, 1, 3, 0, 0, [], 0, 0) 84 24 := X_at (r := mi84) rfl rfl
theorem x84_25 {z : P0} : X z 84 25 = XI mT z (X z) (.bipush 14, 2, 0, 0, 0, [], nI 14, 0) 84 25 := X_at (r := mi84) rfl rfl
theorem x84_27 {z : P0} : X z 84 27 = XI mT z (X z) (.if_icmp .gt 20, 3, 47, 0, 0, [], 0, 0) 84 27 := X_at (r := mi84) rfl rfl
theorem x84_30 {z : P0} : X z 84 30 = XI mT z (X z) (.lload_n 1, 1, 1, 0, 0, [], 0, 0) 84 30 := X_at (r := mi84) rfl rfl
theorem x84_31 {z : P0} : X z 84 31 = XI mT z (X z) (.aload_n 0, 1, 0, 0, 0, [], 0, 0) 84 31 := X_at (r := mi84) rfl rfl
theorem x84_32 {z : P0} : X z 84 32 = XI mT z (X z) (.iload_n 3, 1, 3, 0, 0, [], 0, 0) 84 32 := X_at (r := mi84) rfl rfl
theorem x84_33 {z : P0} : X z 84 33 = XI mT z (X z) (.invokevirtual 291, 3, 1, 96, 0, [87], 0, 0) 84 33 := X_at (r := mi84) rfl rfl
theorem x84_36 {z : P0} : X z 84 36 = XI mT z (X z) (.i2l, 1, 0, 0, 0, [], 0, 0) 84 36 := X_at (r := mi84) rfl rfl
theorem x84_37 {z : P0} : X z 84 37 = XI mT z (X z) (.invokestatic 316, 3, 2, 99, 0, [92], 0, 0) 84 37 := X_at (r := mi84) rfl rfl
theorem x84_40 {z : P0} : X z 84 40 = XI mT z (X z) (.lstore_n 1, 1, 1, 0, 0, [], 0, 0) 84 40 := X_at (r := mi84) rfl rfl
theorem x84_41 {z : P0} : X z 84 41 = XI mT z (X z) (.iinc 3 1, 3, 3, 0, 0, [], nI 1, 0) 84 41 := X_at (r := mi84) rfl rfl
theorem x84_44 {z : P0} : X z 84 44 = XI mT z (X z) (.goto (-20), 3, 24, 0, 0, [], 0, 0) 84 44 := X_at (r := mi84) rfl rfl
theorem x84_47 {z : P0} : X z 84 47 = XI mT z (X z) (.iconst 0, 1, 0, 0, 0, [], nI 0, 0) 84 47 := X_at (r := mi84) rfl rfl
theorem x84_48 {z : P0} : X z 84 48 = XI mT z (X z) (.istore_n 3, 1, 3, 0, 0, [], 0, 0) 84 48 := X_at (r := mi84) rfl rfl
theorem x84_49 {z : P0} : X z 84 49 = XI mT z (X z) (.iload_n 3, 1, 3, 0, 0, [], 0, 0) 84 49 := X_at (r := mi84) rfl rfl
theorem x84_50 {z : P0} : X z 84 50 = XI mT z (X z) (.bipush 6, 2, 0, 0, 0, [], nI 6, 0) 84 50 := X_at (r := mi84) rfl rfl
theorem x84_52 {z : P0} : X z 84 52 = XI mT z (X z) (.if_icmp .ge 24, 3, 76, 0, 0, [], 0, 0) 84 52 := X_at (r := mi84) rfl rfl
theorem x84_55 {z : P0} : X z 84 55 = XI mT z (X z) (.lload_n 1, 1, 1, 0, 0, [], 0, 0) 84 55 := X_at (r := mi84) rfl rfl
theorem x84_56 {z : P0} : X z 84 56 = XI mT z (X z) (.aload_n 0, 1, 0, 0, 0, [], 0, 0) 84 56 := X_at (r := mi84) rfl rfl
theorem x84_57 {z : P0} : X z 84 57 = XI mT z (X z) (.getfield 10, 3, 10, 0, 3, [87], 0, 0) 84 57 := X_at (r := mi84) rfl rfl
theorem x84_60 {z : P0} : X z 84 60 = XI mT z (X z) (.getfield 168, 3, 8, 5, 3, [103], 0, 0) 84 60 := X_at (r := mi84) rfl rfl
theorem x84_63 {z : P0} : X z 84 63 = XI mT z (X z) (.iload_n 3, 1, 3, 0, 0, [], 0, 0) 84 63 := X_at (r := mi84) rfl rfl
theorem x84_64 {z : P0} : X z 84 64 = XI mT z (X z) (.iaload, 1, 0, 0, 0, [], 0, 0) 84 64 := X_at (r := mi84) rfl rfl
theorem x84_65 {z : P0} : X z 84 65 = XI mT z (X z) (.i2l, 1, 0, 0, 0, [], 0, 0) 84 65 := X_at (r := mi84) rfl rfl
theorem x84_66 {z : P0} : X z 84 66 = XI mT z (X z) (.invokestatic 316, 3, 2, 99, 0, [92], 0, 0) 84 66 := X_at (r := mi84) rfl rfl
theorem x84_69 {z : P0} : X z 84 69 = XI mT z (X z) (.lstore_n 1, 1, 1, 0, 0, [], 0, 0) 84 69 := X_at (r := mi84) rfl rfl
theorem x84_70 {z : P0} : X z 84 70 = XI mT z (X z) (.iinc 3 1, 3, 3, 0, 0, [], nI 1, 0) 84 70 := X_at (r := mi84) rfl rfl
theorem x84_73 {z : P0} : X z 84 73 = XI mT z (X z) (.goto (-24), 3, 49, 0, 0, [], 0, 0) 84 73 := X_at (r := mi84) rfl rfl
theorem x84_76 {z : P0} : X z 84 76 = XI mT z (X z) (.aload_n 0, 1, 0, 0, 0, [], 0, 0) 84 76 := X_at (r := mi84) rfl rfl
theorem x84_77 {z : P0} : X z 84 77 = XI mT z (X z) (.lload_n 1, 1, 1, 0, 0, [], 0, 0) 84 77 := X_at (r := mi84) rfl rfl
theorem x84_78 {z : P0} : X z 84 78 = XI mT z (X z) (.invokevirtual 320, 3, 1, 101, 0, [93], 0, 0) 84 78 := X_at (r := mi84) rfl rfl
theorem x84_81 {z : P0} : X z 84 81 = XI mT z (X z) (.lstore_n 1, 1, 1, 0, 0, [], 0, 0) 84 81 := X_at (r := mi84) rfl rfl
theorem x84_82 {z : P0} : X z 84 82 = XI mT z (X z) (.aload_n 0, 1, 0, 0, 0, [], 0, 0) 84 82 := X_at (r := mi84) rfl rfl
theorem x84_83 {z : P0} : X z 84 83 = XI mT z (X z) (.lload_n 1, 1, 1, 0, 0, [], 0, 0) 84 83 := X_at (r := mi84) rfl rfl
theorem x84_84 {z : P0} : X z 84 84 = XI mT z (X z) (.invokevirtual 324, 3, 1, 102, 0, [94], 0, 0) 84 84 := X_at (r := mi84) rfl rfl
theorem x84_87 {z : P0} : X z 84 87 = XI mT z (X z) (.lstore_n 1, 1, 1, 0, 0, [], 0, 0) 84 87 := X_at (r := mi84) rfl rfl
theorem x84_88 {z : P0} : X z 84 88 = XI mT z (X z) (.aload_n 0, 1, 0, 0, 0, [], 0, 0) 84 88 := X_at (r := mi84) rfl rfl
theorem x84_89 {z : P0} : X z 84 89 = XI mT z (X z) (.lload_n 1, 1, 1, 0, 0, [], 0, 0) 84 89 := X_at (r := mi84) rfl rfl
theorem x84_90 {z : P0} : X z 84 90 = XI mT z (X z) (.invokevirtual 327, 3, 1, 103, 0, [95], 0, 0) 84 90 := X_at (r := mi84) rfl rfl
theorem x84_93 {z : P0} : X z 84 93 = XI mT z (X z) (.lstore_n 1, 1, 1, 0, 0, [], 0, 0) 84 93 := X_at (r := mi84) rfl rfl
theorem x84_94 {z : P0} : X z 84 94 = XI mT z (X z) (.lload_n 1, 1, 1, 0, 0, [], 0, 0) 84 94 := X_at (r := mi84) rfl rfl
theorem x84_95 {z : P0} : X z 84 95 = XI mT z (X z) (.aload_n 0, 1, 0, 0, 0, [], 0, 0) 84 95 := X_at (r := mi84) rfl rfl
theorem x84_96 {z : P0} : X z 84 96 = XI mT z (X z) (.invokevirtual 330, 3, 0, 80, 0, [96], 0, 0) 84 96 := X_at (r := mi84) rfl rfl
theorem x84_99 {z : P0} : X z 84 99 = XI mT z (X z) (.i2l, 1, 0, 0, 0, [], 0, 0) 84 99 := X_at (r := mi84) rfl rfl
theorem x84_100 {z : P0} : X z 84 100 = XI mT z (X z) (.invokestatic 316, 3, 2, 99, 0, [92], 0, 0) 84 100 := X_at (r := mi84) rfl rfl
theorem x84_103 {z : P0} : X z 84 103 = XI mT z (X z) (.lstore_n 1, 1, 1, 0, 0, [], 0, 0) 84 103 := X_at (r := mi84) rfl rfl
theorem x84_104 {z : P0} : X z 84 104 = XI mT z (X z) (.lload_n 1, 1, 1, 0, 0, [], 0, 0) 84 104 := X_at (r := mi84) rfl rfl
theorem x84_105 {z : P0} : X z 84 105 = XI mT z (X z) (.aload_n 0, 1, 0, 0, 0, [], 0, 0) 84 105 := X_at (r := mi84) rfl rfl
theorem x84_106 {z : P0} : X z 84 106 = XI mT z (X z) (.invokevirtual 333, 3, 0, 81, 0, [97], 0, 0) 84 106 := X_at (r := mi84) rfl rfl
theorem x84_109 {z : P0} : X z 84 109 = XI mT z (X z) (.i2l, 1, 0, 0, 0, [], 0, 0) 84 109 := X_at (r := mi84) rfl rfl
theorem x84_110 {z : P0} : X z 84 110 = XI mT z (X z) (.invokestatic 316, 3, 2, 99, 0, [92], 0, 0) 84 110 := X_at (r := mi84) rfl rfl
theorem x84_113 {z : P0} : X z 84 113 = XI mT z (X z) (.lstore_n 1, 1, 1, 0, 0, [], 0, 0) 84 113 := X_at (r := mi84) rfl rfl
theorem x84_114 {z : P0} : X z 84 114 = XI mT z (X z) (.lload_n 1, 1, 1, 0, 0, [], 0, 0) 84 114 := X_at (r := mi84) rfl rfl
theorem x84_115 {z : P0} : X z 84 115 = XI mT z (X z) (.aload_n 0, 1, 0, 0, 0, [], 0, 0) 84 115 := X_at (r := mi84) rfl rfl
theorem x84_116 {z : P0} : X z 84 116 = XI mT z (X z) (.invokevirtual 310, 3, 0, 97, 0, [91], 0, 0) 84 116 := X_at (r := mi84) rfl rfl
theorem x84_119 {z : P0} : X z 84 119 = XI mT z (X z) (.invokestatic 336, 3, 1, 98, 0, [98], 0, 0) 84 119 := X_at (r := mi84) rfl rfl
theorem x84_122 {z : P0} : X z 84 122 = XI mT z (X z) (.invokestatic 316, 3, 2, 99, 0, [92], 0, 0) 84 122 := X_at (r := mi84) rfl rfl
theorem x84_125 {z : P0} : X z 84 125 = XI mT z (X z) (.lstore_n 1, 1, 1, 0, 0, [], 0, 0) 84 125 := X_at (r := mi84) rfl rfl
theorem x84_126 {z : P0} : X z 84 126 = XI mT z (X z) (.lload_n 1, 1, 1, 0, 0, [], 0, 0) 84 126 := X_at (r := mi84) rfl rfl
theorem x84_127 {z : P0} : X z 84 127 = XI mT z (X z) (.aload_n 0, 1, 0, 0, 0, [], 0, 0) 84 127 := X_at (r := mi84) rfl rfl
theorem x84_128 {z : P0} : X z 84 128 = XI mT z (X z) (.getfield 26, 3, 10, 2, 3, [89], 0, 0) 84 128 := X_at (r := mi84) rfl rfl
theorem x84_131 {z : P0} : X z 84 131 = XI mT z (X z) (.getfield 91, 3, 0, 1, 0, [95], 0, 0) 84 131 := X_at (r := mi84) rfl rfl
theorem x84_134 {z : P0} : X z 84 134 = XI mT z (X z) (.i2l, 1, 0, 0, 0, [], 0, 0) 84 134 := X_at (r := mi84) rfl rfl
theorem x84_135 {z : P0} : X z 84 135 = XI mT z (X z) (.invokestatic 316, 3, 2, 99, 0, [92], 0, 0) 84 135 := X_at (r := mi84) rfl rfl
theorem x84_138 {z : P0} : X z 84 138 = XI mT z (X z) (.lstore_n 1, 1, 1, 0, 0, [], 0, 0) 84 138 := X_at (r := mi84) rfl rfl
theorem x84_139 {z : P0} : X z 84 139 = XI mT z (X z) (.lload_n 1, 1, 1, 0, 0, [], 0, 0) 84 139 := X_at (r := mi84) rfl rfl
theorem x84_140 {z : P0} : X z 84 140 = XI mT z (X z) (.aload_n 0, 1, 0, 0, 0, [], 0, 0) 84 140 := X_at (r := mi84) rfl rfl
theorem x84_141 {z : P0} : X z 84 141 = XI mT z (X z) (.getfield 26, 3, 10, 2, 3, [89], 0, 0) 84 141 := X_at (r := mi84) rfl rfl
theorem x84_144 {z : P0} : X z 84 144 = XI mT z (X z) (.getfield 116, 3, 0, 0, 3, [99], 0, 0) 84 144 := X_at (r := mi84) rfl rfl
theorem x84_147 {z : P0} : X z 84 147 = XI mT z (X z) (.aload_n 0, 1, 0, 0, 0, [], 0, 0) 84 147 := X_at (r := mi84) rfl rfl
theorem x84_148 {z : P0} : X z 84 148 = XI mT z (X z) (.getfield 26, 3, 10, 2, 3, [89], 0, 0) 84 148 := X_at (r := mi84) rfl rfl
theorem x84_151 {z : P0} : X z 84 151 = XI mT z (X z) (.getfield 91, 3, 0, 1, 0, [95], 0, 0) 84 151 := X_at (r := mi84) rfl rfl
theorem x84_154 {z : P0} : X z 84 154 = XI mT z (X z) (.invokestatic 340, 3, 3, 100, 0, [99], 0, 0) 84 154 := X_at (r := mi84) rfl rfl
theorem x84_157 {z : P0} : X z 84 157 = XI mT z (X z) (.lreturn, 1, 0, 0, 0, [], 0, 0) 84 157 := X_at (r := mi84) rfl rfl
theorem x85_0 {z : P0} : X z 85 0 = XI mT z (X z) (.iload_n 0, 1, 0, 0, 0, [], 0, 0) 85 0 := X_at (r := mi85) rfl rfl
theorem x85_1 {z : P0} : X z 85 1 = XI mT z (X z) (.ifCond .lt 13, 3, 14, 0, 0, [], 0, 0) 85 1 := X_at (r := mi85) rfl rfl
theorem x85_4 {z : P0} : X z 85 4 = XI mT z (X z) (.iload_n 0, 1, 0, 0, 0, [], 0, 0) 85 4 := X_at (r := mi85) rfl rfl
theorem x85_5 {z : P0} : X z 85 5 = XI mT z (X z) (.bipush 20, 2, 0, 0, 0, [], nI 20, 0) 85 5 := X_at (r := mi85) rfl rfl
theorem x85_7 {z : P0} : X z 85 7 = XI mT z (X z) (.if_icmp .ge 7, 3, 14, 0, 0, [], 0, 0) 85 7 := X_at (r := mi85) rfl rfl
theorem x85_10 {z : P0} : X z 85 10 = XI mT z (X z) (.iconst 1, 1, 0, 0, 0, [], nI 1, 0) 85 10 := X_at (r := mi85) rfl rfl
theorem x85_11 {z : P0} : X z 85 11 = XI mT z (X z) (.goto 4, 3, 15, 0, 0, [], 0, 0) 85 11 := X_at (r := mi85) rfl rfl
theorem x85_14 {z : P0} : X z 85 14 = XI mT z (X z) (.iconst 0, 1, 0, 0, 0, [], nI 0, 0) 85 14 := X_at (r := mi85) rfl rfl
theorem x85_15 {z : P0} : X z 85 15 = XI mT z (X z) (.ireturn, 1, 0, 0, 0, [], 0, 0) 85 15 := X_at (r := mi85) rfl rfl
theorem x86_0 {z : P0} : X z 86 0 = XI mT z (X z) (.iload_n 0, 1, 0, 0, 0, [], 0, 0) 86 0 := X_at (r := mi86) rfl rfl
theorem x86_1 {z : P0} : X z 86 1 = XI mT z (X z) (.ifCond .lt 13, 3, 14, 0, 0, [], 0, 0) 86 1 := X_at (r := mi86) rfl rfl
theorem x86_4 {z : P0} : X z 86 4 = XI mT z (X z) (.iload_n 0, 1, 0, 0, 0, [], 0, 0) 86 4 := X_at (r := mi86) rfl rfl
theorem x86_5 {z : P0} : X z 86 5 = XI mT z (X z) (.bipush 6, 2, 0, 0, 0, [], nI 6, 0) 86 5 := X_at (r := mi86) rfl rfl
theorem x86_7 {z : P0} : X z 86 7 = XI mT z (X z) (.if_icmp .ge 7, 3, 14, 0, 0, [], 0, 0) 86 7 := X_at (r := mi86) rfl rfl
theorem x86_10 {z : P0} : X z 86 10 = XI mT z (X z) (.iconst 1, 1, 0, 0, 0, [], nI 1, 0) 86 10 := X_at (r := mi86) rfl rfl
theorem x86_11 {z : P0} : X z 86 11 = XI mT z (X z) (.goto 4, 3, 15, 0, 0, [], 0, 0) 86 11 := X_at (r := mi86) rfl rfl
theorem x86_14 {z : P0} : X z 86 14 = XI mT z (X z) (.iconst 0, 1, 0, 0, 0, [], nI 0, 0) 86 14 := X_at (r := mi86) rfl rfl
theorem x86_15 {z : P0} : X z 86 15 = XI mT z (X z) (.ireturn, 1, 0, 0, 0, [], 0, 0) 86 15 := X_at (r := mi86) rfl rfl
theorem x87_0 {z : P0} : X z 87 0 = XI mT z (X z) (.iload_n 1, 1, 1, 0, 0, [], 0, 0) 87 0 := X_at (r := mi87) rfl rfl
theorem x87_1 {z : P0} : X z 87 1 = XI mT z (X z) (.getstatic 344, 3, 1, 0, 0, [862], 0, 0) 87 1 := X_at (r := mi87) rfl rfl
theorem x87_4 {z : P0} : X z 87 4 = XI mT z (X z) (.iload_n 0, 1, 0, 0, 0, [], 0, 0) 87 4 := X_at (r := mi87) rfl rfl
theorem x87_5 {z : P0} : X z 87 5 = XI mT z (X z) (.iaload, 1, 0, 0, 0, [], 0, 0) 87 5 := X_at (r := mi87) rfl rfl
theorem x87_6 {z : P0} : X z 87 6 = XI mT z (X z) (.if_icmp .lt 16, 3, 22, 0, 0, [], 0, 0) 87 6 := X_at (r := mi87) rfl rfl
theorem x87_9 {z : P0} : X z 87 9 = XI mT z (X z) (.iload_n 1, 1, 1, 0, 0, [], 0, 0) 87 9 := X_at (r := mi87) rfl rfl
theorem x87_10 {z : P0} : X z 87 10 = XI mT z (X z) (.getstatic 347, 3, 2, 0, 0, [864], 0, 0) 87 10 := X_at (r := mi87) rfl rfl
theorem x87_13 {z : P0} : X z 87 13 = XI mT z (X z) (.iload_n 0, 1, 0, 0, 0, [], 0, 0) 87 13 := X_at (r := mi87) rfl rfl
theorem x87_14 {z : P0} : X z 87 14 = XI mT z (X z) (.iaload, 1, 0, 0, 0, [], 0, 0) 87 14 := X_at (r := mi87) rfl rfl
theorem x87_15 {z : P0} : X z 87 15 = XI mT z (X z) (.if_icmp .gt 7, 3, 22, 0, 0, [], 0, 0) 87 15 := X_at (r := mi87) rfl rfl
theorem x87_18 {z : P0} : X z 87 18 = XI mT z (X z) (.iconst 1, 1, 0, 0, 0, [], nI 1, 0) 87 18 := X_at (r := mi87) rfl rfl
theorem x87_19 {z : P0} : X z 87 19 = XI mT z (X z) (.goto 4, 3, 23, 0, 0, [], 0, 0) 87 19 := X_at (r := mi87) rfl rfl
theorem x87_22 {z : P0} : X z 87 22 = XI mT z (X z) (.iconst 0, 1, 0, 0, 0, [], nI 0, 0) 87 22 := X_at (r := mi87) rfl rfl
theorem x87_23 {z : P0} : X z 87 23 = XI mT z (X z) (.ireturn, 1, 0, 0, 0, [], 0, 0) 87 23 := X_at (r := mi87) rfl rfl
theorem x88_0 {z : P0} : X z 88 0 = XI mT z (X z) (.iload_n 0, 1, 0, 0, 0, [], 0, 0) 88 0 := X_at (r := mi88) rfl rfl
theorem x88_1 {z : P0} : X z 88 1 = XI mT z (X z) (.bipush 97, 2, 0, 0, 0, [], nI 97, 0) 88 1 := X_at (r := mi88) rfl rfl
theorem x88_3 {z : P0} : X z 88 3 = XI mT z (X z) (.if_icmp .lt 13, 3, 16, 0, 0, [], 0, 0) 88 3 := X_at (r := mi88) rfl rfl
theorem x88_6 {z : P0} : X z 88 6 = XI mT z (X z) (.iload_n 0, 1, 0, 0, 0, [], 0, 0) 88 6 := X_at (r := mi88) rfl rfl
theorem x88_7 {z : P0} : X z 88 7 = XI mT z (X z) (.bipush 122, 2, 0, 0, 0, [], nI 122, 0) 88 7 := X_at (r := mi88) rfl rfl
theorem x88_9 {z : P0} : X z 88 9 = XI mT z (X z) (.if_icmp .gt 7, 3, 16, 0, 0, [], 0, 0) 88 9 := X_at (r := mi88) rfl rfl
theorem x88_12 {z : P0} : X z 88 12 = XI mT z (X z) (.iconst 1, 1, 0, 0, 0, [], nI 1, 0) 88 12 := X_at (r := mi88) rfl rfl
theorem x88_13 {z : P0} : X z 88 13 = XI mT z (X z) (.goto 4, 3, 17, 0, 0, [], 0, 0) 88 13 := X_at (r := mi88) rfl rfl
theorem x88_16 {z : P0} : X z 88 16 = XI mT z (X z) (.iconst 0, 1, 0, 0, 0, [], nI 0, 0) 88 16 := X_at (r := mi88) rfl rfl
theorem x88_17 {z : P0} : X z 88 17 = XI mT z (X z) (.ireturn, 1, 0, 0, 0, [], 0, 0) 88 17 := X_at (r := mi88) rfl rfl
theorem x89_0 {z : P0} : X z 89 0 = XI mT z (X z) (.iload_n 1, 1, 1, 0, 0, [], 0, 0) 89 0 := X_at (r := mi89) rfl rfl
theorem x89_1 {z : P0} : X z 89 1 = XI mT z (X z) (.ifCond .lt 18, 3, 19, 0, 0, [], 0, 0) 89 1 := X_at (r := mi89) rfl rfl
theorem x89_4 {z : P0} : X z 89 4 = XI mT z (X z) (.iload_n 1, 1, 1, 0, 0, [], 0, 0) 89 4 := X_at (r := mi89) rfl rfl
theorem x89_5 {z : P0} : X z 89 5 = XI mT z (X z) (.aload_n 0, 1, 0, 0, 0, [], 0, 0) 89 5 := X_at (r := mi89) rfl rfl
theorem x89_6 {z : P0} : X z 89 6 = XI mT z (X z) (.getfield 10, 3, 10, 0, 3, [87], 0, 0) 89 6 := X_at (r := mi89) rfl rfl
theorem x89_9 {z : P0} : X z 89 9 = XI mT z (X z) (.getfield 68, 3, 8, 1, 0, [93], 0, 0) 89 9 := X_at (r := mi89) rfl rfl
theorem x89_12 {z : P0} : X z 89 12 = XI mT z (X z) (.if_icmp .ge 7, 3, 19, 0, 0, [], 0, 0) 89 12 := X_at (r := mi89) rfl rfl
theorem x89_15 {z : P0} : X z 89 15 = XI mT z (X z) (.iconst 1, 1, 0, 0, 0, [], nI 1, 0) 89 15 := X_at (r := mi89) rfl rfl
theorem x89_16 {z : P0} : X z 89 16 = XI mT z (X z) (.goto 4, 3, 20, 0, 0, [], 0, 0) 89 16 := X_at (r := mi89) rfl rfl
theorem x89_19 {z : P0} : X z 89 19 = XI mT z (X z) (.iconst 0, 1, 0, 0, 0, [], nI 0, 0) 89 19 := X_at (r := mi89) rfl rfl
theorem x89_20 {z : P0} : X z 89 20 = XI mT z (X z) (.ireturn, 1, 0, 0, 0, [], 0, 0) 89 20 := X_at (r := mi89) rfl rfl
theorem x90_0 {z : P0} : X z 90 0 = XI mT z (X z) (.iload_n 1, 1, 1, 0, 0, [], 0, 0) 90 0 := X_at (r := mi90) rfl rfl
theorem x90_1 {z : P0} : X z 90 1 = XI mT z (X z) (.ifCond .lt 18, 3, 19, 0, 0, [], 0, 0) 90 1 := X_at (r := mi90) rfl rfl
theorem x90_4 {z : P0} : X z 90 4 = XI mT z (X z) (.iload_n 1, 1, 1, 0, 0, [], 0, 0) 90 4 := X_at (r := mi90) rfl rfl
theorem x90_5 {z : P0} : X z 90 5 = XI mT z (X z) (.aload_n 0, 1, 0, 0, 0, [], 0, 0) 90 5 := X_at (r := mi90) rfl rfl
theorem x90_6 {z : P0} : X z 90 6 = XI mT z (X z) (.getfield 10, 3, 10, 0, 3, [87], 0, 0) 90 6 := X_at (r := mi90) rfl rfl
theorem x90_9 {z : P0} : X z 90 9 = XI mT z (X z) (.getfield 96, 3, 8, 3, 0, [96], 0, 0) 90 9 := X_at (r := mi90) rfl rfl
theorem x90_12 {z : P0} : X z 90 12 = XI mT z (X z) (.if_icmp .ge 7, 3, 19, 0, 0, [], 0, 0) 90 12 := X_at (r := mi90) rfl rfl
theorem x90_15 {z : P0} : X z 90 15 = XI mT z (X z) (.iconst 1, 1, 0, 0, 0, [], nI 1, 0) 90 15 := X_at (r := mi90) rfl rfl
theorem x90_16 {z : P0} : X z 90 16 = XI mT z (X z) (.goto 4, 3, 20, 0, 0, [], 0, 0) 90 16 := X_at (r := mi90) rfl rfl
theorem x90_19 {z : P0} : X z 90 19 = XI mT z (X z) (.iconst 0, 1, 0, 0, 0, [], nI 0, 0) 90 19 := X_at (r := mi90) rfl rfl
theorem x90_20 {z : P0} : X z 90 20 = XI mT z (X z) (.ireturn, 1, 0, 0, 0, [], 0, 0) 90 20 := X_at (r := mi90) rfl rfl
theorem x91_0 {z : P0} : X z 91 0 = XI mT z (X z) (.aload_n 0, 1, 0, 0, 0, [], 0, 0) 91 0 := X_at (r := mi91) rfl rfl
theorem x91_1 {z : P0} : X z 91 1 = XI mT z (X z) (.getfield 10, 3, 10, 0, 3, [87], 0, 0) 91 1 := X_at (r := mi91) rfl rfl
theorem x91_4 {z : P0} : X z 91 4 = XI mT z (X z) (.getfield 168, 3, 8, 5, 3, [103], 0, 0) 91 4 := X_at (r := mi91) rfl rfl
theorem x91_7 {z : P0} : X z 91 7 = XI mT z (X z) (.iconst 0, 1, 0, 0, 0, [], nI 0, 0) 91 7 := X_at (r := mi91) rfl rfl
theorem x91_8 {z : P0} : X z 91 8 = XI mT z (X z) (.aload_n 0, 1, 0, 0, 0, [], 0, 0) 91 8 := X_at (r := mi91) rfl rfl
theorem x91_9 {z : P0} : X z 91 9 = XI mT z (X z) (.getfield 48, 3, 10, 5, 3, [92], 0, 0) 91 9 := X_at (r := mi91) rfl rfl
theorem x91_12 {z : P0} : X z 91 12 = XI mT z (X z) (.iconst 0, 1, 0, 0, 0, [], nI 0, 0) 91 12 := X_at (r := mi91) rfl rfl
theorem x91_13 {z : P0} : X z 91 13 = XI mT z (X z) (.bipush 6, 2, 0, 0, 0, [], nI 6, 0) 91 13 := X_at (r := mi91) rfl rfl
theorem x91_15 {z : P0} : X z 91 15 = XI mT z (X z) (.invokestatic 350, 3, 5, 9001, 0, [100], 0, 0) 91 15 := X_at (r := mi91) rfl rfl
theorem x91_18 {z : P0} : X z 91 18 = XI mT z (X z) (.aload_n 0, 1, 0, 0, 0, [], 0, 0) 91 18 := X_at (r := mi91) rfl rfl
theorem x91_19 {z : P0} : X z 91 19 = XI mT z (X z) (.getfield 48, 3, 10, 5, 3, [92], 0, 0) 91 19 := X_at (r := mi91) rfl rfl
theorem x91_22 {z : P0} : X z 91 22 = XI mT z (X z) (.iload_n 1, 1, 1, 0, 0, [], 0, 0) 91 22 := X_at (r := mi91) rfl rfl
theorem x91_23 {z : P0} : X z 91 23 = XI mT z (X z) (.iload_n 2, 1, 2, 0, 0, [], 0, 0) 91 23 := X_at (r := mi91) rfl rfl
theorem x91_24 {z : P0} : X z 91 24 = XI mT z (X z) (.iastore, 1, 0, 0, 0, [], 0, 0) 91 24 := X_at (r := mi91) rfl rfl
theorem x91_25 {z : P0} : X z 91 25 = XI mT z (X z) (.return_, 1, 0, 0, 0, [], 0, 0) 91 25 := X_at (r := mi91) rfl rfl
theorem x92_0 {z : P0} : X z 92 0 = XI mT z (X z) (.iconst 0, 1, 0, 0, 0, [], nI 0, 0) 92 0 := X_at (r := mi92) rfl rfl
theorem x92_1 {z : P0} : X z 92 1 = XI mT z (X z) (.istore_n 2, 1, 2, 0, 0, [], 0, 0) 92 1 := X_at (r := mi92) rfl rfl
theorem x92_2 {z : P0} : X z 92 2 = XI mT z (X z) (.iload_n 2, 1, 2, 0, 0, [], 0, 0) 92 2 := X_at (r := mi92) rfl rfl
theorem x92_3 {z : P0} : X z 92 3 = XI mT z (X z) (.bipush 40, 2, 0, 0, 0, [], nI 40, 0) 92 3 := X_at (r := mi92) rfl rfl
theorem x92_5 {z : P0} : X z 92 5 = XI mT z (X z) (.if_icmp .gt 48, 3, 53, 0, 0, [], 0, 0) 92 5 := X_at (r := mi92) rfl rfl
theorem x92_8 {z : P0} : X z 92 8 = XI mT z (X z) (.aload_n 0, 1, 0, 0, 0, [], 0, 0) 92 8 := X_at (r := mi92) rfl rfl
theorem x92_9 {z : P0} : X z 92 9 = XI mT z (X z) (.getfield 10, 3, 10, 0, 3, [87], 0, 0) 92 9 := X_at (r := mi92) rfl rfl
theorem x92_12 {z : P0} : X z 92 12 = XI mT z (X z) (.aload_n 0, 1, 0, 0, 0, [], 0, 0) 92 12 := X_at (r := mi92) rfl rfl
theorem x92_13 {z : P0} : X z 92 13 = XI mT z (X z) (.getfield 10, 3, 10, 0, 3, [87], 0, 0) 92 13 := X_at (r := mi92) rfl rfl
theorem x92_16 {z : P0} : X z 92 16 = XI mT z (X z) (.getfield 186, 3, 8, 6, 0, [107], 0, 0) 92 16 := X_at (r := mi92) rfl rfl
theorem x92_19 {z : P0} : X z 92 19 = XI mT z (X z) (.iload_n 2, 1, 2, 0, 0, [], 0, 0) 92 19 := X_at (r := mi92) rfl rfl
theorem x92_20 {z : P0} : X z 92 20 = XI mT z (X z) (.iadd, 1, 0, 0, 0, [], 0, 0) 92 20 := X_at (r := mi92) rfl rfl
theorem x92_21 {z : P0} : X z 92 21 = XI mT z (X z) (.aload_n 0, 1, 0, 0, 0, [], 0, 0) 92 21 := X_at (r := mi92) rfl rfl
theorem x92_22 {z : P0} : X z 92 22 = XI mT z (X z) (.getfield 10, 3, 10, 0, 3, [87], 0, 0) 92 22 := X_at (r := mi92) rfl rfl
theorem x92_25 {z : P0} : X z 92 25 = XI mT z (X z) (.getfield 81, 3, 8, 0, 3, [94], 0, 0) 92 25 := X_at (r := mi92) rfl rfl
theorem x92_28 {z : P0} : X z 92 28 = XI mT z (X z) (.iload_n 1, 1, 1, 0, 0, [], 0, 0) 92 28 := X_at (r := mi92) rfl rfl
theorem x92_29 {z : P0} : X z 92 29 = XI mT z (X z) (.aaload, 1, 0, 0, 0, [], 0, 0) 92 29 := X_at (r := mi92) rfl rfl
theorem x92_30 {z : P0} : X z 92 30 = XI mT z (X z) (.aload_n 0, 1, 0, 0, 0, [], 0, 0) 92 30 := X_at (r := mi92) rfl rfl
theorem x92_31 {z : P0} : X z 92 31 = XI mT z (X z) (.getfield 10, 3, 10, 0, 3, [87], 0, 0) 92 31 := X_at (r := mi92) rfl rfl
theorem x92_34 {z : P0} : X z 92 34 = XI mT z (X z) (.getfield 168, 3, 8, 5, 3, [103], 0, 0) 92 34 := X_at (r := mi92) rfl rfl
theorem x92_37 {z : P0} : X z 92 37 = XI mT z (X z) (.iconst 3, 1, 0, 0, 0, [], nI 3, 0) 92 37 := X_at (r := mi92) rfl rfl
theorem x92_38 {z : P0} : X z 92 38 = XI mT z (X z) (.iaload, 1, 0, 0, 0, [], 0, 0) 92 38 := X_at (r := mi92) rfl rfl
theorem x92_39 {z : P0} : X z 92 39 = XI mT z (X z) (.invokevirtual 356, 3, 3, 49, 0, [101], 0, 0) 92 39 := X_at (r := mi92) rfl rfl
theorem x92_42 {z : P0} : X z 92 42 = XI mT z (X z) (.ifCond .ne 5, 3, 47, 0, 0, [], 0, 0) 92 42 := X_at (r := mi92) rfl rfl
theorem x92_45 {z : P0} : X z 92 45 = XI mT z (X z) (.iload_n 2, 1, 2, 0, 0, [], 0, 0) 92 45 := X_at (r := mi92) rfl rfl
theorem x92_46 {z : P0} : X z 92 46 = XI mT z (X z) (.ireturn, 1, 0, 0, 0, [], 0, 0) 92 46 := X_at (r := mi92) rfl rfl
theorem x92_47 {z : P0} : X z 92 47 = XI mT z (X z) (.iinc 2 1, 3, 2, 0, 0, [], nI 1, 0) 92 47 := X_at (r := mi92) rfl rfl
theorem x92_50 {z : P0} : X z 92 50 = XI mT z (X z) (.goto (-48), 3, 2, 0, 0, [], 0, 0) 92 50 := X_at (r := mi92) rfl rfl
theorem x92_53 {z : P0} : X z 92 53 = XI mT z (X z) (.iconst (-1), 1, 0, 0, 0, [], (-1), 0) 92 53 := X_at (r := mi92) rfl rfl
theorem x92_54 {z : P0} : X z 92 54 = XI mT z (X z) (.ireturn, 1, 0, 0, 0, [], 0, 0) 92 54 := X_at (r := mi92) rfl rfl
theorem x93_0 {z : P0} : X z 93 0 = XI mT z (X z) (.aload_n 0, 1, 0, 0, 0, [], 0, 0) 93 0 := X_at (r := mi93) rfl rfl
theorem x93_1 {z : P0} : X z 93 1 = XI mT z (X z) (.getfield 10, 3, 10, 0, 3, [87], 0, 0) 93 1 := X_at (r := mi93) rfl rfl
theorem x93_4 {z : P0} : X z 93 4 = XI mT z (X z) (.getfield 81, 3, 8, 0, 3, [94], 0, 0) 93 4 := X_at (r := mi93) rfl rfl
theorem x93_7 {z : P0} : X z 93 7 = XI mT z (X z) (.iload_n 1, 1, 1, 0, 0, [], 0, 0) 93 7 := X_at (r := mi93) rfl rfl
theorem x93_8 {z : P0} : X z 93 8 = XI mT z (X z) (.aaload, 1, 0, 0, 0, [], 0, 0) 93 8 := X_at (r := mi93) rfl rfl
theorem x93_9 {z : P0} : X z 93 9 = XI mT z (X z) (.astore_n 3, 1, 3, 0, 0, [], 0, 0) 93 9 := X_at (r := mi93) rfl rfl
theorem x93_10 {z : P0} : X z 93 10 = XI mT z (X z) (.iload_n 2, 1, 2, 0, 0, [], 0, 0) 93 10 := X_at (r := mi93) rfl rfl
theorem x93_11 {z : P0} : X z 93 11 = XI mT z (X z) (.tableswitch 98 0 7 #[45, 50, 55, 60, 65, 78, 83, 88], 45, 109, 0, 0, [56, 61, 66, 71, 76, 89, 94, 99], 0, 0) 93 11 := X_at (r := mi93) rfl rfl
theorem x93_56 {z : P0} : X z 93 56 = XI mT z (X z) (.aload_n 3, 1, 3, 0, 0, [], 0, 0) 93 56 := X_at (r := mi93) rfl rfl
theorem x93_57 {z : P0} : X z 93 57 = XI mT z (X z) (.getfield 238, 3, 7, 1, 0, [116], 0, 0) 93 57 := X_at (r := mi93) rfl rfl
theorem x93_60 {z : P0} : X z 93 60 = XI mT z (X z) (.ireturn, 1, 0, 0, 0, [], 0, 0) 93 60 := X_at (r := mi93) rfl rfl
theorem x93_61 {z : P0} : X z 93 61 = XI mT z (X z) (.aload_n 3, 1, 3, 0, 0, [], 0, 0) 93 61 := X_at (r := mi93) rfl rfl
theorem x93_62 {z : P0} : X z 93 62 = XI mT z (X z) (.getfield 139, 3, 7, 2, 0, [100], 0, 0) 93 62 := X_at (r := mi93) rfl rfl
theorem x93_65 {z : P0} : X z 93 65 = XI mT z (X z) (.ireturn, 1, 0, 0, 0, [], 0, 0) 93 65 := X_at (r := mi93) rfl rfl
theorem x93_66 {z : P0} : X z 93 66 = XI mT z (X z) (.aload_n 3, 1, 3, 0, 0, [], 0, 0) 93 66 := X_at (r := mi93) rfl rfl
theorem x93_67 {z : P0} : X z 93 67 = XI mT z (X z) (.getfield 360, 3, 7, 3, 0, [123], 0, 0) 93 67 := X_at (r := mi93) rfl rfl
theorem x93_70 {z : P0} : X z 93 70 = XI mT z (X z) (.ireturn, 1, 0, 0, 0, [], 0, 0) 93 70 := X_at (r := mi93) rfl rfl
theorem x93_71 {z : P0} : X z 93 71 = XI mT z (X z) (.aload_n 3, 1, 3, 0, 0, [], 0, 0) 93 71 := X_at (r := mi93) rfl rfl
theorem x93_72 {z : P0} : X z 93 72 = XI mT z (X z) (.getfield 147, 3, 7, 4, 0, [101], 0, 0) 93 72 := X_at (r := mi93) rfl rfl
theorem x93_75 {z : P0} : X z 93 75 = XI mT z (X z) (.ireturn, 1, 0, 0, 0, [], 0, 0) 93 75 := X_at (r := mi93) rfl rfl
theorem x93_76 {z : P0} : X z 93 76 = XI mT z (X z) (.aload_n 3, 1, 3, 0, 0, [], 0, 0) 93 76 := X_at (r := mi93) rfl rfl
theorem x93_77 {z : P0} : X z 93 77 = XI mT z (X z) (.getfield 150, 3, 7, 5, 1, [102], 0, 0) 93 77 := X_at (r := mi93) rfl rfl
theorem x93_80 {z : P0} : X z 93 80 = XI mT z (X z) (.ifCond .eq 7, 3, 87, 0, 0, [], 0, 0) 93 80 := X_at (r := mi93) rfl rfl
theorem x93_83 {z : P0} : X z 93 83 = XI mT z (X z) (.iconst 1, 1, 0, 0, 0, [], nI 1, 0) 93 83 := X_at (r := mi93) rfl rfl
theorem x93_84 {z : P0} : X z 93 84 = XI mT z (X z) (.goto 4, 3, 88, 0, 0, [], 0, 0) 93 84 := X_at (r := mi93) rfl rfl
theorem x93_87 {z : P0} : X z 93 87 = XI mT z (X z) (.iconst 0, 1, 0, 0, 0, [], nI 0, 0) 93 87 := X_at (r := mi93) rfl rfl
theorem x93_88 {z : P0} : X z 93 88 = XI mT z (X z) (.ireturn, 1, 0, 0, 0, [], 0, 0) 93 88 := X_at (r := mi93) rfl rfl
theorem x93_89 {z : P0} : X z 93 89 = XI mT z (X z) (.aload_n 3, 1, 3, 0, 0, [], 0, 0) 93 89 := X_at (r := mi93) rfl rfl
theorem x93_90 {z : P0} : X z 93 90 = XI mT z (X z) (.getfield 189, 3, 7, 6, 0, [108], 0, 0) 93 90 := X_at (r := mi93) rfl rfl
theorem x93_93 {z : P0} : X z 93 93 = XI mT z (X z) (.ireturn, 1, 0, 0, 0, [], 0, 0) 93 93 := X_at (r := mi93) rfl rfl
theorem x93_94 {z : P0} : X z 93 94 = XI mT z (X z) (.aload_n 3, 1, 3, 0, 0, [], 0, 0) 93 94 := X_at (r := mi93) rfl rfl
theorem x93_95 {z : P0} : X z 93 95 = XI mT z (X z) (.getfield 192, 3, 7, 7, 0, [109], 0, 0) 93 95 := X_at (r := mi93) rfl rfl
theorem x93_98 {z : P0} : X z 93 98 = XI mT z (X z) (.ireturn, 1, 0, 0, 0, [], 0, 0) 93 98 := X_at (r := mi93) rfl rfl
theorem x93_99 {z : P0} : X z 93 99 = XI mT z (X z) (.aload_n 0, 1, 0, 0, 0, [], 0, 0) 93 99 := X_at (r := mi93) rfl rfl
theorem x93_100 {z : P0} : X z 93 100 = XI mT z (X z) (.getfield 41, 3, 10, 3, 3, [90], 0, 0) 93 100 := X_at (r := mi93) rfl rfl
theorem x93_103 {z : P0} : X z 93 103 = XI mT z (X z) (.getfield 363, 3, 6, 3, 3, [124], 0, 0) 93 103 := X_at (r := mi93) rfl rfl
theorem x93_106 {z : P0} : X z 93 106 = XI mT z (X z) (.iload_n 1, 1, 1, 0, 0, [], 0, 0) 93 106 := X_at (r := mi93) rfl rfl
theorem x93_107 {z : P0} : X z 93 107 = XI mT z (X z) (.iaload, 1, 0, 0, 0, [], 0, 0) 93 107 := X_at (r := mi93) rfl rfl
theorem x93_108 {z : P0} : X z 93 108 = XI mT z (X z) (.ireturn, 1, 0, 0, 0, [], 0, 0) 93 108 := X_at (r := mi93) rfl rfl
theorem x93_109 {z : P0} : X z 93 109 = XI mT z (X z) (.aload_n 0, 1, 0, 0, 0, [], 0, 0) 93 109 := X_at (r := mi93) rfl rfl
theorem x93_110 {z : P0} : X z 93 110 = XI mT z (X z) (.getfield 41, 3, 10, 3, 3, [90], 0, 0) 93 110 := X_at (r := mi93) rfl rfl
theorem x93_113 {z : P0} : X z 93 113 = XI mT z (X z) (.getfield 183, 3, 6, 2, 3, [106], 0, 0) 93 113 := X_at (r := mi93) rfl rfl
theorem x93_116 {z : P0} : X z 93 116 = XI mT z (X z) (.iload_n 1, 1, 1, 0, 0, [], 0, 0) 93 116 := X_at (r := mi93) rfl rfl
theorem x93_117 {z : P0} : X z 93 117 = XI mT z (X z) (.iaload, 1, 0, 0, 0, [], 0, 0) 93 117 := X_at (r := mi93) rfl rfl
theorem x93_118 {z : P0} : X z 93 118 = XI mT z (X z) (.ireturn, 1, 0, 0, 0, [], 0, 0) 93 118 := X_at (r := mi93) rfl rfl
theorem x94_0 {z : P0} : X z 94 0 = XI mT z (X z) (.aload_n 0, 1, 0, 0, 0, [], 0, 0) 94 0 := X_at (r := mi94) rfl rfl
theorem x94_1 {z : P0} : X z 94 1 = XI mT z (X z) (.getfield 10, 3, 10, 0, 3, [87], 0, 0) 94 1 := X_at (r := mi94) rfl rfl
theorem x94_4 {z : P0} : X z 94 4 = XI mT z (X z) (.getfield 101, 3, 8, 2, 3, [97], 0, 0) 94 4 := X_at (r := mi94) rfl rfl
theorem x94_7 {z : P0} : X z 94 7 = XI mT z (X z) (.iload_n 1, 1, 1, 0, 0, [], 0, 0) 94 7 := X_at (r := mi94) rfl rfl
theorem x94_8 {z : P0} : X z 94 8 = XI mT z (X z) (.aaload, 1, 0, 0, 0, [], 0, 0) 94 8 := X_at (r := mi94) rfl rfl
theorem x94_9 {z : P0} : X z 94 9 = XI mT z (X z) (.astore_n 3, 1, 3, 0, 0, [], 0, 0) 94 9 := X_at (r := mi94) rfl rfl
theorem x94_10 {z : P0} : X z 94 10 = XI mT z (X z) (.iload_n 2, 1, 2, 0, 0, [], 0, 0) 94 10 := X_at (r := mi94) rfl rfl
theorem x94_11 {z : P0} : X z 94 11 = XI mT z (X z) (.tableswitch 52 0 2 #[25, 30, 43], 25, 63, 0, 0, [36, 41, 54], 0, 0) 94 11 := X_at (r := mi94) rfl rfl
theorem x94_36 {z : P0} : X z 94 36 = XI mT z (X z) (.aload_n 3, 1, 3, 0, 0, [], 0, 0) 94 36 := X_at (r := mi94) rfl rfl
theorem x94_37 {z : P0} : X z 94 37 = XI mT z (X z) (.getfield 366, 3, 9, 1, 0, [125], 0, 0) 94 37 := X_at (r := mi94) rfl rfl
theorem x94_40 {z : P0} : X z 94 40 = XI mT z (X z) (.ireturn, 1, 0, 0, 0, [], 0, 0) 94 40 := X_at (r := mi94) rfl rfl
theorem x94_41 {z : P0} : X z 94 41 = XI mT z (X z) (.aload_n 3, 1, 3, 0, 0, [], 0, 0) 94 41 := X_at (r := mi94) rfl rfl
theorem x94_42 {z : P0} : X z 94 42 = XI mT z (X z) (.getfield 367, 3, 9, 2, 1, [126], 0, 0) 94 42 := X_at (r := mi94) rfl rfl
theorem x94_45 {z : P0} : X z 94 45 = XI mT z (X z) (.ifCond .eq 7, 3, 52, 0, 0, [], 0, 0) 94 45 := X_at (r := mi94) rfl rfl
theorem x94_48 {z : P0} : X z 94 48 = XI mT z (X z) (.iconst 1, 1, 0, 0, 0, [], nI 1, 0) 94 48 := X_at (r := mi94) rfl rfl
theorem x94_49 {z : P0} : X z 94 49 = XI mT z (X z) (.goto 4, 3, 53, 0, 0, [], 0, 0) 94 49 := X_at (r := mi94) rfl rfl
theorem x94_52 {z : P0} : X z 94 52 = XI mT z (X z) (.iconst 0, 1, 0, 0, 0, [], nI 0, 0) 94 52 := X_at (r := mi94) rfl rfl
theorem x94_53 {z : P0} : X z 94 53 = XI mT z (X z) (.ireturn, 1, 0, 0, 0, [], 0, 0) 94 53 := X_at (r := mi94) rfl rfl
theorem x94_54 {z : P0} : X z 94 54 = XI mT z (X z) (.aload_n 0, 1, 0, 0, 0, [], 0, 0) 94 54 := X_at (r := mi94) rfl rfl
theorem x94_55 {z : P0} : X z 94 55 = XI mT z (X z) (.getfield 10, 3, 10, 0, 3, [87], 0, 0) 94 55 := X_at (r := mi94) rfl rfl
theorem x94_58 {z : P0} : X z 94 58 = XI mT z (X z) (.iload_n 1, 1, 1, 0, 0, [], 0, 0) 94 58 := X_at (r := mi94) rfl rfl
theorem x94_59 {z : P0} : X z 94 59 = XI mT z (X z) (.invokevirtual 370, 3, 1, 51, 0, [102], 0, 0) 94 59 := X_at (r := mi94) rfl rfl
theorem x94_62 {z : P0} : X z 94 62 = XI mT z (X z) (.ireturn, 1, 0, 0, 0, [], 0, 0) 94 62 := X_at (r := mi94) rfl rfl
theorem x94_63 {z : P0} : X z 94 63 = XI mT z (X z) (.aload_n 3, 1, 3, 0, 0, [], 0, 0) 94 63 := X_at (r := mi94) rfl rfl
theorem x94_64 {z : P0} : X z 94 64 = XI mT z (X z) (.invokevirtual 373, 3, 0, 56, 0, [103], 0, 0) 94 64 := X_at (r := mi94) rfl rfl
theorem x94_67 {z : P0} : X z 94 67 = XI mT z (X z) (.invokevirtual 377, 3, 0, 185, 0, [104], 0, 0) 94 67 := X_at (r := mi94) rfl rfl
theorem x94_70 {z : P0} : X z 94 70 = XI mT z (X z) (.ireturn, 1, 0, 0, 0, [], 0, 0) 94 70 := X_at (r := mi94) rfl rfl
theorem x95_0 {z : P0} : X z 95 0 = XI mT z (X z) (.aload_n 0, 1, 0, 0, 0, [], 0, 0) 95 0 := X_at (r := mi95) rfl rfl
theorem x95_1 {z : P0} : X z 95 1 = XI mT z (X z) (.getfield 41, 3, 10, 3, 3, [90], 0, 0) 95 1 := X_at (r := mi95) rfl rfl
theorem x95_4 {z : P0} : X z 95 4 = XI mT z (X z) (.getfield 264, 3, 6, 0, 3, [118], 0, 0) 95 4 := X_at (r := mi95) rfl rfl
theorem x95_7 {z : P0} : X z 95 7 = XI mT z (X z) (.iload_n 1, 1, 1, 0, 0, [], 0, 0) 95 7 := X_at (r := mi95) rfl rfl
theorem x95_8 {z : P0} : X z 95 8 = XI mT z (X z) (.aaload, 1, 0, 0, 0, [], 0, 0) 95 8 := X_at (r := mi95) rfl rfl
theorem x95_9 {z : P0} : X z 95 9 = XI mT z (X z) (.astore_n 3, 1, 3, 0, 0, [], 0, 0) 95 9 := X_at (r := mi95) rfl rfl
theorem x95_10 {z : P0} : X z 95 10 = XI mT z (X z) (.iload_n 2, 1, 2, 0, 0, [], 0, 0) 95 10 := X_at (r := mi95) rfl rfl
theorem x95_11 {z : P0} : X z 95 11 = XI mT z (X z) (.tableswitch 88 0 6 #[41, 48, 53, 58, 63, 68, 73], 41, 99, 0, 0, [52, 59, 64, 69, 74, 79, 84], 0, 0) 95 11 := X_at (r := mi95) rfl rfl
theorem x95_52 {z : P0} : X z 95 52 = XI mT z (X z) (.aload_n 3, 1, 3, 0, 0, [], 0, 0) 95 52 := X_at (r := mi95) rfl rfl
theorem x95_53 {z : P0} : X z 95 53 = XI mT z (X z) (.getfield 381, 3, 2, 0, 3, [127], 0, 0) 95 53 := X_at (r := mi95) rfl rfl
theorem x95_56 {z : P0} : X z 95 56 = XI mT z (X z) (.iconst 0, 1, 0, 0, 0, [], nI 0, 0) 95 56 := X_at (r := mi95) rfl rfl
theorem x95_57 {z : P0} : X z 95 57 = XI mT z (X z) (.iaload, 1, 0, 0, 0, [], 0, 0) 95 57 := X_at (r := mi95) rfl rfl
theorem x95_58 {z : P0} : X z 95 58 = XI mT z (X z) (.ireturn, 1, 0, 0, 0, [], 0, 0) 95 58 := X_at (r := mi95) rfl rfl
theorem x95_59 {z : P0} : X z 95 59 = XI mT z (X z) (.aload_n 3, 1, 3, 0, 0, [], 0, 0) 95 59 := X_at (r := mi95) rfl rfl
theorem x95_60 {z : P0} : X z 95 60 = XI mT z (X z) (.getfield 383, 3, 2, 1, 0, [128], 0, 0) 95 60 := X_at (r := mi95) rfl rfl
theorem x95_63 {z : P0} : X z 95 63 = XI mT z (X z) (.ireturn, 1, 0, 0, 0, [], 0, 0) 95 63 := X_at (r := mi95) rfl rfl
theorem x95_64 {z : P0} : X z 95 64 = XI mT z (X z) (.aload_n 3, 1, 3, 0, 0, [], 0, 0) 95 64 := X_at (r := mi95) rfl rfl
theorem x95_65 {z : P0} : X z 95 65 = XI mT z (X z) (.getfield 384, 3, 2, 2, 0, [129], 0, 0) 95 65 := X_at (r := mi95) rfl rfl
theorem x95_68 {z : P0} : X z 95 68 = XI mT z (X z) (.ireturn, 1, 0, 0, 0, [], 0, 0) 95 68 := X_at (r := mi95) rfl rfl
theorem x95_69 {z : P0} : X z 95 69 = XI mT z (X z) (.aload_n 3, 1, 3, 0, 0, [], 0, 0) 95 69 := X_at (r := mi95) rfl rfl
theorem x95_70 {z : P0} : X z 95 70 = XI mT z (X z) (.getfield 268, 3, 2, 3, 0, [119], 0, 0) 95 70 := X_at (r := mi95) rfl rfl
theorem x95_73 {z : P0} : X z 95 73 = XI mT z (X z) (.ireturn, 1, 0, 0, 0, [], 0, 0) 95 73 := X_at (r := mi95) rfl rfl
theorem x95_74 {z : P0} : X z 95 74 = XI mT z (X z) (.aload_n 3, 1, 3, 0, 0, [], 0, 0) 95 74 := X_at (r := mi95) rfl rfl
theorem x95_75 {z : P0} : X z 95 75 = XI mT z (X z) (.getfield 385, 3, 2, 4, 0, [130], 0, 0) 95 75 := X_at (r := mi95) rfl rfl
theorem x95_78 {z : P0} : X z 95 78 = XI mT z (X z) (.ireturn, 1, 0, 0, 0, [], 0, 0) 95 78 := X_at (r := mi95) rfl rfl
theorem x95_79 {z : P0} : X z 95 79 = XI mT z (X z) (.aload_n 3, 1, 3, 0, 0, [], 0, 0) 95 79 := X_at (r := mi95) rfl rfl
theorem x95_80 {z : P0} : X z 95 80 = XI mT z (X z) (.getfield 388, 3, 2, 5, 0, [131], 0, 0) 95 80 := X_at (r := mi95) rfl rfl
theorem x95_83 {z : P0} : X z 95 83 = XI mT z (X z) (.ireturn, 1, 0, 0, 0, [], 0, 0) 95 83 := X_at (r := mi95) rfl rfl
theorem x95_84 {z : P0} : X z 95 84 = XI mT z (X z) (.aload_n 3, 1, 3, 0, 0, [], 0, 0) 95 84 := X_at (r := mi95) rfl rfl
theorem x95_85 {z : P0} : X z 95 85 = XI mT z (X z) (.getfield 388, 3, 2, 5, 0, [131], 0, 0) 95 85 := X_at (r := mi95) rfl rfl
theorem x95_88 {z : P0} : X z 95 88 = XI mT z (X z) (.aload_n 0, 1, 0, 0, 0, [], 0, 0) 95 88 := X_at (r := mi95) rfl rfl
theorem x95_89 {z : P0} : X z 95 89 = XI mT z (X z) (.getfield 10, 3, 10, 0, 3, [87], 0, 0) 95 89 := X_at (r := mi95) rfl rfl
theorem x95_92 {z : P0} : X z 95 92 = XI mT z (X z) (.getfield 168, 3, 8, 5, 3, [103], 0, 0) 95 92 := X_at (r := mi95) rfl rfl
theorem x95_95 {z : P0} : X z 95 95 = XI mT z (X z) (.iconst 5, 1, 0, 0, 0, [], nI 5, 0) 95 95 := X_at (r := mi95) rfl rfl
theorem x95_96 {z : P0} : X z 95 96 = XI mT z (X z) (.iaload, 1, 0, 0, 0, [], 0, 0) 95 96 := X_at (r := mi95) rfl rfl
theorem x95_97 {z : P0} : X z 95 97 = XI mT z (X z) (.imul, 1, 0, 0, 0, [], 0, 0) 95 97 := X_at (r := mi95) rfl rfl
theorem x95_98 {z : P0} : X z 95 98 = XI mT z (X z) (.ireturn, 1, 0, 0, 0, [], 0, 0) 95 98 := X_at (r := mi95) rfl rfl
theorem x95_99 {z : P0} : X z 95 99 = XI mT z (X z) (.aload_n 3, 1, 3, 0, 0, [], 0, 0) 95 99 := X_at (r := mi95) rfl rfl
theorem x95_100 {z : P0} : X z 95 100 = XI mT z (X z) (.getfield 388, 3, 2, 5, 0, [131], 0, 0) 95 100 := X_at (r := mi95) rfl rfl
theorem x95_103 {z : P0} : X z 95 103 = XI mT z (X z) (.aload_n 0, 1, 0, 0, 0, [], 0, 0) 95 103 := X_at (r := mi95) rfl rfl
theorem x95_104 {z : P0} : X z 95 104 = XI mT z (X z) (.getfield 10, 3, 10, 0, 3, [87], 0, 0) 95 104 := X_at (r := mi95) rfl rfl
theorem x95_107 {z : P0} : X z 95 107 = XI mT z (X z) (.getfield 168, 3, 8, 5, 3, [103], 0, 0) 95 107 := X_at (r := mi95) rfl rfl
theorem x95_110 {z : P0} : X z 95 110 = XI mT z (X z) (.iconst 4, 1, 0, 0, 0, [], nI 4, 0) 95 110 := X_at (r := mi95) rfl rfl
theorem x95_111 {z : P0} : X z 95 111 = XI mT z (X z) (.iaload, 1, 0, 0, 0, [], 0, 0) 95 111 := X_at (r := mi95) rfl rfl
theorem x95_112 {z : P0} : X z 95 112 = XI mT z (X z) (.if_icmp .gt 7, 3, 119, 0, 0, [], 0, 0) 95 112 := X_at (r := mi95) rfl rfl
theorem x95_115 {z : P0} : X z 95 115 = XI mT z (X z) (.iconst 1, 1, 0, 0, 0, [], nI 1, 0) 95 115 := X_at (r := mi95) rfl rfl
theorem x95_116 {z : P0} : X z 95 116 = XI mT z (X z) (.goto 4, 3, 120, 0, 0, [], 0, 0) 95 116 := X_at (r := mi95) rfl rfl
theorem x95_119 {z : P0} : X z 95 119 = XI mT z (X z) (.iconst 0, 1, 0, 0, 0, [], nI 0, 0) 95 119 := X_at (r := mi95) rfl rfl
theorem x95_120 {z : P0} : X z 95 120 = XI mT z (X z) (.ireturn, 1, 0, 0, 0, [], 0, 0) 95 120 := X_at (r := mi95) rfl rfl
theorem x96_0 {z : P0} : X z 96 0 = XI mT z (X z) (.iload_n 1, 1, 1, 0, 0, [], 0, 0) 96 0 := X_at (r := mi96) rfl rfl
theorem x96_1 {z : P0} : X z 96 1 = XI mT z (X z) (.tableswitch 189 0 13 #[71, 79, 87, 98, 106, 114, 122, 130, 138, 146, 154, 162, 170, 178], 71, 190, 0, 0, [72, 80, 88, 99, 107, 115, 123, 131, 139, 147, 155, 163, 171, 179], 0, 0) 96 1 := X_at (r := mi96) rfl rfl
theorem x96_72 {z : P0} : X z 96 72 = XI mT z (X z) (.aload_n 0, 1, 0, 0, 0, [], 0, 0) 96 72 := X_at (r := mi96) rfl rfl
theorem x96_73 {z : P0} : X z 96 73 = XI mT z (X z) (.getfield 10, 3, 10, 0, 3, [87], 0, 0) 96 73 := X_at (r := mi96) rfl rfl
theorem x96_76 {z : P0} : X z 96 76 = XI mT z (X z) (.getfield 68, 3, 8, 1, 0, [93], 0, 0) 96 76 := X_at (r := mi96) rfl rfl
theorem x96_79 {z : P0} : X z 96 79 = XI mT z (X z) (.ireturn, 1, 0, 0, 0, [], 0, 0) 96 79 := X_at (r := mi96) rfl rfl
theorem x96_80 {z : P0} : X z 96 80 = XI mT z (X z) (.aload_n 0, 1, 0, 0, 0, [], 0, 0) 96 80 := X_at (r := mi96) rfl rfl
theorem x96_81 {z : P0} : X z 96 81 = XI mT z (X z) (.getfield 10, 3, 10, 0, 3, [87], 0, 0) 96 81 := X_at (r := mi96) rfl rfl
theorem x96_84 {z : P0} : X z 96 84 = XI mT z (X z) (.getfield 96, 3, 8, 3, 0, [96], 0, 0) 96 84 := X_at (r := mi96) rfl rfl
theorem x96_87 {z : P0} : X z 96 87 = XI mT z (X z) (.ireturn, 1, 0, 0, 0, [], 0, 0) 96 87 := X_at (r := mi96) rfl rfl
theorem x96_88 {z : P0} : X z 96 88 = XI mT z (X z) (.aload_n 0, 1, 0, 0, 0, [], 0, 0) 96 88 := X_at (r := mi96) rfl rfl
theorem x96_89 {z : P0} : X z 96 89 = XI mT z (X z) (.getfield 10, 3, 10, 0, 3, [87], 0, 0) 96 89 := X_at (r := mi96) rfl rfl
theorem x96_92 {z : P0} : X z 96 92 = XI mT z (X z) (.getfield 112, 3, 8, 4, 3, [98], 0, 0) 96 92 := X_at (r := mi96) rfl rfl
theorem x96_95 {z : P0} : X z 96 95 = XI mT z (X z) (.invokevirtual 125, 3, 0, 29, 0, [71], 0, 0) 96 95 := X_at (r := mi96) rfl rfl
theorem x96_98 {z : P0} : X z 96 98 = XI mT z (X z) (.ireturn, 1, 0, 0, 0, [], 0, 0) 96 98 := X_at (r := mi96) rfl rfl
theorem x96_99 {z : P0} : X z 96 99 = XI mT z (X z) (.aload_n 0, 1, 0, 0, 0, [], 0, 0) 96 99 := X_at (r := mi96) rfl rfl
theorem x96_100 {z : P0} : X z 96 100 = XI mT z (X z) (.getfield 10, 3, 10, 0, 3, [87], 0, 0) 96 100 := X_at (r := mi96) rfl rfl
theorem x96_103 {z : P0} : X z 96 103 = XI mT z (X z) (.getfield 186, 3, 8, 6, 0, [107], 0, 0) 96 103 := X_at (r := mi96) rfl rfl
theorem x96_106 {z : P0} : X z 96 106 = XI mT z (X z) (.ireturn, 1, 0, 0, 0, [], 0, 0) 96 106 := X_at (r := mi96) rfl rfl
theorem x96_107 {z : P0} : X z 96 107 = XI mT z (X z) (.aload_n 0, 1, 0, 0, 0, [], 0, 0) 96 107 := X_at (r := mi96) rfl rfl
theorem x96_108 {z : P0} : X z 96 108 = XI mT z (X z) (.getfield 41, 3, 10, 3, 3, [90], 0, 0) 96 108 := X_at (r := mi96) rfl rfl
theorem x96_111 {z : P0} : X z 96 111 = XI mT z (X z) (.getfield 391, 3, 6, 1, 0, [132], 0, 0) 96 111 := X_at (r := mi96) rfl rfl
theorem x96_114 {z : P0} : X z 96 114 = XI mT z (X z) (.ireturn, 1, 0, 0, 0, [], 0, 0) 96 114 := X_at (r := mi96) rfl rfl
theorem x96_115 {z : P0} : X z 96 115 = XI mT z (X z) (.aload_n 0, 1, 0, 0, 0, [], 0, 0) 96 115 := X_at (r := mi96) rfl rfl
theorem x96_116 {z : P0} : X z 96 116 = XI mT z (X z) (.getfield 41, 3, 10, 3, 3, [90], 0, 0) 96 116 := X_at (r := mi96) rfl rfl
theorem x96_119 {z : P0} : X z 96 119 = XI mT z (X z) (.getfield 178, 3, 6, 8, 0, [105], 0, 0) 96 119 := X_at (r := mi96) rfl rfl
theorem x96_122 {z : P0} : X z 96 122 = XI mT z (X z) (.ireturn, 1, 0, 0, 0, [], 0, 0) 96 122 := X_at (r := mi96) rfl rfl
theorem x96_123 {z : P0} : X z 96 123 = XI mT z (X z) (.aload_n 0, 1, 0, 0, 0, [], 0, 0) 96 123 := X_at (r := mi96) rfl rfl
theorem x96_124 {z : P0} : X z 96 124 = XI mT z (X z) (.getfield 41, 3, 10, 3, 3, [90], 0, 0) 96 124 := X_at (r := mi96) rfl rfl
theorem x96_127 {z : P0} : X z 96 127 = XI mT z (X z) (.getfield 300, 3, 6, 9, 0, [122], 0, 0) 96 127 := X_at (r := mi96) rfl rfl
theorem x96_130 {z : P0} : X z 96 130 = XI mT z (X z) (.ireturn, 1, 0, 0, 0, [], 0, 0) 96 130 := X_at (r := mi96) rfl rfl
theorem x96_131 {z : P0} : X z 96 131 = XI mT z (X z) (.aload_n 0, 1, 0, 0, 0, [], 0, 0) 96 131 := X_at (r := mi96) rfl rfl
theorem x96_132 {z : P0} : X z 96 132 = XI mT z (X z) (.getfield 41, 3, 10, 3, 3, [90], 0, 0) 96 132 := X_at (r := mi96) rfl rfl
theorem x96_135 {z : P0} : X z 96 135 = XI mT z (X z) (.getfield 201, 3, 6, 10, 0, [112], 0, 0) 96 135 := X_at (r := mi96) rfl rfl
theorem x96_138 {z : P0} : X z 96 138 = XI mT z (X z) (.ireturn, 1, 0, 0, 0, [], 0, 0) 96 138 := X_at (r := mi96) rfl rfl
theorem x96_139 {z : P0} : X z 96 139 = XI mT z (X z) (.aload_n 0, 1, 0, 0, 0, [], 0, 0) 96 139 := X_at (r := mi96) rfl rfl
theorem x96_140 {z : P0} : X z 96 140 = XI mT z (X z) (.getfield 41, 3, 10, 3, 3, [90], 0, 0) 96 140 := X_at (r := mi96) rfl rfl
theorem x96_143 {z : P0} : X z 96 143 = XI mT z (X z) (.getfield 207, 3, 6, 11, 0, [114], 0, 0) 96 143 := X_at (r := mi96) rfl rfl
theorem x96_146 {z : P0} : X z 96 146 = XI mT z (X z) (.ireturn, 1, 0, 0, 0, [], 0, 0) 96 146 := X_at (r := mi96) rfl rfl
theorem x96_147 {z : P0} : X z 96 147 = XI mT z (X z) (.aload_n 0, 1, 0, 0, 0, [], 0, 0) 96 147 := X_at (r := mi96) rfl rfl
theorem x96_148 {z : P0} : X z 96 148 = XI mT z (X z) (.getfield 10, 3, 10, 0, 3, [87], 0, 0) 96 148 := X_at (r := mi96) rfl rfl
theorem x96_151 {z : P0} : X z 96 151 = XI mT z (X z) (.getfield 195, 3, 8, 7, 0, [110], 0, 0) 96 151 := X_at (r := mi96) rfl rfl
theorem x96_154 {z : P0} : X z 96 154 = XI mT z (X z) (.ireturn, 1, 0, 0, 0, [], 0, 0) 96 154 := X_at (r := mi96) rfl rfl
theorem x96_155 {z : P0} : X z 96 155 = XI mT z (X z) (.aload_n 0, 1, 0, 0, 0, [], 0, 0) 96 155 := X_at (r := mi96) rfl rfl
theorem x96_156 {z : P0} : X z 96 156 = XI mT z (X z) (.getfield 10, 3, 10, 0, 3, [87], 0, 0) 96 156 := X_at (r := mi96) rfl rfl
theorem x96_159 {z : P0} : X z 96 159 = XI mT z (X z) (.getfield 198, 3, 8, 8, 0, [111], 0, 0) 96 159 := X_at (r := mi96) rfl rfl
theorem x96_162 {z : P0} : X z 96 162 = XI mT z (X z) (.ireturn, 1, 0, 0, 0, [], 0, 0) 96 162 := X_at (r := mi96) rfl rfl
theorem x96_163 {z : P0} : X z 96 163 = XI mT z (X z) (.aload_n 0, 1, 0, 0, 0, [], 0, 0) 96 163 := X_at (r := mi96) rfl rfl
theorem x96_164 {z : P0} : X z 96 164 = XI mT z (X z) (.getfield 10, 3, 10, 0, 3, [87], 0, 0) 96 164 := X_at (r := mi96) rfl rfl
theorem x96_167 {z : P0} : X z 96 167 = XI mT z (X z) (.getfield 204, 3, 8, 9, 0, [113], 0, 0) 96 167 := X_at (r := mi96) rfl rfl
theorem x96_170 {z : P0} : X z 96 170 = XI mT z (X z) (.ireturn, 1, 0, 0, 0, [], 0, 0) 96 170 := X_at (r := mi96) rfl rfl
theorem x96_171 {z : P0} : X z 96 171 = XI mT z (X z) (.aload_n 0, 1, 0, 0, 0, [], 0, 0) 96 171 := X_at (r := mi96) rfl rfl
theorem x96_172 {z : P0} : X z 96 172 = XI mT z (X z) (.getfield 10, 3, 10, 0, 3, [87], 0, 0) 96 172 := X_at (r := mi96) rfl rfl
theorem x96_175 {z : P0} : X z 96 175 = XI mT z (X z) (.invokevirtual 154, 3, 0, 50, 0, [74], 0, 0) 96 175 := X_at (r := mi96) rfl rfl
theorem x96_178 {z : P0} : X z 96 178 = XI mT z (X z) (.ireturn, 1, 0, 0, 0, [], 0, 0) 96 178 := X_at (r := mi96) rfl rfl
theorem x96_179 {z : P0} : X z 96 179 = XI mT z (X z) (.aload_n 0, 1, 0, 0, 0, [], 0, 0) 96 179 := X_at (r := mi96) rfl rfl
theorem x96_180 {z : P0} : X z 96 180 = XI mT z (X z) (.getfield 10, 3, 10, 0, 3, [87], 0, 0) 96 180 := X_at (r := mi96) rfl rfl
theorem x96_183 {z : P0} : X z 96 183 = XI mT z (X z) (.getfield 112, 3, 8, 4, 3, [98], 0, 0) 96 183 := X_at (r := mi96) rfl rfl
theorem x96_186 {z : P0} : X z 96 186 = XI mT z (X z) (.invokevirtual 394, 3, 0, 30, 0, [105], 0, 0) 96 186 := X_at (r := mi96) rfl rfl
theorem x96_189 {z : P0} : X z 96 189 = XI mT z (X z) (.ireturn, 1, 0, 0, 0, [], 0, 0) 96 189 := X_at (r := mi96) rfl rfl
theorem x96_190 {z : P0} : X z 96 190 = XI mT z (X z) (.aload_n 0, 1, 0, 0, 0, [], 0, 0) 96 190 := X_at (r := mi96) rfl rfl
theorem x96_191 {z : P0} : X z 96 191 = XI mT z (X z) (.getfield 19, 3, 10, 1, 3, [88], 0, 0) 96 191 := X_at (r := mi96) rfl rfl
theorem x96_194 {z : P0} : X z 96 194 = XI mT z (X z) (.getfield 224, 3, 3, 1, 0, [115], 0, 0) 96 194 := X_at (r := mi96) rfl rfl
theorem x96_197 {z : P0} : X z 96 197 = XI mT z (X z) (.ireturn, 1, 0, 0, 0, [], 0, 0) 96 197 := X_at (r := mi96) rfl rfl
theorem x97_0 {z : P0} : X z 97 0 = XI mT z (X z) (.aload_n 0, 1, 0, 0, 0, [], 0, 0) 97 0 := X_at (r := mi97) rfl rfl
theorem x97_1 {z : P0} : X z 97 1 = XI mT z (X z) (.getfield 10, 3, 10, 0, 3, [87], 0, 0) 97 1 := X_at (r := mi97) rfl rfl
theorem x97_4 {z : P0} : X z 97 4 = XI mT z (X z) (.getfield 68, 3, 8, 1, 0, [93], 0, 0) 97 4 := X_at (r := mi97) rfl rfl
theorem x97_7 {z : P0} : X z 97 7 = XI mT z (X z) (.ifCond .ne 5, 3, 12, 0, 0, [], 0, 0) 97 7 := X_at (r := mi97) rfl rfl
theorem x97_10 {z : P0} : X z 97 10 = XI mT z (X z) (.dconst 0, 1, 0, 0, 0, [], 0, 0) 97 10 := X_at (r := mi97) rfl rfl
theorem x97_11 {z : P0} : X z 97 11 = XI mT z (X z) (.dreturn, 1, 0, 0, 0, [], 0, 0) 97 11 := X_at (r := mi97) rfl rfl
theorem x97_12 {z : P0} : X z 97 12 = XI mT z (X z) (.aload_n 0, 1, 0, 0, 0, [], 0, 0) 97 12 := X_at (r := mi97) rfl rfl
theorem x97_13 {z : P0} : X z 97 13 = XI mT z (X z) (.getfield 41, 3, 10, 3, 3, [90], 0, 0) 97 13 := X_at (r := mi97) rfl rfl
theorem x97_16 {z : P0} : X z 97 16 = XI mT z (X z) (.getfield 300, 3, 6, 9, 0, [122], 0, 0) 97 16 := X_at (r := mi97) rfl rfl
theorem x97_19 {z : P0} : X z 97 19 = XI mT z (X z) (.i2d, 1, 0, 0, 0, [], 0, 0) 97 19 := X_at (r := mi97) rfl rfl
theorem x97_20 {z : P0} : X z 97 20 = XI mT z (X z) (.aload_n 0, 1, 0, 0, 0, [], 0, 0) 97 20 := X_at (r := mi97) rfl rfl
theorem x97_21 {z : P0} : X z 97 21 = XI mT z (X z) (.getfield 10, 3, 10, 0, 3, [87], 0, 0) 97 21 := X_at (r := mi97) rfl rfl
theorem x97_24 {z : P0} : X z 97 24 = XI mT z (X z) (.getfield 68, 3, 8, 1, 0, [93], 0, 0) 97 24 := X_at (r := mi97) rfl rfl
theorem x97_27 {z : P0} : X z 97 27 = XI mT z (X z) (.i2d, 1, 0, 0, 0, [], 0, 0) 97 27 := X_at (r := mi97) rfl rfl
theorem x97_28 {z : P0} : X z 97 28 = XI mT z (X z) (.ddiv, 1, 0, 0, 0, [], 0, 0) 97 28 := X_at (r := mi97) rfl rfl
theorem x97_29 {z : P0} : X z 97 29 = XI mT z (X z) (.dreturn, 1, 0, 0, 0, [], 0, 0) 97 29 := X_at (r := mi97) rfl rfl
theorem x98_0 {z : P0} : X z 98 0 = XI mT z (X z) (.dload_n 0, 1, 0, 0, 0, [], 0, 0) 98 0 := X_at (r := mi98) rfl rfl
theorem x98_1 {z : P0} : X z 98 1 = XI mT z (X z) (.dconst 0, 1, 0, 0, 0, [], 0, 0) 98 1 := X_at (r := mi98) rfl rfl
theorem x98_2 {z : P0} : X z 98 2 = XI mT z (X z) (.dcmp .g, 1, 0, 0, 0, [], 0, 0) 98 2 := X_at (r := mi98) rfl rfl
theorem x98_3 {z : P0} : X z 98 3 = XI mT z (X z) (.ifCond .gt 5, 3, 8, 0, 0, [], 0, 0) 98 3 := X_at (r := mi98) rfl rfl
theorem x98_6 {z : P0} : X z 98 6 = XI mT z (X z) (.lconst 0, 1, 0, 0, 0, [], 0, lN 0) 98 6 := X_at (r := mi98) rfl rfl
theorem x98_7 {z : P0} : X z 98 7 = XI mT z (X z) (.lreturn, 1, 0, 0, 0, [], 0, 0) 98 7 := X_at (r := mi98) rfl rfl
theorem x98_8 {z : P0} : X z 98 8 = XI mT z (X z) (.dload_n 0, 1, 0, 0, 0, [], 0, 0) 98 8 := X_at (r := mi98) rfl rfl
theorem x98_9 {z : P0} : X z 98 9 = XI mT z (X z) (.dstore_n 2, 1, 2, 0, 0, [], 0, 0) 98 9 := X_at (r := mi98) rfl rfl
theorem x98_10 {z : P0} : X z 98 10 = XI mT z (X z) (.ldc2_w 397, 3, 0, 0, 0, [616], 0, lN 1023) 98 10 := X_at (r := mi98) rfl rfl
theorem x98_13 {z : P0} : X z 98 13 = XI mT z (X z) (.lstore 4, 2, 4, 0, 0, [], 0, 0) 98 13 := X_at (r := mi98) rfl rfl
theorem x98_15 {z : P0} : X z 98 15 = XI mT z (X z) (.iconst 1, 1, 0, 0, 0, [], nI 1, 0) 98 15 := X_at (r := mi98) rfl rfl
theorem x98_16 {z : P0} : X z 98 16 = XI mT z (X z) (.istore 6, 2, 6, 0, 0, [], 0, 0) 98 16 := X_at (r := mi98) rfl rfl
theorem x98_18 {z : P0} : X z 98 18 = XI mT z (X z) (.iload 6, 2, 6, 0, 0, [], 0, 0) 98 18 := X_at (r := mi98) rfl rfl
theorem x98_20 {z : P0} : X z 98 20 = XI mT z (X z) (.sipush 1023, 3, 0, 0, 0, [], nI 1023, 0) 98 20 := X_at (r := mi98) rfl rfl
theorem x98_23 {z : P0} : X z 98 23 = XI mT z (X z) (.if_icmp .ge 27, 3, 50, 0, 0, [], 0, 0) 98 23 := X_at (r := mi98) rfl rfl
theorem x98_26 {z : P0} : X z 98 26 = XI mT z (X z) (.dload_n 2, 1, 2, 0, 0, [], 0, 0) 98 26 := X_at (r := mi98) rfl rfl
theorem x98_27 {z : P0} : X z 98 27 = XI mT z (X z) (.dconst 1, 1, 4607182418800017408, 0, 0, [], 0, 0) 98 27 := X_at (r := mi98) rfl rfl
theorem x98_28 {z : P0} : X z 98 28 = XI mT z (X z) (.dcmp .g, 1, 0, 0, 0, [], 0, 0) 98 28 := X_at (r := mi98) rfl rfl
theorem x98_29 {z : P0} : X z 98 29 = XI mT z (X z) (.ifCond .ge 21, 3, 50, 0, 0, [], 0, 0) 98 29 := X_at (r := mi98) rfl rfl
theorem x98_32 {z : P0} : X z 98 32 = XI mT z (X z) (.dload_n 2, 1, 2, 0, 0, [], 0, 0) 98 32 := X_at (r := mi98) rfl rfl
theorem x98_33 {z : P0} : X z 98 33 = XI mT z (X z) (.ldc2_w 399, 3, 4611686018427387904, 1, 0, [617], 0, 0) 98 33 := X_at (r := mi98) rfl rfl
theorem x98_36 {z : P0} : X z 98 36 = XI mT z (X z) (.dmul, 1, 0, 0, 0, [], 0, 0) 98 36 := X_at (r := mi98) rfl rfl
theorem x98_37 {z : P0} : X z 98 37 = XI mT z (X z) (.dstore_n 2, 1, 2, 0, 0, [], 0, 0) 98 37 := X_at (r := mi98) rfl rfl
theorem x98_38 {z : P0} : X z 98 38 = XI mT z (X z) (.lload 4, 2, 4, 0, 0, [], 0, 0) 98 38 := X_at (r := mi98) rfl rfl
theorem x98_40 {z : P0} : X z 98 40 = XI mT z (X z) (.lconst 1, 1, 0, 0, 0, [], 0, lN 1) 98 40 := X_at (r := mi98) rfl rfl
theorem x98_41 {z : P0} : X z 98 41 = XI mT z (X z) (.lsub, 1, 0, 0, 0, [], 0, 0) 98 41 := X_at (r := mi98) rfl rfl
theorem x98_42 {z : P0} : X z 98 42 = XI mT z (X z) (.lstore 4, 2, 4, 0, 0, [], 0, 0) 98 42 := X_at (r := mi98) rfl rfl
theorem x98_44 {z : P0} : X z 98 44 = XI mT z (X z) (.iinc 6 1, 3, 6, 0, 0, [], nI 1, 0) 98 44 := X_at (r := mi98) rfl rfl
theorem x98_47 {z : P0} : X z 98 47 = XI mT z (X z) (.goto (-29), 3, 18, 0, 0, [], 0, 0) 98 47 := X_at (r := mi98) rfl rfl
theorem x98_50 {z : P0} : X z 98 50 = XI mT z (X z) (.dload_n 2, 1, 2, 0, 0, [], 0, 0) 98 50 := X_at (r := mi98) rfl rfl
theorem x98_51 {z : P0} : X z 98 51 = XI mT z (X z) (.ldc2_w 401, 3, 4841369599423283200, 1, 0, [618], 0, 0) 98 51 := X_at (r := mi98) rfl rfl
theorem x98_54 {z : P0} : X z 98 54 = XI mT z (X z) (.dmul, 1, 0, 0, 0, [], 0, 0) 98 54 := X_at (r := mi98) rfl rfl
theorem x98_55 {z : P0} : X z 98 55 = XI mT z (X z) (.d2l, 1, 0, 0, 0, [], 0, 0) 98 55 := X_at (r := mi98) rfl rfl
theorem x98_56 {z : P0} : X z 98 56 = XI mT z (X z) (.ldc2_w 403, 3, 0, 0, 0, [619], 0, lN 4503599627370496) 98 56 := X_at (r := mi98) rfl rfl
theorem x98_59 {z : P0} : X z 98 59 = XI mT z (X z) (.lsub, 1, 0, 0, 0, [], 0, 0) 98 59 := X_at (r := mi98) rfl rfl
theorem x98_60 {z : P0} : X z 98 60 = XI mT z (X z) (.lstore 6, 2, 6, 0, 0, [], 0, 0) 98 60 := X_at (r := mi98) rfl rfl
theorem x98_62 {z : P0} : X z 98 62 = XI mT z (X z) (.lload 4, 2, 4, 0, 0, [], 0, 0) 98 62 := X_at (r := mi98) rfl rfl
theorem x98_64 {z : P0} : X z 98 64 = XI mT z (X z) (.bipush 52, 2, 0, 0, 0, [], nI 52, 0) 98 64 := X_at (r := mi98) rfl rfl
theorem x98_66 {z : P0} : X z 98 66 = XI mT z (X z) (.lshl, 1, 0, 0, 0, [], 0, 0) 98 66 := X_at (r := mi98) rfl rfl
theorem x98_67 {z : P0} : X z 98 67 = XI mT z (X z) (.lload 6, 2, 6, 0, 0, [], 0, 0) 98 67 := X_at (r := mi98) rfl rfl
theorem x98_69 {z : P0} : X z 98 69 = XI mT z (X z) (.ladd, 1, 0, 0, 0, [], 0, 0) 98 69 := X_at (r := mi98) rfl rfl
theorem x98_70 {z : P0} : X z 98 70 = XI mT z (X z) (.lreturn, 1, 0, 0, 0, [], 0, 0) 98 70 := X_at (r := mi98) rfl rfl
theorem x99_0 {z : P0} : X z 99 0 = XI mT z (X z) (.ldc2_w 405, 3, 0, 0, 0, [563], 0, lN 31) 99 0 := X_at (r := mi99) rfl rfl
theorem x99_3 {z : P0} : X z 99 3 = XI mT z (X z) (.lload_n 0, 1, 0, 0, 0, [], 0, 0) 99 3 := X_at (r := mi99) rfl rfl
theorem x99_4 {z : P0} : X z 99 4 = XI mT z (X z) (.lmul, 1, 0, 0, 0, [], 0, 0) 99 4 := X_at (r := mi99) rfl rfl
theorem x99_5 {z : P0} : X z 99 5 = XI mT z (X z) (.lload_n 2, 1, 2, 0, 0, [], 0, 0) 99 5 := X_at (r := mi99) rfl rfl
theorem x99_6 {z : P0} : X z 99 6 = XI mT z (X z) (.ladd, 1, 0, 0, 0, [], 0, 0) 99 6 := X_at (r := mi99) rfl rfl
theorem x99_7 {z : P0} : X z 99 7 = XI mT z (X z) (.lreturn, 1, 0, 0, 0, [], 0, 0) 99 7 := X_at (r := mi99) rfl rfl
theorem x100_0 {z : P0} : X z 100 0 = XI mT z (X z) (.lload_n 0, 1, 0, 0, 0, [], 0, 0) 100 0 := X_at (r := mi100) rfl rfl
theorem x100_1 {z : P0} : X z 100 1 = XI mT z (X z) (.lstore 4, 2, 4, 0, 0, [], 0, 0) 100 1 := X_at (r := mi100) rfl rfl
theorem x100_3 {z : P0} : X z 100 3 = XI mT z (X z) (.iconst 0, 1, 0, 0, 0, [], nI 0, 0) 100 3 := X_at (r := mi100) rfl rfl
theorem x100_4 {z : P0} : X z 100 4 = XI mT z (X z) (.istore 6, 2, 6, 0, 0, [], 0, 0) 100 4 := X_at (r := mi100) rfl rfl
theorem x100_6 {z : P0} : X z 100 6 = XI mT z (X z) (.iload 6, 2, 6, 0, 0, [], 0, 0) 100 6 := X_at (r := mi100) rfl rfl
theorem x100_8 {z : P0} : X z 100 8 = XI mT z (X z) (.iload_n 3, 1, 3, 0, 0, [], 0, 0) 100 8 := X_at (r := mi100) rfl rfl
theorem x100_9 {z : P0} : X z 100 9 = XI mT z (X z) (.if_icmp .ge 28, 3, 37, 0, 0, [], 0, 0) 100 9 := X_at (r := mi100) rfl rfl
theorem x100_12 {z : P0} : X z 100 12 = XI mT z (X z) (.iload 6, 2, 6, 0, 0, [], 0, 0) 100 12 := X_at (r := mi100) rfl rfl
theorem x100_14 {z : P0} : X z 100 14 = XI mT z (X z) (.aload_n 2, 1, 2, 0, 0, [], 0, 0) 100 14 := X_at (r := mi100) rfl rfl
theorem x100_15 {z : P0} : X z 100 15 = XI mT z (X z) (.arraylength, 1, 0, 0, 0, [], 0, 0) 100 15 := X_at (r := mi100) rfl rfl
theorem x100_16 {z : P0} : X z 100 16 = XI mT z (X z) (.if_icmp .ge 21, 3, 37, 0, 0, [], 0, 0) 100 16 := X_at (r := mi100) rfl rfl
theorem x100_19 {z : P0} : X z 100 19 = XI mT z (X z) (.lload 4, 2, 4, 0, 0, [], 0, 0) 100 19 := X_at (r := mi100) rfl rfl
theorem x100_21 {z : P0} : X z 100 21 = XI mT z (X z) (.aload_n 2, 1, 2, 0, 0, [], 0, 0) 100 21 := X_at (r := mi100) rfl rfl
theorem x100_22 {z : P0} : X z 100 22 = XI mT z (X z) (.iload 6, 2, 6, 0, 0, [], 0, 0) 100 22 := X_at (r := mi100) rfl rfl
theorem x100_24 {z : P0} : X z 100 24 = XI mT z (X z) (.iaload, 1, 0, 0, 0, [], 0, 0) 100 24 := X_at (r := mi100) rfl rfl
theorem x100_25 {z : P0} : X z 100 25 = XI mT z (X z) (.i2l, 1, 0, 0, 0, [], 0, 0) 100 25 := X_at (r := mi100) rfl rfl
theorem x100_26 {z : P0} : X z 100 26 = XI mT z (X z) (.invokestatic 316, 3, 2, 99, 0, [92], 0, 0) 100 26 := X_at (r := mi100) rfl rfl
theorem x100_29 {z : P0} : X z 100 29 = XI mT z (X z) (.lstore 4, 2, 4, 0, 0, [], 0, 0) 100 29 := X_at (r := mi100) rfl rfl
theorem x100_31 {z : P0} : X z 100 31 = XI mT z (X z) (.iinc 6 1, 3, 6, 0, 0, [], nI 1, 0) 100 31 := X_at (r := mi100) rfl rfl
theorem x100_34 {z : P0} : X z 100 34 = XI mT z (X z) (.goto (-28), 3, 6, 0, 0, [], 0, 0) 100 34 := X_at (r := mi100) rfl rfl
theorem x100_37 {z : P0} : X z 100 37 = XI mT z (X z) (.lload 4, 2, 4, 0, 0, [], 0, 0) 100 37 := X_at (r := mi100) rfl rfl
theorem x100_39 {z : P0} : X z 100 39 = XI mT z (X z) (.lreturn, 1, 0, 0, 0, [], 0, 0) 100 39 := X_at (r := mi100) rfl rfl
theorem x101_0 {z : P0} : X z 101 0 = XI mT z (X z) (.lload_n 1, 1, 1, 0, 0, [], 0, 0) 101 0 := X_at (r := mi101) rfl rfl
theorem x101_1 {z : P0} : X z 101 1 = XI mT z (X z) (.lstore_n 3, 1, 3, 0, 0, [], 0, 0) 101 1 := X_at (r := mi101) rfl rfl
theorem x101_2 {z : P0} : X z 101 2 = XI mT z (X z) (.iconst 0, 1, 0, 0, 0, [], nI 0, 0) 101 2 := X_at (r := mi101) rfl rfl
theorem x101_3 {z : P0} : X z 101 3 = XI mT z (X z) (.istore 5, 2, 5, 0, 0, [], 0, 0) 101 3 := X_at (r := mi101) rfl rfl
theorem x101_5 {z : P0} : X z 101 5 = XI mT z (X z) (.iload 5, 2, 5, 0, 0, [], 0, 0) 101 5 := X_at (r := mi101) rfl rfl
theorem x101_7 {z : P0} : X z 101 7 = XI mT z (X z) (.aload_n 0, 1, 0, 0, 0, [], 0, 0) 101 7 := X_at (r := mi101) rfl rfl
theorem x101_8 {z : P0} : X z 101 8 = XI mT z (X z) (.getfield 10, 3, 10, 0, 3, [87], 0, 0) 101 8 := X_at (r := mi101) rfl rfl
theorem x101_11 {z : P0} : X z 101 11 = XI mT z (X z) (.getfield 68, 3, 8, 1, 0, [93], 0, 0) 101 11 := X_at (r := mi101) rfl rfl
theorem x101_14 {z : P0} : X z 101 14 = XI mT z (X z) (.if_icmp .ge 82, 3, 96, 0, 0, [], 0, 0) 101 14 := X_at (r := mi101) rfl rfl
theorem x101_17 {z : P0} : X z 101 17 = XI mT z (X z) (.iconst 0, 1, 0, 0, 0, [], nI 0, 0) 101 17 := X_at (r := mi101) rfl rfl
theorem x101_18 {z : P0} : X z 101 18 = XI mT z (X z) (.istore 6, 2, 6, 0, 0, [], 0, 0) 101 18 := X_at (r := mi101) rfl rfl
theorem x101_20 {z : P0} : X z 101 20 = XI mT z (X z) (.iload 6, 2, 6, 0, 0, [], 0, 0) 101 20 := X_at (r := mi101) rfl rfl
theorem x101_22 {z : P0} : X z 101 22 = XI mT z (X z) (.bipush 8, 2, 0, 0, 0, [], nI 8, 0) 101 22 := X_at (r := mi101) rfl rfl
theorem x101_24 {z : P0} : X z 101 24 = XI mT z (X z) (.if_icmp .gt 23, 3, 47, 0, 0, [], 0, 0) 101 24 := X_at (r := mi101) rfl rfl
theorem x101_27 {z : P0} : X z 101 27 = XI mT z (X z) (.lload_n 3, 1, 3, 0, 0, [], 0, 0) 101 27 := X_at (r := mi101) rfl rfl
theorem x101_28 {z : P0} : X z 101 28 = XI mT z (X z) (.aload_n 0, 1, 0, 0, 0, [], 0, 0) 101 28 := X_at (r := mi101) rfl rfl
theorem x101_29 {z : P0} : X z 101 29 = XI mT z (X z) (.iload 5, 2, 5, 0, 0, [], 0, 0) 101 29 := X_at (r := mi101) rfl rfl
theorem x101_31 {z : P0} : X z 101 31 = XI mT z (X z) (.iload 6, 2, 6, 0, 0, [], 0, 0) 101 31 := X_at (r := mi101) rfl rfl
theorem x101_33 {z : P0} : X z 101 33 = XI mT z (X z) (.invokevirtual 234, 3, 2, 93, 0, [80], 0, 0) 101 33 := X_at (r := mi101) rfl rfl
theorem x101_36 {z : P0} : X z 101 36 = XI mT z (X z) (.i2l, 1, 0, 0, 0, [], 0, 0) 101 36 := X_at (r := mi101) rfl rfl
theorem x101_37 {z : P0} : X z 101 37 = XI mT z (X z) (.invokestatic 316, 3, 2, 99, 0, [92], 0, 0) 101 37 := X_at (r := mi101) rfl rfl
theorem x101_40 {z : P0} : X z 101 40 = XI mT z (X z) (.lstore_n 3, 1, 3, 0, 0, [], 0, 0) 101 40 := X_at (r := mi101) rfl rfl
theorem x101_41 {z : P0} : X z 101 41 = XI mT z (X z) (.iinc 6 1, 3, 6, 0, 0, [], nI 1, 0) 101 41 := X_at (r := mi101) rfl rfl
theorem x101_44 {z : P0} : X z 101 44 = XI mT z (X z) (.goto (-24), 3, 20, 0, 0, [], 0, 0) 101 44 := X_at (r := mi101) rfl rfl
theorem x101_47 {z : P0} : X z 101 47 = XI mT z (X z) (.lload_n 3, 1, 3, 0, 0, [], 0, 0) 101 47 := X_at (r := mi101) rfl rfl
theorem x101_48 {z : P0} : X z 101 48 = XI mT z (X z) (.aload_n 0, 1, 0, 0, 0, [], 0, 0) 101 48 := X_at (r := mi101) rfl rfl
theorem x101_49 {z : P0} : X z 101 49 = XI mT z (X z) (.getfield 10, 3, 10, 0, 3, [87], 0, 0) 101 49 := X_at (r := mi101) rfl rfl
theorem x101_52 {z : P0} : X z 101 52 = XI mT z (X z) (.getfield 81, 3, 8, 0, 3, [94], 0, 0) 101 52 := X_at (r := mi101) rfl rfl
theorem x101_55 {z : P0} : X z 101 55 = XI mT z (X z) (.iload 5, 2, 5, 0, 0, [], 0, 0) 101 55 := X_at (r := mi101) rfl rfl
theorem x101_57 {z : P0} : X z 101 57 = XI mT z (X z) (.aaload, 1, 0, 0, 0, [], 0, 0) 101 57 := X_at (r := mi101) rfl rfl
theorem x101_58 {z : P0} : X z 101 58 = XI mT z (X z) (.getfield 243, 3, 7, 0, 3, [117], 0, 0) 101 58 := X_at (r := mi101) rfl rfl
theorem x101_61 {z : P0} : X z 101 61 = XI mT z (X z) (.aload_n 0, 1, 0, 0, 0, [], 0, 0) 101 61 := X_at (r := mi101) rfl rfl
theorem x101_62 {z : P0} : X z 101 62 = XI mT z (X z) (.getfield 10, 3, 10, 0, 3, [87], 0, 0) 101 62 := X_at (r := mi101) rfl rfl
theorem x101_65 {z : P0} : X z 101 65 = XI mT z (X z) (.getfield 81, 3, 8, 0, 3, [94], 0, 0) 101 65 := X_at (r := mi101) rfl rfl
theorem x101_68 {z : P0} : X z 101 68 = XI mT z (X z) (.iload 5, 2, 5, 0, 0, [], 0, 0) 101 68 := X_at (r := mi101) rfl rfl
theorem x101_70 {z : P0} : X z 101 70 = XI mT z (X z) (.aaload, 1, 0, 0, 0, [], 0, 0) 101 70 := X_at (r := mi101) rfl rfl
theorem x101_71 {z : P0} : X z 101 71 = XI mT z (X z) (.getfield 238, 3, 7, 1, 0, [116], 0, 0) 101 71 := X_at (r := mi101) rfl rfl
theorem x101_74 {z : P0} : X z 101 74 = XI mT z (X z) (.invokestatic 340, 3, 3, 100, 0, [99], 0, 0) 101 74 := X_at (r := mi101) rfl rfl
theorem x101_77 {z : P0} : X z 101 77 = XI mT z (X z) (.lstore_n 3, 1, 3, 0, 0, [], 0, 0) 101 77 := X_at (r := mi101) rfl rfl
theorem x101_78 {z : P0} : X z 101 78 = XI mT z (X z) (.lload_n 3, 1, 3, 0, 0, [], 0, 0) 101 78 := X_at (r := mi101) rfl rfl
theorem x101_79 {z : P0} : X z 101 79 = XI mT z (X z) (.aload_n 0, 1, 0, 0, 0, [], 0, 0) 101 79 := X_at (r := mi101) rfl rfl
theorem x101_80 {z : P0} : X z 101 80 = XI mT z (X z) (.iload 5, 2, 5, 0, 0, [], 0, 0) 101 80 := X_at (r := mi101) rfl rfl
theorem x101_82 {z : P0} : X z 101 82 = XI mT z (X z) (.invokevirtual 307, 3, 1, 92, 0, [90], 0, 0) 101 82 := X_at (r := mi101) rfl rfl
theorem x101_85 {z : P0} : X z 101 85 = XI mT z (X z) (.i2l, 1, 0, 0, 0, [], 0, 0) 101 85 := X_at (r := mi101) rfl rfl
theorem x101_86 {z : P0} : X z 101 86 = XI mT z (X z) (.invokestatic 316, 3, 2, 99, 0, [92], 0, 0) 101 86 := X_at (r := mi101) rfl rfl
theorem x101_89 {z : P0} : X z 101 89 = XI mT z (X z) (.lstore_n 3, 1, 3, 0, 0, [], 0, 0) 101 89 := X_at (r := mi101) rfl rfl
theorem x101_90 {z : P0} : X z 101 90 = XI mT z (X z) (.iinc 5 1, 3, 5, 0, 0, [], nI 1, 0) 101 90 := X_at (r := mi101) rfl rfl
theorem x101_93 {z : P0} : X z 101 93 = XI mT z (X z) (.goto (-88), 3, 5, 0, 0, [], 0, 0) 101 93 := X_at (r := mi101) rfl rfl
theorem x101_96 {z : P0} : X z 101 96 = XI mT z (X z) (.lload_n 3, 1, 3, 0, 0, [], 0, 0) 101 96 := X_at (r := mi101) rfl rfl
theorem x101_97 {z : P0} : X z 101 97 = XI mT z (X z) (.lreturn, 1, 0, 0, 0, [], 0, 0) 101 97 := X_at (r := mi101) rfl rfl
theorem x102_0 {z : P0} : X z 102 0 = XI mT z (X z) (.lload_n 1, 1, 1, 0, 0, [], 0, 0) 102 0 := X_at (r := mi102) rfl rfl
theorem x102_1 {z : P0} : X z 102 1 = XI mT z (X z) (.lstore_n 3, 1, 3, 0, 0, [], 0, 0) 102 1 := X_at (r := mi102) rfl rfl
theorem x102_2 {z : P0} : X z 102 2 = XI mT z (X z) (.iconst 0, 1, 0, 0, 0, [], nI 0, 0) 102 2 := X_at (r := mi102) rfl rfl
theorem x102_3 {z : P0} : X z 102 3 = XI mT z (X z) (.istore 5, 2, 5, 0, 0, [], 0, 0) 102 3 := X_at (r := mi102) rfl rfl
theorem x102_5 {z : P0} : X z 102 5 = XI mT z (X z) (.iload 5, 2, 5, 0, 0, [], 0, 0) 102 5 := X_at (r := mi102) rfl rfl
theorem x102_7 {z : P0} : X z 102 7 = XI mT z (X z) (.aload_n 0, 1, 0, 0, 0, [], 0, 0) 102 7 := X_at (r := mi102) rfl rfl
theorem x102_8 {z : P0} : X z 102 8 = XI mT z (X z) (.getfield 10, 3, 10, 0, 3, [87], 0, 0) 102 8 := X_at (r := mi102) rfl rfl
theorem x102_11 {z : P0} : X z 102 11 = XI mT z (X z) (.getfield 96, 3, 8, 3, 0, [96], 0, 0) 102 11 := X_at (r := mi102) rfl rfl
theorem x102_14 {z : P0} : X z 102 14 = XI mT z (X z) (.if_icmp .ge 75, 3, 89, 0, 0, [], 0, 0) 102 14 := X_at (r := mi102) rfl rfl
theorem x102_17 {z : P0} : X z 102 17 = XI mT z (X z) (.iconst 0, 1, 0, 0, 0, [], nI 0, 0) 102 17 := X_at (r := mi102) rfl rfl
theorem x102_18 {z : P0} : X z 102 18 = XI mT z (X z) (.istore 6, 2, 6, 0, 0, [], 0, 0) 102 18 := X_at (r := mi102) rfl rfl
theorem x102_20 {z : P0} : X z 102 20 = XI mT z (X z) (.iload 6, 2, 6, 0, 0, [], 0, 0) 102 20 := X_at (r := mi102) rfl rfl
theorem x102_22 {z : P0} : X z 102 22 = XI mT z (X z) (.iconst 3, 1, 0, 0, 0, [], nI 3, 0) 102 22 := X_at (r := mi102) rfl rfl
theorem x102_23 {z : P0} : X z 102 23 = XI mT z (X z) (.if_icmp .gt 23, 3, 46, 0, 0, [], 0, 0) 102 23 := X_at (r := mi102) rfl rfl
theorem x102_26 {z : P0} : X z 102 26 = XI mT z (X z) (.lload_n 3, 1, 3, 0, 0, [], 0, 0) 102 26 := X_at (r := mi102) rfl rfl
theorem x102_27 {z : P0} : X z 102 27 = XI mT z (X z) (.aload_n 0, 1, 0, 0, 0, [], 0, 0) 102 27 := X_at (r := mi102) rfl rfl
theorem x102_28 {z : P0} : X z 102 28 = XI mT z (X z) (.iload 5, 2, 5, 0, 0, [], 0, 0) 102 28 := X_at (r := mi102) rfl rfl
theorem x102_30 {z : P0} : X z 102 30 = XI mT z (X z) (.iload 6, 2, 6, 0, 0, [], 0, 0) 102 30 := X_at (r := mi102) rfl rfl
theorem x102_32 {z : P0} : X z 102 32 = XI mT z (X z) (.invokevirtual 251, 3, 2, 94, 0, [82], 0, 0) 102 32 := X_at (r := mi102) rfl rfl
theorem x102_35 {z : P0} : X z 102 35 = XI mT z (X z) (.i2l, 1, 0, 0, 0, [], 0, 0) 102 35 := X_at (r := mi102) rfl rfl
theorem x102_36 {z : P0} : X z 102 36 = XI mT z (X z) (.invokestatic 316, 3, 2, 99, 0, [92], 0, 0) 102 36 := X_at (r := mi102) rfl rfl
theorem x102_39 {z : P0} : X z 102 39 = XI mT z (X z) (.lstore_n 3, 1, 3, 0, 0, [], 0, 0) 102 39 := X_at (r := mi102) rfl rfl
theorem x102_40 {z : P0} : X z 102 40 = XI mT z (X z) (.iinc 6 1, 3, 6, 0, 0, [], nI 1, 0) 102 40 := X_at (r := mi102) rfl rfl
theorem x102_43 {z : P0} : X z 102 43 = XI mT z (X z) (.goto (-23), 3, 20, 0, 0, [], 0, 0) 102 43 := X_at (r := mi102) rfl rfl
theorem x102_46 {z : P0} : X z 102 46 = XI mT z (X z) (.iconst 0, 1, 0, 0, 0, [], nI 0, 0) 102 46 := X_at (r := mi102) rfl rfl
theorem x102_47 {z : P0} : X z 102 47 = XI mT z (X z) (.istore 6, 2, 6, 0, 0, [], 0, 0) 102 47 := X_at (r := mi102) rfl rfl
theorem x102_49 {z : P0} : X z 102 49 = XI mT z (X z) (.iload 6, 2, 6, 0, 0, [], 0, 0) 102 49 := X_at (r := mi102) rfl rfl
theorem x102_51 {z : P0} : X z 102 51 = XI mT z (X z) (.bipush 8, 2, 0, 0, 0, [], nI 8, 0) 102 51 := X_at (r := mi102) rfl rfl
theorem x102_53 {z : P0} : X z 102 53 = XI mT z (X z) (.if_icmp .ge 30, 3, 83, 0, 0, [], 0, 0) 102 53 := X_at (r := mi102) rfl rfl
theorem x102_56 {z : P0} : X z 102 56 = XI mT z (X z) (.lload_n 3, 1, 3, 0, 0, [], 0, 0) 102 56 := X_at (r := mi102) rfl rfl
theorem x102_57 {z : P0} : X z 102 57 = XI mT z (X z) (.aload_n 0, 1, 0, 0, 0, [], 0, 0) 102 57 := X_at (r := mi102) rfl rfl
theorem x102_58 {z : P0} : X z 102 58 = XI mT z (X z) (.getfield 10, 3, 10, 0, 3, [87], 0, 0) 102 58 := X_at (r := mi102) rfl rfl
theorem x102_61 {z : P0} : X z 102 61 = XI mT z (X z) (.getfield 101, 3, 8, 2, 3, [97], 0, 0) 102 61 := X_at (r := mi102) rfl rfl
theorem x102_64 {z : P0} : X z 102 64 = XI mT z (X z) (.iload 5, 2, 5, 0, 0, [], 0, 0) 102 64 := X_at (r := mi102) rfl rfl
theorem x102_66 {z : P0} : X z 102 66 = XI mT z (X z) (.aaload, 1, 0, 0, 0, [], 0, 0) 102 66 := X_at (r := mi102) rfl rfl
theorem x102_67 {z : P0} : X z 102 67 = XI mT z (X z) (.iload 6, 2, 6, 0, 0, [], 0, 0) 102 67 := X_at (r := mi102) rfl rfl
theorem x102_69 {z : P0} : X z 102 69 = XI mT z (X z) (.invokevirtual 248, 3, 1, 55, 0, [81], 0, 0) 102 69 := X_at (r := mi102) rfl rfl
theorem x102_72 {z : P0} : X z 102 72 = XI mT z (X z) (.i2l, 1, 0, 0, 0, [], 0, 0) 102 72 := X_at (r := mi102) rfl rfl
theorem x102_73 {z : P0} : X z 102 73 = XI mT z (X z) (.invokestatic 316, 3, 2, 99, 0, [92], 0, 0) 102 73 := X_at (r := mi102) rfl rfl
theorem x102_76 {z : P0} : X z 102 76 = XI mT z (X z) (.lstore_n 3, 1, 3, 0, 0, [], 0, 0) 102 76 := X_at (r := mi102) rfl rfl
theorem x102_77 {z : P0} : X z 102 77 = XI mT z (X z) (.iinc 6 1, 3, 6, 0, 0, [], nI 1, 0) 102 77 := X_at (r := mi102) rfl rfl
theorem x102_80 {z : P0} : X z 102 80 = XI mT z (X z) (.goto (-31), 3, 49, 0, 0, [], 0, 0) 102 80 := X_at (r := mi102) rfl rfl
theorem x102_83 {z : P0} : X z 102 83 = XI mT z (X z) (.iinc 5 1, 3, 5, 0, 0, [], nI 1, 0) 102 83 := X_at (r := mi102) rfl rfl
theorem x102_86 {z : P0} : X z 102 86 = XI mT z (X z) (.goto (-81), 3, 5, 0, 0, [], 0, 0) 102 86 := X_at (r := mi102) rfl rfl
theorem x102_89 {z : P0} : X z 102 89 = XI mT z (X z) (.lload_n 3, 1, 3, 0, 0, [], 0, 0) 102 89 := X_at (r := mi102) rfl rfl
theorem x102_90 {z : P0} : X z 102 90 = XI mT z (X z) (.lreturn, 1, 0, 0, 0, [], 0, 0) 102 90 := X_at (r := mi102) rfl rfl
theorem x103_0 {z : P0} : X z 103 0 = XI mT z (X z) (.lload_n 1, 1, 1, 0, 0, [], 0, 0) 103 0 := X_at (r := mi103) rfl rfl
theorem x103_1 {z : P0} : X z 103 1 = XI mT z (X z) (.lstore_n 3, 1, 3, 0, 0, [], 0, 0) 103 1 := X_at (r := mi103) rfl rfl
theorem x103_2 {z : P0} : X z 103 2 = XI mT z (X z) (.iconst 0, 1, 0, 0, 0, [], nI 0, 0) 103 2 := X_at (r := mi103) rfl rfl
theorem x103_3 {z : P0} : X z 103 3 = XI mT z (X z) (.istore 5, 2, 5, 0, 0, [], 0, 0) 103 3 := X_at (r := mi103) rfl rfl
theorem x103_5 {z : P0} : X z 103 5 = XI mT z (X z) (.iload 5, 2, 5, 0, 0, [], 0, 0) 103 5 := X_at (r := mi103) rfl rfl
theorem x103_7 {z : P0} : X z 103 7 = XI mT z (X z) (.aload_n 0, 1, 0, 0, 0, [], 0, 0) 103 7 := X_at (r := mi103) rfl rfl
theorem x103_8 {z : P0} : X z 103 8 = XI mT z (X z) (.getfield 41, 3, 10, 3, 3, [90], 0, 0) 103 8 := X_at (r := mi103) rfl rfl
theorem x103_11 {z : P0} : X z 103 11 = XI mT z (X z) (.getfield 391, 3, 6, 1, 0, [132], 0, 0) 103 11 := X_at (r := mi103) rfl rfl
theorem x103_14 {z : P0} : X z 103 14 = XI mT z (X z) (.if_icmp .ge 107, 3, 121, 0, 0, [], 0, 0) 103 14 := X_at (r := mi103) rfl rfl
theorem x103_17 {z : P0} : X z 103 17 = XI mT z (X z) (.iconst 0, 1, 0, 0, 0, [], nI 0, 0) 103 17 := X_at (r := mi103) rfl rfl
theorem x103_18 {z : P0} : X z 103 18 = XI mT z (X z) (.istore 6, 2, 6, 0, 0, [], 0, 0) 103 18 := X_at (r := mi103) rfl rfl
theorem x103_20 {z : P0} : X z 103 20 = XI mT z (X z) (.iload 6, 2, 6, 0, 0, [], 0, 0) 103 20 := X_at (r := mi103) rfl rfl
theorem x103_22 {z : P0} : X z 103 22 = XI mT z (X z) (.bipush 7, 2, 0, 0, 0, [], nI 7, 0) 103 22 := X_at (r := mi103) rfl rfl
theorem x103_24 {z : P0} : X z 103 24 = XI mT z (X z) (.if_icmp .gt 23, 3, 47, 0, 0, [], 0, 0) 103 24 := X_at (r := mi103) rfl rfl
theorem x103_27 {z : P0} : X z 103 27 = XI mT z (X z) (.lload_n 3, 1, 3, 0, 0, [], 0, 0) 103 27 := X_at (r := mi103) rfl rfl
theorem x103_28 {z : P0} : X z 103 28 = XI mT z (X z) (.aload_n 0, 1, 0, 0, 0, [], 0, 0) 103 28 := X_at (r := mi103) rfl rfl
theorem x103_29 {z : P0} : X z 103 29 = XI mT z (X z) (.iload 5, 2, 5, 0, 0, [], 0, 0) 103 29 := X_at (r := mi103) rfl rfl
theorem x103_31 {z : P0} : X z 103 31 = XI mT z (X z) (.iload 6, 2, 6, 0, 0, [], 0, 0) 103 31 := X_at (r := mi103) rfl rfl
theorem x103_33 {z : P0} : X z 103 33 = XI mT z (X z) (.invokevirtual 261, 3, 2, 95, 0, [84], 0, 0) 103 33 := X_at (r := mi103) rfl rfl
theorem x103_36 {z : P0} : X z 103 36 = XI mT z (X z) (.i2l, 1, 0, 0, 0, [], 0, 0) 103 36 := X_at (r := mi103) rfl rfl
theorem x103_37 {z : P0} : X z 103 37 = XI mT z (X z) (.invokestatic 316, 3, 2, 99, 0, [92], 0, 0) 103 37 := X_at (r := mi103) rfl rfl
theorem x103_40 {z : P0} : X z 103 40 = XI mT z (X z) (.lstore_n 3, 1, 3, 0, 0, [], 0, 0) 103 40 := X_at (r := mi103) rfl rfl
theorem x103_41 {z : P0} : X z 103 41 = XI mT z (X z) (.iinc 6 1, 3, 6, 0, 0, [], nI 1, 0) 103 41 := X_at (r := mi103) rfl rfl
theorem x103_44 {z : P0} : X z 103 44 = XI mT z (X z) (.goto (-24), 3, 20, 0, 0, [], 0, 0) 103 44 := X_at (r := mi103) rfl rfl
theorem x103_47 {z : P0} : X z 103 47 = XI mT z (X z) (.lload_n 3, 1, 3, 0, 0, [], 0, 0) 103 47 := X_at (r := mi103) rfl rfl
theorem x103_48 {z : P0} : X z 103 48 = XI mT z (X z) (.aload_n 0, 1, 0, 0, 0, [], 0, 0) 103 48 := X_at (r := mi103) rfl rfl
theorem x103_49 {z : P0} : X z 103 49 = XI mT z (X z) (.getfield 41, 3, 10, 3, 3, [90], 0, 0) 103 49 := X_at (r := mi103) rfl rfl
theorem x103_52 {z : P0} : X z 103 52 = XI mT z (X z) (.getfield 264, 3, 6, 0, 3, [118], 0, 0) 103 52 := X_at (r := mi103) rfl rfl
theorem x103_55 {z : P0} : X z 103 55 = XI mT z (X z) (.iload 5, 2, 5, 0, 0, [], 0, 0) 103 55 := X_at (r := mi103) rfl rfl
theorem x103_57 {z : P0} : X z 103 57 = XI mT z (X z) (.aaload, 1, 0, 0, 0, [], 0, 0) 103 57 := X_at (r := mi103) rfl rfl
theorem x103_58 {z : P0} : X z 103 58 = XI mT z (X z) (.invokevirtual 286, 3, 0, 22, 0, [86], 0, 0) 103 58 := X_at (r := mi103) rfl rfl
theorem x103_61 {z : P0} : X z 103 61 = XI mT z (X z) (.i2l, 1, 0, 0, 0, [], 0, 0) 103 61 := X_at (r := mi103) rfl rfl
theorem x103_62 {z : P0} : X z 103 62 = XI mT z (X z) (.invokestatic 316, 3, 2, 99, 0, [92], 0, 0) 103 62 := X_at (r := mi103) rfl rfl
theorem x103_65 {z : P0} : X z 103 65 = XI mT z (X z) (.lstore_n 3, 1, 3, 0, 0, [], 0, 0) 103 65 := X_at (r := mi103) rfl rfl
theorem x103_66 {z : P0} : X z 103 66 = XI mT z (X z) (.aload_n 0, 1, 0, 0, 0, [], 0, 0) 103 66 := X_at (r := mi103) rfl rfl
theorem x103_67 {z : P0} : X z 103 67 = XI mT z (X z) (.getfield 41, 3, 10, 3, 3, [90], 0, 0) 103 67 := X_at (r := mi103) rfl rfl
theorem x103_70 {z : P0} : X z 103 70 = XI mT z (X z) (.getfield 275, 3, 6, 4, 3, [120], 0, 0) 103 70 := X_at (r := mi103) rfl rfl
theorem x103_73 {z : P0} : X z 103 73 = XI mT z (X z) (.aload_n 0, 1, 0, 0, 0, [], 0, 0) 103 73 := X_at (r := mi103) rfl rfl
theorem x103_74 {z : P0} : X z 103 74 = XI mT z (X z) (.getfield 10, 3, 10, 0, 3, [87], 0, 0) 103 74 := X_at (r := mi103) rfl rfl
theorem x103_77 {z : P0} : X z 103 77 = XI mT z (X z) (.aload_n 0, 1, 0, 0, 0, [], 0, 0) 103 77 := X_at (r := mi103) rfl rfl
theorem x103_78 {z : P0} : X z 103 78 = XI mT z (X z) (.getfield 41, 3, 10, 3, 3, [90], 0, 0) 103 78 := X_at (r := mi103) rfl rfl
theorem x103_81 {z : P0} : X z 103 81 = XI mT z (X z) (.getfield 264, 3, 6, 0, 3, [118], 0, 0) 103 81 := X_at (r := mi103) rfl rfl
theorem x103_84 {z : P0} : X z 103 84 = XI mT z (X z) (.iload 5, 2, 5, 0, 0, [], 0, 0) 103 84 := X_at (r := mi103) rfl rfl
theorem x103_86 {z : P0} : X z 103 86 = XI mT z (X z) (.aaload, 1, 0, 0, 0, [], 0, 0) 103 86 := X_at (r := mi103) rfl rfl
theorem x103_87 {z : P0} : X z 103 87 = XI mT z (X z) (.invokevirtual 279, 3, 2, 10, 0, [85], 0, 0) 103 87 := X_at (r := mi103) rfl rfl
theorem x103_90 {z : P0} : X z 103 90 = XI mT z (X z) (.lload_n 3, 1, 3, 0, 0, [], 0, 0) 103 90 := X_at (r := mi103) rfl rfl
theorem x103_91 {z : P0} : X z 103 91 = XI mT z (X z) (.aload_n 0, 1, 0, 0, 0, [], 0, 0) 103 91 := X_at (r := mi103) rfl rfl
theorem x103_92 {z : P0} : X z 103 92 = XI mT z (X z) (.getfield 41, 3, 10, 3, 3, [90], 0, 0) 103 92 := X_at (r := mi103) rfl rfl
theorem x103_95 {z : P0} : X z 103 95 = XI mT z (X z) (.getfield 275, 3, 6, 4, 3, [120], 0, 0) 103 95 := X_at (r := mi103) rfl rfl
theorem x103_98 {z : P0} : X z 103 98 = XI mT z (X z) (.getfield 283, 3, 1, 0, 3, [121], 0, 0) 103 98 := X_at (r := mi103) rfl rfl
theorem x103_101 {z : P0} : X z 103 101 = XI mT z (X z) (.aload_n 0, 1, 0, 0, 0, [], 0, 0) 103 101 := X_at (r := mi103) rfl rfl
theorem x103_102 {z : P0} : X z 103 102 = XI mT z (X z) (.getfield 41, 3, 10, 3, 3, [90], 0, 0) 103 102 := X_at (r := mi103) rfl rfl
theorem x103_105 {z : P0} : X z 103 105 = XI mT z (X z) (.getfield 275, 3, 6, 4, 3, [120], 0, 0) 103 105 := X_at (r := mi103) rfl rfl
theorem x103_108 {z : P0} : X z 103 108 = XI mT z (X z) (.getfield 407, 3, 1, 1, 0, [133], 0, 0) 103 108 := X_at (r := mi103) rfl rfl
theorem x103_111 {z : P0} : X z 103 111 = XI mT z (X z) (.invokestatic 340, 3, 3, 100, 0, [99], 0, 0) 103 111 := X_at (r := mi103) rfl rfl
theorem x103_114 {z : P0} : X z 103 114 = XI mT z (X z) (.lstore_n 3, 1, 3, 0, 0, [], 0, 0) 103 114 := X_at (r := mi103) rfl rfl
theorem x103_115 {z : P0} : X z 103 115 = XI mT z (X z) (.iinc 5 1, 3, 5, 0, 0, [], nI 1, 0) 103 115 := X_at (r := mi103) rfl rfl
theorem x103_118 {z : P0} : X z 103 118 = XI mT z (X z) (.goto (-113), 3, 5, 0, 0, [], 0, 0) 103 118 := X_at (r := mi103) rfl rfl
theorem x103_121 {z : P0} : X z 103 121 = XI mT z (X z) (.lload_n 3, 1, 3, 0, 0, [], 0, 0) 103 121 := X_at (r := mi103) rfl rfl
theorem x103_122 {z : P0} : X z 103 122 = XI mT z (X z) (.lreturn, 1, 0, 0, 0, [], 0, 0) 103 122 := X_at (r := mi103) rfl rfl
