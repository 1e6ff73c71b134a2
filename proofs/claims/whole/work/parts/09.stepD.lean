theorem x154_0 {z : P0} : X z 154 0 = XI mT z (X z) (.aload_n 0, 1, 0, 0, 0, [], 0, 0) 154 0 := X_at (r := mi154) rfl rfl
theorem x154_1 {z : P0} : X z 154 1 = XI mT z (X z) (.iload_n 1, 1, 1, 0, 0, [], 0, 0) 154 1 := X_at (r := mi154) rfl rfl
theorem x154_2 {z : P0} : X z 154 2 = XI mT z (X z) (.aload_n 0, 1, 0, 0, 0, [], 0, 0) 154 2 := X_at (r := mi154) rfl rfl
theorem x154_3 {z : P0} : X z 154 3 = XI mT z (X z) (.getfield 7, 3, 11, 0, 3, [134], 0, 0) 154 3 := X_at (r := mi154) rfl rfl
theorem x154_6 {z : P0} : X z 154 6 = XI mT z (X z) (.bipush 8, 2, 0, 0, 0, [], nI 8, 0) 154 6 := X_at (r := mi154) rfl rfl
theorem x154_8 {z : P0} : X z 154 8 = XI mT z (X z) (.iaload, 1, 0, 0, 0, [], 0, 0) 154 8 := X_at (r := mi154) rfl rfl
theorem x154_9 {z : P0} : X z 154 9 = XI mT z (X z) (.invokevirtual 61, 3, 2, 112, 0, [110], 0, 0) 154 9 := X_at (r := mi154) rfl rfl
theorem x154_12 {z : P0} : X z 154 12 = XI mT z (X z) (.istore_n 2, 1, 2, 0, 0, [], 0, 0) 154 12 := X_at (r := mi154) rfl rfl
theorem x154_13 {z : P0} : X z 154 13 = XI mT z (X z) (.iload_n 2, 1, 2, 0, 0, [], 0, 0) 154 13 := X_at (r := mi154) rfl rfl
theorem x154_14 {z : P0} : X z 154 14 = XI mT z (X z) (.ifCond .le 7, 3, 21, 0, 0, [], 0, 0) 154 14 := X_at (r := mi154) rfl rfl
theorem x154_17 {z : P0} : X z 154 17 = XI mT z (X z) (.iload_n 2, 1, 2, 0, 0, [], 0, 0) 154 17 := X_at (r := mi154) rfl rfl
theorem x154_18 {z : P0} : X z 154 18 = XI mT z (X z) (.goto 21, 3, 39, 0, 0, [], 0, 0) 154 18 := X_at (r := mi154) rfl rfl
theorem x154_21 {z : P0} : X z 154 21 = XI mT z (X z) (.aload_n 0, 1, 0, 0, 0, [], 0, 0) 154 21 := X_at (r := mi154) rfl rfl
theorem x154_22 {z : P0} : X z 154 22 = XI mT z (X z) (.aload_n 0, 1, 0, 0, 0, [], 0, 0) 154 22 := X_at (r := mi154) rfl rfl
theorem x154_23 {z : P0} : X z 154 23 = XI mT z (X z) (.getfield 34, 3, 11, 11, 3, [142], 0, 0) 154 23 := X_at (r := mi154) rfl rfl
theorem x154_26 {z : P0} : X z 154 26 = XI mT z (X z) (.iload_n 1, 1, 1, 0, 0, [], 0, 0) 154 26 := X_at (r := mi154) rfl rfl
theorem x154_27 {z : P0} : X z 154 27 = XI mT z (X z) (.iaload, 1, 0, 0, 0, [], 0, 0) 154 27 := X_at (r := mi154) rfl rfl
theorem x154_28 {z : P0} : X z 154 28 = XI mT z (X z) (.invokevirtual 128, 3, 1, 131, 0, [127], 0, 0) 154 28 := X_at (r := mi154) rfl rfl
theorem x154_31 {z : P0} : X z 154 31 = XI mT z (X z) (.ifCond .eq 7, 3, 38, 0, 0, [], 0, 0) 154 31 := X_at (r := mi154) rfl rfl
theorem x154_34 {z : P0} : X z 154 34 = XI mT z (X z) (.iconst 0, 1, 0, 0, 0, [], nI 0, 0) 154 34 := X_at (r := mi154) rfl rfl
theorem x154_35 {z : P0} : X z 154 35 = XI mT z (X z) (.goto 4, 3, 39, 0, 0, [], 0, 0) 154 35 := X_at (r := mi154) rfl rfl
theorem x154_38 {z : P0} : X z 154 38 = XI mT z (X z) (.iconst 4, 1, 0, 0, 0, [], nI 4, 0) 154 38 := X_at (r := mi154) rfl rfl
theorem x154_39 {z : P0} : X z 154 39 = XI mT z (X z) (.ireturn, 1, 0, 0, 0, [], 0, 0) 154 39 := X_at (r := mi154) rfl rfl
theorem x155_0 {z : P0} : X z 155 0 = XI mT z (X z) (.iload_n 2, 1, 2, 0, 0, [], 0, 0) 155 0 := X_at (r := mi155) rfl rfl
theorem x155_1 {z : P0} : X z 155 1 = XI mT z (X z) (.tableswitch 125 0 7 #[47, 58, 68, 78, 88, 98, 108, 118], 47, 126, 0, 0, [48, 59, 69, 79, 89, 99, 109, 119], 0, 0) 155 1 := X_at (r := mi155) rfl rfl
theorem x155_48 {z : P0} : X z 155 48 = XI mT z (X z) (.aload_n 0, 1, 0, 0, 0, [], 0, 0) 155 48 := X_at (r := mi155) rfl rfl
theorem x155_49 {z : P0} : X z 155 49 = XI mT z (X z) (.getfield 7, 3, 11, 0, 3, [134], 0, 0) 155 49 := X_at (r := mi155) rfl rfl
theorem x155_52 {z : P0} : X z 155 52 = XI mT z (X z) (.sipush 133, 3, 0, 0, 0, [], nI 133, 0) 155 52 := X_at (r := mi155) rfl rfl
theorem x155_55 {z : P0} : X z 155 55 = XI mT z (X z) (.iload_n 1, 1, 1, 0, 0, [], 0, 0) 155 55 := X_at (r := mi155) rfl rfl
theorem x155_56 {z : P0} : X z 155 56 = XI mT z (X z) (.iadd, 1, 0, 0, 0, [], 0, 0) 155 56 := X_at (r := mi155) rfl rfl
theorem x155_57 {z : P0} : X z 155 57 = XI mT z (X z) (.iaload, 1, 0, 0, 0, [], 0, 0) 155 57 := X_at (r := mi155) rfl rfl
theorem x155_58 {z : P0} : X z 155 58 = XI mT z (X z) (.ireturn, 1, 0, 0, 0, [], 0, 0) 155 58 := X_at (r := mi155) rfl rfl
theorem x155_59 {z : P0} : X z 155 59 = XI mT z (X z) (.aload_n 0, 1, 0, 0, 0, [], 0, 0) 155 59 := X_at (r := mi155) rfl rfl
theorem x155_60 {z : P0} : X z 155 60 = XI mT z (X z) (.getfield 7, 3, 11, 0, 3, [134], 0, 0) 155 60 := X_at (r := mi155) rfl rfl
theorem x155_63 {z : P0} : X z 155 63 = XI mT z (X z) (.bipush 13, 2, 0, 0, 0, [], nI 13, 0) 155 63 := X_at (r := mi155) rfl rfl
theorem x155_65 {z : P0} : X z 155 65 = XI mT z (X z) (.iload_n 1, 1, 1, 0, 0, [], 0, 0) 155 65 := X_at (r := mi155) rfl rfl
theorem x155_66 {z : P0} : X z 155 66 = XI mT z (X z) (.iadd, 1, 0, 0, 0, [], 0, 0) 155 66 := X_at (r := mi155) rfl rfl
theorem x155_67 {z : P0} : X z 155 67 = XI mT z (X z) (.iaload, 1, 0, 0, 0, [], 0, 0) 155 67 := X_at (r := mi155) rfl rfl
theorem x155_68 {z : P0} : X z 155 68 = XI mT z (X z) (.ireturn, 1, 0, 0, 0, [], 0, 0) 155 68 := X_at (r := mi155) rfl rfl
theorem x155_69 {z : P0} : X z 155 69 = XI mT z (X z) (.aload_n 0, 1, 0, 0, 0, [], 0, 0) 155 69 := X_at (r := mi155) rfl rfl
theorem x155_70 {z : P0} : X z 155 70 = XI mT z (X z) (.getfield 7, 3, 11, 0, 3, [134], 0, 0) 155 70 := X_at (r := mi155) rfl rfl
theorem x155_73 {z : P0} : X z 155 73 = XI mT z (X z) (.bipush 33, 2, 0, 0, 0, [], nI 33, 0) 155 73 := X_at (r := mi155) rfl rfl
theorem x155_75 {z : P0} : X z 155 75 = XI mT z (X z) (.iload_n 1, 1, 1, 0, 0, [], 0, 0) 155 75 := X_at (r := mi155) rfl rfl
theorem x155_76 {z : P0} : X z 155 76 = XI mT z (X z) (.iadd, 1, 0, 0, 0, [], 0, 0) 155 76 := X_at (r := mi155) rfl rfl
theorem x155_77 {z : P0} : X z 155 77 = XI mT z (X z) (.iaload, 1, 0, 0, 0, [], 0, 0) 155 77 := X_at (r := mi155) rfl rfl
theorem x155_78 {z : P0} : X z 155 78 = XI mT z (X z) (.ireturn, 1, 0, 0, 0, [], 0, 0) 155 78 := X_at (r := mi155) rfl rfl
theorem x155_79 {z : P0} : X z 155 79 = XI mT z (X z) (.aload_n 0, 1, 0, 0, 0, [], 0, 0) 155 79 := X_at (r := mi155) rfl rfl
theorem x155_80 {z : P0} : X z 155 80 = XI mT z (X z) (.getfield 7, 3, 11, 0, 3, [134], 0, 0) 155 80 := X_at (r := mi155) rfl rfl
theorem x155_83 {z : P0} : X z 155 83 = XI mT z (X z) (.bipush 53, 2, 0, 0, 0, [], nI 53, 0) 155 83 := X_at (r := mi155) rfl rfl
theorem x155_85 {z : P0} : X z 155 85 = XI mT z (X z) (.iload_n 1, 1, 1, 0, 0, [], 0, 0) 155 85 := X_at (r := mi155) rfl rfl
theorem x155_86 {z : P0} : X z 155 86 = XI mT z (X z) (.iadd, 1, 0, 0, 0, [], 0, 0) 155 86 := X_at (r := mi155) rfl rfl
theorem x155_87 {z : P0} : X z 155 87 = XI mT z (X z) (.iaload, 1, 0, 0, 0, [], 0, 0) 155 87 := X_at (r := mi155) rfl rfl
theorem x155_88 {z : P0} : X z 155 88 = XI mT z (X z) (.ireturn, 1, 0, 0, 0, [], 0, 0) 155 88 := X_at (r := mi155) rfl rfl
theorem x155_89 {z : P0} : X z 155 89 = XI mT z (X z) (.aload_n 0, 1, 0, 0, 0, [], 0, 0) 155 89 := X_at (r := mi155) rfl rfl
theorem x155_90 {z : P0} : X z 155 90 = XI mT z (X z) (.getfield 7, 3, 11, 0, 3, [134], 0, 0) 155 90 := X_at (r := mi155) rfl rfl
theorem x155_93 {z : P0} : X z 155 93 = XI mT z (X z) (.bipush 73, 2, 0, 0, 0, [], nI 73, 0) 155 93 := X_at (r := mi155) rfl rfl
theorem x155_95 {z : P0} : X z 155 95 = XI mT z (X z) (.iload_n 1, 1, 1, 0, 0, [], 0, 0) 155 95 := X_at (r := mi155) rfl rfl
theorem x155_96 {z : P0} : X z 155 96 = XI mT z (X z) (.iadd, 1, 0, 0, 0, [], 0, 0) 155 96 := X_at (r := mi155) rfl rfl
theorem x155_97 {z : P0} : X z 155 97 = XI mT z (X z) (.iaload, 1, 0, 0, 0, [], 0, 0) 155 97 := X_at (r := mi155) rfl rfl
theorem x155_98 {z : P0} : X z 155 98 = XI mT z (X z) (.ireturn, 1, 0, 0, 0, [], 0, 0) 155 98 := X_at (r := mi155) rfl rfl
theorem x155_99 {z : P0} : X z 155 99 = XI mT z (X z) (.aload_n 0, 1, 0, 0, 0, [], 0, 0) 155 99 := X_at (r := mi155) rfl rfl
theorem x155_100 {z : P0} : X z 155 100 = XI mT z (X z) (.getfield 7, 3, 11, 0, 3, [134], 0, 0) 155 100 := X_at (r := mi155) rfl rfl
theorem x155_103 {z : P0} : X z 155 103 = XI mT z (X z) (.bipush 93, 2, 0, 0, 0, [], nI 93, 0) 155 103 := X_at (r := mi155) rfl rfl
theorem x155_105 {z : P0} : X z 155 105 = XI mT z (X z) (.iload_n 1, 1, 1, 0, 0, [], 0, 0) 155 105 := X_at (r := mi155) rfl rfl
theorem x155_106 {z : P0} : X z 155 106 = XI mT z (X z) (.iadd, 1, 0, 0, 0, [], 0, 0) 155 106 := X_at (r := mi155) rfl rfl
theorem x155_107 {z : P0} : X z 155 107 = XI mT z (X z) (.iaload, 1, 0, 0, 0, [], 0, 0) 155 107 := X_at (r := mi155) rfl rfl
theorem x155_108 {z : P0} : X z 155 108 = XI mT z (X z) (.ireturn, 1, 0, 0, 0, [], 0, 0) 155 108 := X_at (r := mi155) rfl rfl
theorem x155_109 {z : P0} : X z 155 109 = XI mT z (X z) (.aload_n 0, 1, 0, 0, 0, [], 0, 0) 155 109 := X_at (r := mi155) rfl rfl
theorem x155_110 {z : P0} : X z 155 110 = XI mT z (X z) (.getfield 7, 3, 11, 0, 3, [134], 0, 0) 155 110 := X_at (r := mi155) rfl rfl
theorem x155_113 {z : P0} : X z 155 113 = XI mT z (X z) (.bipush 113, 2, 0, 0, 0, [], nI 113, 0) 155 113 := X_at (r := mi155) rfl rfl
theorem x155_115 {z : P0} : X z 155 115 = XI mT z (X z) (.iload_n 1, 1, 1, 0, 0, [], 0, 0) 155 115 := X_at (r := mi155) rfl rfl
theorem x155_116 {z : P0} : X z 155 116 = XI mT z (X z) (.iadd, 1, 0, 0, 0, [], 0, 0) 155 116 := X_at (r := mi155) rfl rfl
theorem x155_117 {z : P0} : X z 155 117 = XI mT z (X z) (.iaload, 1, 0, 0, 0, [], 0, 0) 155 117 := X_at (r := mi155) rfl rfl
theorem x155_118 {z : P0} : X z 155 118 = XI mT z (X z) (.ireturn, 1, 0, 0, 0, [], 0, 0) 155 118 := X_at (r := mi155) rfl rfl
theorem x155_119 {z : P0} : X z 155 119 = XI mT z (X z) (.aload_n 0, 1, 0, 0, 0, [], 0, 0) 155 119 := X_at (r := mi155) rfl rfl
theorem x155_120 {z : P0} : X z 155 120 = XI mT z (X z) (.getfield 34, 3, 11, 11, 3, [142], 0, 0) 155 120 := X_at (r := mi155) rfl rfl
theorem x155_123 {z : P0} : X z 155 123 = XI mT z (X z) (.iload_n 1, 1, 1, 0, 0, [], 0, 0) 155 123 := X_at (r := mi155) rfl rfl
theorem x155_124 {z : P0} : X z 155 124 = XI mT z (X z) (.iaload, 1, 0, 0, 0, [], 0, 0) 155 124 := X_at (r := mi155) rfl rfl
theorem x155_125 {z : P0} : X z 155 125 = XI mT z (X z) (.ireturn, 1, 0, 0, 0, [], 0, 0) 155 125 := X_at (r := mi155) rfl rfl
theorem x155_126 {z : P0} : X z 155 126 = XI mT z (X z) (.aload_n 0, 1, 0, 0, 0, [], 0, 0) 155 126 := X_at (r := mi155) rfl rfl
theorem x155_127 {z : P0} : X z 155 127 = XI mT z (X z) (.iload_n 1, 1, 1, 0, 0, [], 0, 0) 155 127 := X_at (r := mi155) rfl rfl
theorem x155_128 {z : P0} : X z 155 128 = XI mT z (X z) (.invokevirtual 191, 3, 1, 154, 0, [142], 0, 0) 155 128 := X_at (r := mi155) rfl rfl
theorem x155_131 {z : P0} : X z 155 131 = XI mT z (X z) (.ireturn, 1, 0, 0, 0, [], 0, 0) 155 131 := X_at (r := mi155) rfl rfl
theorem x156_0 {z : P0} : X z 156 0 = XI mT z (X z) (.aload_n 0, 1, 0, 0, 0, [], 0, 0) 156 0 := X_at (r := mi156) rfl rfl
theorem x156_1 {z : P0} : X z 156 1 = XI mT z (X z) (.aload_n 0, 1, 0, 0, 0, [], 0, 0) 156 1 := X_at (r := mi156) rfl rfl
theorem x156_2 {z : P0} : X z 156 2 = XI mT z (X z) (.iload_n 1, 1, 1, 0, 0, [], 0, 0) 156 2 := X_at (r := mi156) rfl rfl
theorem x156_3 {z : P0} : X z 156 3 = XI mT z (X z) (.invokevirtual 154, 3, 1, 108, 0, [132], 0, 0) 156 3 := X_at (r := mi156) rfl rfl
theorem x156_6 {z : P0} : X z 156 6 = XI mT z (X z) (.ifCond .ne 7, 3, 13, 0, 0, [], 0, 0) 156 6 := X_at (r := mi156) rfl rfl
theorem x156_9 {z : P0} : X z 156 9 = XI mT z (X z) (.iconst 1, 1, 0, 0, 0, [], nI 1, 0) 156 9 := X_at (r := mi156) rfl rfl
theorem x156_10 {z : P0} : X z 156 10 = XI mT z (X z) (.goto 18, 3, 28, 0, 0, [], 0, 0) 156 10 := X_at (r := mi156) rfl rfl
theorem x156_13 {z : P0} : X z 156 13 = XI mT z (X z) (.iload_n 2, 1, 2, 0, 0, [], 0, 0) 156 13 := X_at (r := mi156) rfl rfl
theorem x156_14 {z : P0} : X z 156 14 = XI mT z (X z) (.iconst 0, 1, 0, 0, 0, [], nI 0, 0) 156 14 := X_at (r := mi156) rfl rfl
theorem x156_15 {z : P0} : X z 156 15 = XI mT z (X z) (.bipush 8, 2, 0, 0, 0, [], nI 8, 0) 156 15 := X_at (r := mi156) rfl rfl
theorem x156_17 {z : P0} : X z 156 17 = XI mT z (X z) (.invokestatic 47, 3, 3, 106, 0, [107], 0, 0) 156 17 := X_at (r := mi156) rfl rfl
theorem x156_20 {z : P0} : X z 156 20 = XI mT z (X z) (.ifCond .eq 7, 3, 27, 0, 0, [], 0, 0) 156 20 := X_at (r := mi156) rfl rfl
theorem x156_23 {z : P0} : X z 156 23 = XI mT z (X z) (.iconst 0, 1, 0, 0, 0, [], nI 0, 0) 156 23 := X_at (r := mi156) rfl rfl
theorem x156_24 {z : P0} : X z 156 24 = XI mT z (X z) (.goto 4, 3, 28, 0, 0, [], 0, 0) 156 24 := X_at (r := mi156) rfl rfl
theorem x156_27 {z : P0} : X z 156 27 = XI mT z (X z) (.iconst 2, 1, 0, 0, 0, [], nI 2, 0) 156 27 := X_at (r := mi156) rfl rfl
theorem x156_28 {z : P0} : X z 156 28 = XI mT z (X z) (.putfield 40, 3, 11, 5, 0, [144], 0, 0) 156 28 := X_at (r := mi156) rfl rfl
theorem x156_31 {z : P0} : X z 156 31 = XI mT z (X z) (.aload_n 0, 1, 0, 0, 0, [], 0, 0) 156 31 := X_at (r := mi156) rfl rfl
theorem x156_32 {z : P0} : X z 156 32 = XI mT z (X z) (.getfield 40, 3, 11, 5, 0, [144], 0, 0) 156 32 := X_at (r := mi156) rfl rfl
theorem x156_35 {z : P0} : X z 156 35 = XI mT z (X z) (.ifCond .le 5, 3, 40, 0, 0, [], 0, 0) 156 35 := X_at (r := mi156) rfl rfl
theorem x156_38 {z : P0} : X z 156 38 = XI mT z (X z) (.iconst 0, 1, 0, 0, 0, [], nI 0, 0) 156 38 := X_at (r := mi156) rfl rfl
theorem x156_39 {z : P0} : X z 156 39 = XI mT z (X z) (.ireturn, 1, 0, 0, 0, [], 0, 0) 156 39 := X_at (r := mi156) rfl rfl
theorem x156_40 {z : P0} : X z 156 40 = XI mT z (X z) (.aload_n 0, 1, 0, 0, 0, [], 0, 0) 156 40 := X_at (r := mi156) rfl rfl
theorem x156_41 {z : P0} : X z 156 41 = XI mT z (X z) (.invokevirtual 170, 3, 0, 130, 0, [137], 0, 0) 156 41 := X_at (r := mi156) rfl rfl
theorem x156_44 {z : P0} : X z 156 44 = XI mT z (X z) (.aload_n 0, 1, 0, 0, 0, [], 0, 0) 156 44 := X_at (r := mi156) rfl rfl
theorem x156_45 {z : P0} : X z 156 45 = XI mT z (X z) (.iload_n 1, 1, 1, 0, 0, [], 0, 0) 156 45 := X_at (r := mi156) rfl rfl
theorem x156_46 {z : P0} : X z 156 46 = XI mT z (X z) (.iload_n 2, 1, 2, 0, 0, [], 0, 0) 156 46 := X_at (r := mi156) rfl rfl
theorem x156_47 {z : P0} : X z 156 47 = XI mT z (X z) (.invokevirtual 194, 3, 2, 155, 0, [143], 0, 0) 156 47 := X_at (r := mi156) rfl rfl
theorem x156_50 {z : P0} : X z 156 50 = XI mT z (X z) (.ireturn, 1, 0, 0, 0, [], 0, 0) 156 50 := X_at (r := mi156) rfl rfl
theorem x157_0 {z : P0} : X z 157 0 = XI mT z (X z) (.aload_n 0, 1, 0, 0, 0, [], 0, 0) 157 0 := X_at (r := mi157) rfl rfl
theorem x157_1 {z : P0} : X z 157 1 = XI mT z (X z) (.aload_n 0, 1, 0, 0, 0, [], 0, 0) 157 1 := X_at (r := mi157) rfl rfl
theorem x157_2 {z : P0} : X z 157 2 = XI mT z (X z) (.iload_n 1, 1, 1, 0, 0, [], 0, 0) 157 2 := X_at (r := mi157) rfl rfl
theorem x157_3 {z : P0} : X z 157 3 = XI mT z (X z) (.invokevirtual 154, 3, 1, 108, 0, [132], 0, 0) 157 3 := X_at (r := mi157) rfl rfl
theorem x157_6 {z : P0} : X z 157 6 = XI mT z (X z) (.ifCond .eq 27, 3, 33, 0, 0, [], 0, 0) 157 6 := X_at (r := mi157) rfl rfl
theorem x157_9 {z : P0} : X z 157 9 = XI mT z (X z) (.iload_n 2, 1, 2, 0, 0, [], 0, 0) 157 9 := X_at (r := mi157) rfl rfl
theorem x157_10 {z : P0} : X z 157 10 = XI mT z (X z) (.iconst 0, 1, 0, 0, 0, [], nI 0, 0) 157 10 := X_at (r := mi157) rfl rfl
theorem x157_11 {z : P0} : X z 157 11 = XI mT z (X z) (.aload_n 0, 1, 0, 0, 0, [], 0, 0) 157 11 := X_at (r := mi157) rfl rfl
theorem x157_12 {z : P0} : X z 157 12 = XI mT z (X z) (.getfield 7, 3, 11, 0, 3, [134], 0, 0) 157 12 := X_at (r := mi157) rfl rfl
theorem x157_15 {z : P0} : X z 157 15 = XI mT z (X z) (.sipush 133, 3, 0, 0, 0, [], nI 133, 0) 157 15 := X_at (r := mi157) rfl rfl
theorem x157_18 {z : P0} : X z 157 18 = XI mT z (X z) (.iload_n 1, 1, 1, 0, 0, [], 0, 0) 157 18 := X_at (r := mi157) rfl rfl
theorem x157_19 {z : P0} : X z 157 19 = XI mT z (X z) (.iadd, 1, 0, 0, 0, [], 0, 0) 157 19 := X_at (r := mi157) rfl rfl
theorem x157_20 {z : P0} : X z 157 20 = XI mT z (X z) (.iaload, 1, 0, 0, 0, [], 0, 0) 157 20 := X_at (r := mi157) rfl rfl
theorem x157_21 {z : P0} : X z 157 21 = XI mT z (X z) (.iconst 1, 1, 0, 0, 0, [], nI 1, 0) 157 21 := X_at (r := mi157) rfl rfl
theorem x157_22 {z : P0} : X z 157 22 = XI mT z (X z) (.isub, 1, 0, 0, 0, [], 0, 0) 157 22 := X_at (r := mi157) rfl rfl
theorem x157_23 {z : P0} : X z 157 23 = XI mT z (X z) (.invokestatic 47, 3, 3, 106, 0, [107], 0, 0) 157 23 := X_at (r := mi157) rfl rfl
theorem x157_26 {z : P0} : X z 157 26 = XI mT z (X z) (.ifCond .eq 7, 3, 33, 0, 0, [], 0, 0) 157 26 := X_at (r := mi157) rfl rfl
theorem x157_29 {z : P0} : X z 157 29 = XI mT z (X z) (.iconst 0, 1, 0, 0, 0, [], nI 0, 0) 157 29 := X_at (r := mi157) rfl rfl
theorem x157_30 {z : P0} : X z 157 30 = XI mT z (X z) (.goto 4, 3, 34, 0, 0, [], 0, 0) 157 30 := X_at (r := mi157) rfl rfl
theorem x157_33 {z : P0} : X z 157 33 = XI mT z (X z) (.iconst 1, 1, 0, 0, 0, [], nI 1, 0) 157 33 := X_at (r := mi157) rfl rfl
theorem x157_34 {z : P0} : X z 157 34 = XI mT z (X z) (.putfield 40, 3, 11, 5, 0, [144], 0, 0) 157 34 := X_at (r := mi157) rfl rfl
theorem x157_37 {z : P0} : X z 157 37 = XI mT z (X z) (.aload_n 0, 1, 0, 0, 0, [], 0, 0) 157 37 := X_at (r := mi157) rfl rfl
theorem x157_38 {z : P0} : X z 157 38 = XI mT z (X z) (.getfield 40, 3, 11, 5, 0, [144], 0, 0) 157 38 := X_at (r := mi157) rfl rfl
theorem x157_41 {z : P0} : X z 157 41 = XI mT z (X z) (.ifCond .le 7, 3, 48, 0, 0, [], 0, 0) 157 41 := X_at (r := mi157) rfl rfl
theorem x157_44 {z : P0} : X z 157 44 = XI mT z (X z) (.iconst 0, 1, 0, 0, 0, [], nI 0, 0) 157 44 := X_at (r := mi157) rfl rfl
theorem x157_45 {z : P0} : X z 157 45 = XI mT z (X z) (.goto 18, 3, 63, 0, 0, [], 0, 0) 157 45 := X_at (r := mi157) rfl rfl
theorem x157_48 {z : P0} : X z 157 48 = XI mT z (X z) (.aload_n 0, 1, 0, 0, 0, [], 0, 0) 157 48 := X_at (r := mi157) rfl rfl
theorem x157_49 {z : P0} : X z 157 49 = XI mT z (X z) (.getfield 7, 3, 11, 0, 3, [134], 0, 0) 157 49 := X_at (r := mi157) rfl rfl
theorem x157_52 {z : P0} : X z 157 52 = XI mT z (X z) (.sipush 153, 3, 0, 0, 0, [], nI 153, 0) 157 52 := X_at (r := mi157) rfl rfl
theorem x157_55 {z : P0} : X z 157 55 = XI mT z (X z) (.bipush 8, 2, 0, 0, 0, [], nI 8, 0) 157 55 := X_at (r := mi157) rfl rfl
theorem x157_57 {z : P0} : X z 157 57 = XI mT z (X z) (.iload_n 1, 1, 1, 0, 0, [], 0, 0) 157 57 := X_at (r := mi157) rfl rfl
theorem x157_58 {z : P0} : X z 157 58 = XI mT z (X z) (.imul, 1, 0, 0, 0, [], 0, 0) 157 58 := X_at (r := mi157) rfl rfl
theorem x157_59 {z : P0} : X z 157 59 = XI mT z (X z) (.iadd, 1, 0, 0, 0, [], 0, 0) 157 59 := X_at (r := mi157) rfl rfl
theorem x157_60 {z : P0} : X z 157 60 = XI mT z (X z) (.iload_n 2, 1, 2, 0, 0, [], 0, 0) 157 60 := X_at (r := mi157) rfl rfl
theorem x157_61 {z : P0} : X z 157 61 = XI mT z (X z) (.iadd, 1, 0, 0, 0, [], 0, 0) 157 61 := X_at (r := mi157) rfl rfl
theorem x157_62 {z : P0} : X z 157 62 = XI mT z (X z) (.iaload, 1, 0, 0, 0, [], 0, 0) 157 62 := X_at (r := mi157) rfl rfl
theorem x157_63 {z : P0} : X z 157 63 = XI mT z (X z) (.ireturn, 1, 0, 0, 0, [], 0, 0) 157 63 := X_at (r := mi157) rfl rfl
theorem x158_0 {z : P0} : X z 158 0 = XI mT z (X z) (.iconst 0, 1, 0, 0, 0, [], nI 0, 0) 158 0 := X_at (r := mi158) rfl rfl
theorem x158_1 {z : P0} : X z 158 1 = XI mT z (X z) (.istore_n 2, 1, 2, 0, 0, [], 0, 0) 158 1 := X_at (r := mi158) rfl rfl
theorem x158_2 {z : P0} : X z 158 2 = XI mT z (X z) (.iconst 0, 1, 0, 0, 0, [], nI 0, 0) 158 2 := X_at (r := mi158) rfl rfl
theorem x158_3 {z : P0} : X z 158 3 = XI mT z (X z) (.istore_n 3, 1, 3, 0, 0, [], 0, 0) 158 3 := X_at (r := mi158) rfl rfl
theorem x158_4 {z : P0} : X z 158 4 = XI mT z (X z) (.iload_n 3, 1, 3, 0, 0, [], 0, 0) 158 4 := X_at (r := mi158) rfl rfl
theorem x158_5 {z : P0} : X z 158 5 = XI mT z (X z) (.aload_n 0, 1, 0, 0, 0, [], 0, 0) 158 5 := X_at (r := mi158) rfl rfl
theorem x158_6 {z : P0} : X z 158 6 = XI mT z (X z) (.getfield 7, 3, 11, 0, 3, [134], 0, 0) 158 6 := X_at (r := mi158) rfl rfl
theorem x158_9 {z : P0} : X z 158 9 = XI mT z (X z) (.bipush 6, 2, 0, 0, 0, [], nI 6, 0) 158 9 := X_at (r := mi158) rfl rfl
theorem x158_11 {z : P0} : X z 158 11 = XI mT z (X z) (.iaload, 1, 0, 0, 0, [], 0, 0) 158 11 := X_at (r := mi158) rfl rfl
theorem x158_12 {z : P0} : X z 158 12 = XI mT z (X z) (.if_icmp .ge 30, 3, 42, 0, 0, [], 0, 0) 158 12 := X_at (r := mi158) rfl rfl
theorem x158_15 {z : P0} : X z 158 15 = XI mT z (X z) (.iload_n 2, 1, 2, 0, 0, [], 0, 0) 158 15 := X_at (r := mi158) rfl rfl
theorem x158_16 {z : P0} : X z 158 16 = XI mT z (X z) (.aload_n 0, 1, 0, 0, 0, [], 0, 0) 158 16 := X_at (r := mi158) rfl rfl
theorem x158_17 {z : P0} : X z 158 17 = XI mT z (X z) (.getfield 7, 3, 11, 0, 3, [134], 0, 0) 158 17 := X_at (r := mi158) rfl rfl
theorem x158_20 {z : P0} : X z 158 20 = XI mT z (X z) (.bipush 53, 2, 0, 0, 0, [], nI 53, 0) 158 20 := X_at (r := mi158) rfl rfl
theorem x158_22 {z : P0} : X z 158 22 = XI mT z (X z) (.iload_n 3, 1, 3, 0, 0, [], 0, 0) 158 22 := X_at (r := mi158) rfl rfl
theorem x158_23 {z : P0} : X z 158 23 = XI mT z (X z) (.iadd, 1, 0, 0, 0, [], 0, 0) 158 23 := X_at (r := mi158) rfl rfl
theorem x158_24 {z : P0} : X z 158 24 = XI mT z (X z) (.iaload, 1, 0, 0, 0, [], 0, 0) 158 24 := X_at (r := mi158) rfl rfl
theorem x158_25 {z : P0} : X z 158 25 = XI mT z (X z) (.iload_n 1, 1, 1, 0, 0, [], 0, 0) 158 25 := X_at (r := mi158) rfl rfl
theorem x158_26 {z : P0} : X z 158 26 = XI mT z (X z) (.if_icmp .ne 7, 3, 33, 0, 0, [], 0, 0) 158 26 := X_at (r := mi158) rfl rfl
theorem x158_29 {z : P0} : X z 158 29 = XI mT z (X z) (.iconst 1, 1, 0, 0, 0, [], nI 1, 0) 158 29 := X_at (r := mi158) rfl rfl
theorem x158_30 {z : P0} : X z 158 30 = XI mT z (X z) (.goto 4, 3, 34, 0, 0, [], 0, 0) 158 30 := X_at (r := mi158) rfl rfl
theorem x158_33 {z : P0} : X z 158 33 = XI mT z (X z) (.iconst 0, 1, 0, 0, 0, [], nI 0, 0) 158 33 := X_at (r := mi158) rfl rfl
theorem x158_34 {z : P0} : X z 158 34 = XI mT z (X z) (.iadd, 1, 0, 0, 0, [], 0, 0) 158 34 := X_at (r := mi158) rfl rfl
theorem x158_35 {z : P0} : X z 158 35 = XI mT z (X z) (.istore_n 2, 1, 2, 0, 0, [], 0, 0) 158 35 := X_at (r := mi158) rfl rfl
theorem x158_36 {z : P0} : X z 158 36 = XI mT z (X z) (.iinc 3 1, 3, 3, 0, 0, [], nI 1, 0) 158 36 := X_at (r := mi158) rfl rfl
theorem x158_39 {z : P0} : X z 158 39 = XI mT z (X z) (.goto (-35), 3, 4, 0, 0, [], 0, 0) 158 39 := X_at (r := mi158) rfl rfl
theorem x158_42 {z : P0} : X z 158 42 = XI mT z (X z) (.iload_n 2, 1, 2, 0, 0, [], 0, 0) 158 42 := X_at (r := mi158) rfl rfl
theorem x158_43 {z : P0} : X z 158 43 = XI mT z (X z) (.ireturn, 1, 0, 0, 0, [], 0, 0) 158 43 := X_at (r := mi158) rfl rfl
theorem x159_0 {z : P0} : X z 159 0 = XI mT z (X z) (.iload_n 2, 1, 2, 0, 0, [], 0, 0) 159 0 := X_at (r := mi159) rfl rfl
theorem x159_1 {z : P0} : X z 159 1 = XI mT z (X z) (.tableswitch 65 0 3 #[31, 42, 53, 59], 31, 66, 0, 0, [32, 43, 54, 60], 0, 0) 159 1 := X_at (r := mi159) rfl rfl
theorem x159_32 {z : P0} : X z 159 32 = XI mT z (X z) (.aload_n 0, 1, 0, 0, 0, [], 0, 0) 159 32 := X_at (r := mi159) rfl rfl
theorem x159_33 {z : P0} : X z 159 33 = XI mT z (X z) (.getfield 7, 3, 11, 0, 3, [134], 0, 0) 159 33 := X_at (r := mi159) rfl rfl
theorem x159_36 {z : P0} : X z 159 36 = XI mT z (X z) (.sipush 313, 3, 0, 0, 0, [], nI 313, 0) 159 36 := X_at (r := mi159) rfl rfl
theorem x159_39 {z : P0} : X z 159 39 = XI mT z (X z) (.iload_n 1, 1, 1, 0, 0, [], 0, 0) 159 39 := X_at (r := mi159) rfl rfl
theorem x159_40 {z : P0} : X z 159 40 = XI mT z (X z) (.iadd, 1, 0, 0, 0, [], 0, 0) 159 40 := X_at (r := mi159) rfl rfl
theorem x159_41 {z : P0} : X z 159 41 = XI mT z (X z) (.iaload, 1, 0, 0, 0, [], 0, 0) 159 41 := X_at (r := mi159) rfl rfl
theorem x159_42 {z : P0} : X z 159 42 = XI mT z (X z) (.ireturn, 1, 0, 0, 0, [], 0, 0) 159 42 := X_at (r := mi159) rfl rfl
theorem x159_43 {z : P0} : X z 159 43 = XI mT z (X z) (.aload_n 0, 1, 0, 0, 0, [], 0, 0) 159 43 := X_at (r := mi159) rfl rfl
theorem x159_44 {z : P0} : X z 159 44 = XI mT z (X z) (.getfield 7, 3, 11, 0, 3, [134], 0, 0) 159 44 := X_at (r := mi159) rfl rfl
theorem x159_47 {z : P0} : X z 159 47 = XI mT z (X z) (.sipush 323, 3, 0, 0, 0, [], nI 323, 0) 159 47 := X_at (r := mi159) rfl rfl
theorem x159_50 {z : P0} : X z 159 50 = XI mT z (X z) (.iload_n 1, 1, 1, 0, 0, [], 0, 0) 159 50 := X_at (r := mi159) rfl rfl
theorem x159_51 {z : P0} : X z 159 51 = XI mT z (X z) (.iadd, 1, 0, 0, 0, [], 0, 0) 159 51 := X_at (r := mi159) rfl rfl
theorem x159_52 {z : P0} : X z 159 52 = XI mT z (X z) (.iaload, 1, 0, 0, 0, [], 0, 0) 159 52 := X_at (r := mi159) rfl rfl
theorem x159_53 {z : P0} : X z 159 53 = XI mT z (X z) (.ireturn, 1, 0, 0, 0, [], 0, 0) 159 53 := X_at (r := mi159) rfl rfl
theorem x159_54 {z : P0} : X z 159 54 = XI mT z (X z) (.aload_n 0, 1, 0, 0, 0, [], 0, 0) 159 54 := X_at (r := mi159) rfl rfl
theorem x159_55 {z : P0} : X z 159 55 = XI mT z (X z) (.iload_n 1, 1, 1, 0, 0, [], 0, 0) 159 55 := X_at (r := mi159) rfl rfl
theorem x159_56 {z : P0} : X z 159 56 = XI mT z (X z) (.invokevirtual 197, 3, 1, 158, 0, [144], 0, 0) 159 56 := X_at (r := mi159) rfl rfl
theorem x159_59 {z : P0} : X z 159 59 = XI mT z (X z) (.ireturn, 1, 0, 0, 0, [], 0, 0) 159 59 := X_at (r := mi159) rfl rfl
theorem x159_60 {z : P0} : X z 159 60 = XI mT z (X z) (.aload_n 0, 1, 0, 0, 0, [], 0, 0) 159 60 := X_at (r := mi159) rfl rfl
theorem x159_61 {z : P0} : X z 159 61 = XI mT z (X z) (.iload_n 1, 1, 1, 0, 0, [], 0, 0) 159 61 := X_at (r := mi159) rfl rfl
theorem x159_62 {z : P0} : X z 159 62 = XI mT z (X z) (.invokevirtual 79, 3, 1, 120, 0, [114], 0, 0) 159 62 := X_at (r := mi159) rfl rfl
theorem x159_65 {z : P0} : X z 159 65 = XI mT z (X z) (.ireturn, 1, 0, 0, 0, [], 0, 0) 159 65 := X_at (r := mi159) rfl rfl
theorem x159_66 {z : P0} : X z 159 66 = XI mT z (X z) (.iload_n 2, 1, 2, 0, 0, [], 0, 0) 159 66 := X_at (r := mi159) rfl rfl
theorem x159_67 {z : P0} : X z 159 67 = XI mT z (X z) (.bipush 10, 2, 0, 0, 0, [], nI 10, 0) 159 67 := X_at (r := mi159) rfl rfl
theorem x159_69 {z : P0} : X z 159 69 = XI mT z (X z) (.isub, 1, 0, 0, 0, [], 0, 0) 159 69 := X_at (r := mi159) rfl rfl
theorem x159_70 {z : P0} : X z 159 70 = XI mT z (X z) (.aload_n 0, 1, 0, 0, 0, [], 0, 0) 159 70 := X_at (r := mi159) rfl rfl
theorem x159_71 {z : P0} : X z 159 71 = XI mT z (X z) (.getfield 7, 3, 11, 0, 3, [134], 0, 0) 159 71 := X_at (r := mi159) rfl rfl
theorem x159_74 {z : P0} : X z 159 74 = XI mT z (X z) (.sipush 313, 3, 0, 0, 0, [], nI 313, 0) 159 74 := X_at (r := mi159) rfl rfl
theorem x159_77 {z : P0} : X z 159 77 = XI mT z (X z) (.iload_n 1, 1, 1, 0, 0, [], 0, 0) 159 77 := X_at (r := mi159) rfl rfl
theorem x159_78 {z : P0} : X z 159 78 = XI mT z (X z) (.iadd, 1, 0, 0, 0, [], 0, 0) 159 78 := X_at (r := mi159) rfl rfl
theorem x159_79 {z : P0} : X z 159 79 = XI mT z (X z) (.iaload, 1, 0, 0, 0, [], 0, 0) 159 79 := X_at (r := mi159) rfl rfl
theorem x159_80 {z : P0} : X z 159 80 = XI mT z (X z) (.if_icmp .ge 24, 3, 104, 0, 0, [], 0, 0) 159 80 := X_at (r := mi159) rfl rfl
theorem x159_83 {z : P0} : X z 159 83 = XI mT z (X z) (.aload_n 0, 1, 0, 0, 0, [], 0, 0) 159 83 := X_at (r := mi159) rfl rfl
theorem x159_84 {z : P0} : X z 159 84 = XI mT z (X z) (.getfield 7, 3, 11, 0, 3, [134], 0, 0) 159 84 := X_at (r := mi159) rfl rfl
theorem x159_87 {z : P0} : X z 159 87 = XI mT z (X z) (.sipush 333, 3, 0, 0, 0, [], nI 333, 0) 159 87 := X_at (r := mi159) rfl rfl
theorem x159_90 {z : P0} : X z 159 90 = XI mT z (X z) (.bipush 8, 2, 0, 0, 0, [], nI 8, 0) 159 90 := X_at (r := mi159) rfl rfl
theorem x159_92 {z : P0} : X z 159 92 = XI mT z (X z) (.iload_n 1, 1, 1, 0, 0, [], 0, 0) 159 92 := X_at (r := mi159) rfl rfl
theorem x159_93 {z : P0} : X z 159 93 = XI mT z (X z) (.imul, 1, 0, 0, 0, [], 0, 0) 159 93 := X_at (r := mi159) rfl rfl
theorem x159_94 {z : P0} : X z 159 94 = XI mT z (X z) (.iadd, 1, 0, 0, 0, [], 0, 0) 159 94 := X_at (r := mi159) rfl rfl
theorem x159_95 {z : P0} : X z 159 95 = XI mT z (X z) (.iload_n 2, 1, 2, 0, 0, [], 0, 0) 159 95 := X_at (r := mi159) rfl rfl
theorem x159_96 {z : P0} : X z 159 96 = XI mT z (X z) (.iadd, 1, 0, 0, 0, [], 0, 0) 159 96 := X_at (r := mi159) rfl rfl
theorem x159_97 {z : P0} : X z 159 97 = XI mT z (X z) (.bipush 10, 2, 0, 0, 0, [], nI 10, 0) 159 97 := X_at (r := mi159) rfl rfl
theorem x159_99 {z : P0} : X z 159 99 = XI mT z (X z) (.isub, 1, 0, 0, 0, [], 0, 0) 159 99 := X_at (r := mi159) rfl rfl
theorem x159_100 {z : P0} : X z 159 100 = XI mT z (X z) (.iaload, 1, 0, 0, 0, [], 0, 0) 159 100 := X_at (r := mi159) rfl rfl
theorem x159_101 {z : P0} : X z 159 101 = XI mT z (X z) (.goto 4, 3, 105, 0, 0, [], 0, 0) 159 101 := X_at (r := mi159) rfl rfl
theorem x159_104 {z : P0} : X z 159 104 = XI mT z (X z) (.iconst (-1), 1, 0, 0, 0, [], (-1), 0) 159 104 := X_at (r := mi159) rfl rfl
theorem x159_105 {z : P0} : X z 159 105 = XI mT z (X z) (.ireturn, 1, 0, 0, 0, [], 0, 0) 159 105 := X_at (r := mi159) rfl rfl
theorem x160_0 {z : P0} : X z 160 0 = XI mT z (X z) (.aload_n 0, 1, 0, 0, 0, [], 0, 0) 160 0 := X_at (r := mi160) rfl rfl
theorem x160_1 {z : P0} : X z 160 1 = XI mT z (X z) (.aload_n 0, 1, 0, 0, 0, [], 0, 0) 160 1 := X_at (r := mi160) rfl rfl
theorem x160_2 {z : P0} : X z 160 2 = XI mT z (X z) (.iload_n 1, 1, 1, 0, 0, [], 0, 0) 160 2 := X_at (r := mi160) rfl rfl
theorem x160_3 {z : P0} : X z 160 3 = XI mT z (X z) (.invokevirtual 157, 3, 1, 109, 0, [133], 0, 0) 160 3 := X_at (r := mi160) rfl rfl
theorem x160_6 {z : P0} : X z 160 6 = XI mT z (X z) (.ifCond .ne 7, 3, 13, 0, 0, [], 0, 0) 160 6 := X_at (r := mi160) rfl rfl
theorem x160_9 {z : P0} : X z 160 9 = XI mT z (X z) (.iconst 1, 1, 0, 0, 0, [], nI 1, 0) 160 9 := X_at (r := mi160) rfl rfl
theorem x160_10 {z : P0} : X z 160 10 = XI mT z (X z) (.goto 28, 3, 38, 0, 0, [], 0, 0) 160 10 := X_at (r := mi160) rfl rfl
theorem x160_13 {z : P0} : X z 160 13 = XI mT z (X z) (.iload_n 2, 1, 2, 0, 0, [], 0, 0) 160 13 := X_at (r := mi160) rfl rfl
theorem x160_14 {z : P0} : X z 160 14 = XI mT z (X z) (.iconst 0, 1, 0, 0, 0, [], nI 0, 0) 160 14 := X_at (r := mi160) rfl rfl
theorem x160_15 {z : P0} : X z 160 15 = XI mT z (X z) (.iconst 3, 1, 0, 0, 0, [], nI 3, 0) 160 15 := X_at (r := mi160) rfl rfl
theorem x160_16 {z : P0} : X z 160 16 = XI mT z (X z) (.invokestatic 47, 3, 3, 106, 0, [107], 0, 0) 160 16 := X_at (r := mi160) rfl rfl
theorem x160_19 {z : P0} : X z 160 19 = XI mT z (X z) (.ifCond .ne 14, 3, 33, 0, 0, [], 0, 0) 160 19 := X_at (r := mi160) rfl rfl
theorem x160_22 {z : P0} : X z 160 22 = XI mT z (X z) (.iload_n 2, 1, 2, 0, 0, [], 0, 0) 160 22 := X_at (r := mi160) rfl rfl
theorem x160_23 {z : P0} : X z 160 23 = XI mT z (X z) (.bipush 10, 2, 0, 0, 0, [], nI 10, 0) 160 23 := X_at (r := mi160) rfl rfl
theorem x160_25 {z : P0} : X z 160 25 = XI mT z (X z) (.bipush 17, 2, 0, 0, 0, [], nI 17, 0) 160 25 := X_at (r := mi160) rfl rfl
theorem x160_27 {z : P0} : X z 160 27 = XI mT z (X z) (.invokestatic 47, 3, 3, 106, 0, [107], 0, 0) 160 27 := X_at (r := mi160) rfl rfl
theorem x160_30 {z : P0} : X z 160 30 = XI mT z (X z) (.ifCond .eq 7, 3, 37, 0, 0, [], 0, 0) 160 30 := X_at (r := mi160) rfl rfl
theorem x160_33 {z : P0} : X z 160 33 = XI mT z (X z) (.iconst 0, 1, 0, 0, 0, [], nI 0, 0) 160 33 := X_at (r := mi160) rfl rfl
theorem x160_34 {z : P0} : X z 160 34 = XI mT z (X z) (.goto 4, 3, 38, 0, 0, [], 0, 0) 160 34 := X_at (r := mi160) rfl rfl
theorem x160_37 {z : P0} : X z 160 37 = XI mT z (X z) (.iconst 2, 1, 0, 0, 0, [], nI 2, 0) 160 37 := X_at (r := mi160) rfl rfl
theorem x160_38 {z : P0} : X z 160 38 = XI mT z (X z) (.putfield 40, 3, 11, 5, 0, [144], 0, 0) 160 38 := X_at (r := mi160) rfl rfl
theorem x160_41 {z : P0} : X z 160 41 = XI mT z (X z) (.aload_n 0, 1, 0, 0, 0, [], 0, 0) 160 41 := X_at (r := mi160) rfl rfl
theorem x160_42 {z : P0} : X z 160 42 = XI mT z (X z) (.getfield 40, 3, 11, 5, 0, [144], 0, 0) 160 42 := X_at (r := mi160) rfl rfl
theorem x160_45 {z : P0} : X z 160 45 = XI mT z (X z) (.ifCond .le 7, 3, 52, 0, 0, [], 0, 0) 160 45 := X_at (r := mi160) rfl rfl
theorem x160_48 {z : P0} : X z 160 48 = XI mT z (X z) (.iconst 0, 1, 0, 0, 0, [], nI 0, 0) 160 48 := X_at (r := mi160) rfl rfl
theorem x160_49 {z : P0} : X z 160 49 = XI mT z (X z) (.goto 9, 3, 58, 0, 0, [], 0, 0) 160 49 := X_at (r := mi160) rfl rfl
theorem x160_52 {z : P0} : X z 160 52 = XI mT z (X z) (.aload_n 0, 1, 0, 0, 0, [], 0, 0) 160 52 := X_at (r := mi160) rfl rfl
theorem x160_53 {z : P0} : X z 160 53 = XI mT z (X z) (.iload_n 1, 1, 1, 0, 0, [], 0, 0) 160 53 := X_at (r := mi160) rfl rfl
theorem x160_54 {z : P0} : X z 160 54 = XI mT z (X z) (.iload_n 2, 1, 2, 0, 0, [], 0, 0) 160 54 := X_at (r := mi160) rfl rfl
theorem x160_55 {z : P0} : X z 160 55 = XI mT z (X z) (.invokevirtual 200, 3, 2, 159, 0, [145], 0, 0) 160 55 := X_at (r := mi160) rfl rfl
theorem x160_58 {z : P0} : X z 160 58 = XI mT z (X z) (.ireturn, 1, 0, 0, 0, [], 0, 0) 160 58 := X_at (r := mi160) rfl rfl
theorem x161_0 {z : P0} : X z 161 0 = XI mT z (X z) (.iload_n 2, 1, 2, 0, 0, [], 0, 0) 161 0 := X_at (r := mi161) rfl rfl
theorem x161_1 {z : P0} : X z 161 1 = XI mT z (X z) (.tableswitch 105 0 6 #[43, 49, 56, 70, 77, 84, 91], 43, 106, 0, 0, [44, 50, 57, 71, 78, 85, 92], 0, 0) 161 1 := X_at (r := mi161) rfl rfl
theorem x161_44 {z : P0} : X z 161 44 = XI mT z (X z) (.aload_n 0, 1, 0, 0, 0, [], 0, 0) 161 44 := X_at (r := mi161) rfl rfl
theorem x161_45 {z : P0} : X z 161 45 = XI mT z (X z) (.iload_n 1, 1, 1, 0, 0, [], 0, 0) 161 45 := X_at (r := mi161) rfl rfl
theorem x161_46 {z : P0} : X z 161 46 = XI mT z (X z) (.invokevirtual 58, 3, 1, 113, 0, [109], 0, 0) 161 46 := X_at (r := mi161) rfl rfl
theorem x161_49 {z : P0} : X z 161 49 = XI mT z (X z) (.ireturn, 1, 0, 0, 0, [], 0, 0) 161 49 := X_at (r := mi161) rfl rfl
theorem x161_50 {z : P0} : X z 161 50 = XI mT z (X z) (.aload_n 0, 1, 0, 0, 0, [], 0, 0) 161 50 := X_at (r := mi161) rfl rfl
theorem x161_51 {z : P0} : X z 161 51 = XI mT z (X z) (.getfield 22, 3, 11, 7, 3, [138], 0, 0) 161 51 := X_at (r := mi161) rfl rfl
theorem x161_54 {z : P0} : X z 161 54 = XI mT z (X z) (.iload_n 1, 1, 1, 0, 0, [], 0, 0) 161 54 := X_at (r := mi161) rfl rfl
theorem x161_55 {z : P0} : X z 161 55 = XI mT z (X z) (.iaload, 1, 0, 0, 0, [], 0, 0) 161 55 := X_at (r := mi161) rfl rfl
theorem x161_56 {z : P0} : X z 161 56 = XI mT z (X z) (.ireturn, 1, 0, 0, 0, [], 0, 0) 161 56 := X_at (r := mi161) rfl rfl
theorem x161_57 {z : P0} : X z 161 57 = XI mT z (X z) (.aload_n 0, 1, 0, 0, 0, [], 0, 0) 161 57 := X_at (r := mi161) rfl rfl
theorem x161_58 {z : P0} : X z 161 58 = XI mT z (X z) (.getfield 7, 3, 11, 0, 3, [134], 0, 0) 161 58 := X_at (r := mi161) rfl rfl
theorem x161_61 {z : P0} : X z 161 61 = XI mT z (X z) (.bipush 13, 2, 0, 0, 0, [], nI 13, 0) 161 61 := X_at (r := mi161) rfl rfl
theorem x161_63 {z : P0} : X z 161 63 = XI mT z (X z) (.aload_n 0, 1, 0, 0, 0, [], 0, 0) 161 63 := X_at (r := mi161) rfl rfl
theorem x161_64 {z : P0} : X z 161 64 = XI mT z (X z) (.iload_n 1, 1, 1, 0, 0, [], 0, 0) 161 64 := X_at (r := mi161) rfl rfl
theorem x161_65 {z : P0} : X z 161 65 = XI mT z (X z) (.invokevirtual 58, 3, 1, 113, 0, [109], 0, 0) 161 65 := X_at (r := mi161) rfl rfl
theorem x161_68 {z : P0} : X z 161 68 = XI mT z (X z) (.iadd, 1, 0, 0, 0, [], 0, 0) 161 68 := X_at (r := mi161) rfl rfl
theorem x161_69 {z : P0} : X z 161 69 = XI mT z (X z) (.iaload, 1, 0, 0, 0, [], 0, 0) 161 69 := X_at (r := mi161) rfl rfl
theorem x161_70 {z : P0} : X z 161 70 = XI mT z (X z) (.ireturn, 1, 0, 0, 0, [], 0, 0) 161 70 := X_at (r := mi161) rfl rfl
theorem x161_71 {z : P0} : X z 161 71 = XI mT z (X z) (.aload_n 0, 1, 0, 0, 0, [], 0, 0) 161 71 := X_at (r := mi161) rfl rfl
theorem x161_72 {z : P0} : X z 161 72 = XI mT z (X z) (.getfield 25, 3, 11, 8, 3, [139], 0, 0) 161 72 := X_at (r := mi161) rfl rfl
theorem x161_75 {z : P0} : X z 161 75 = XI mT z (X z) (.iload_n 1, 1, 1, 0, 0, [], 0, 0) 161 75 := X_at (r := mi161) rfl rfl
theorem x161_76 {z : P0} : X z 161 76 = XI mT z (X z) (.iaload, 1, 0, 0, 0, [], 0, 0) 161 76 := X_at (r := mi161) rfl rfl
theorem x161_77 {z : P0} : X z 161 77 = XI mT z (X z) (.ireturn, 1, 0, 0, 0, [], 0, 0) 161 77 := X_at (r := mi161) rfl rfl
theorem x161_78 {z : P0} : X z 161 78 = XI mT z (X z) (.aload_n 0, 1, 0, 0, 0, [], 0, 0) 161 78 := X_at (r := mi161) rfl rfl
theorem x161_79 {z : P0} : X z 161 79 = XI mT z (X z) (.getfield 28, 3, 11, 9, 3, [140], 0, 0) 161 79 := X_at (r := mi161) rfl rfl
theorem x161_82 {z : P0} : X z 161 82 = XI mT z (X z) (.iload_n 1, 1, 1, 0, 0, [], 0, 0) 161 82 := X_at (r := mi161) rfl rfl
theorem x161_83 {z : P0} : X z 161 83 = XI mT z (X z) (.iaload, 1, 0, 0, 0, [], 0, 0) 161 83 := X_at (r := mi161) rfl rfl
theorem x161_84 {z : P0} : X z 161 84 = XI mT z (X z) (.ireturn, 1, 0, 0, 0, [], 0, 0) 161 84 := X_at (r := mi161) rfl rfl
theorem x161_85 {z : P0} : X z 161 85 = XI mT z (X z) (.aload_n 0, 1, 0, 0, 0, [], 0, 0) 161 85 := X_at (r := mi161) rfl rfl
theorem x161_86 {z : P0} : X z 161 86 = XI mT z (X z) (.getfield 31, 3, 11, 10, 3, [141], 0, 0) 161 86 := X_at (r := mi161) rfl rfl
theorem x161_89 {z : P0} : X z 161 89 = XI mT z (X z) (.iload_n 1, 1, 1, 0, 0, [], 0, 0) 161 89 := X_at (r := mi161) rfl rfl
theorem x161_90 {z : P0} : X z 161 90 = XI mT z (X z) (.iaload, 1, 0, 0, 0, [], 0, 0) 161 90 := X_at (r := mi161) rfl rfl
theorem x161_91 {z : P0} : X z 161 91 = XI mT z (X z) (.ireturn, 1, 0, 0, 0, [], 0, 0) 161 91 := X_at (r := mi161) rfl rfl
theorem x161_92 {z : P0} : X z 161 92 = XI mT z (X z) (.aload_n 0, 1, 0, 0, 0, [], 0, 0) 161 92 := X_at (r := mi161) rfl rfl
theorem x161_93 {z : P0} : X z 161 93 = XI mT z (X z) (.getfield 31, 3, 11, 10, 3, [141], 0, 0) 161 93 := X_at (r := mi161) rfl rfl
theorem x161_96 {z : P0} : X z 161 96 = XI mT z (X z) (.iload_n 1, 1, 1, 0, 0, [], 0, 0) 161 96 := X_at (r := mi161) rfl rfl
theorem x161_97 {z : P0} : X z 161 97 = XI mT z (X z) (.iaload, 1, 0, 0, 0, [], 0, 0) 161 97 := X_at (r := mi161) rfl rfl
theorem x161_98 {z : P0} : X z 161 98 = XI mT z (X z) (.aload_n 0, 1, 0, 0, 0, [], 0, 0) 161 98 := X_at (r := mi161) rfl rfl
theorem x161_99 {z : P0} : X z 161 99 = XI mT z (X z) (.getfield 7, 3, 11, 0, 3, [134], 0, 0) 161 99 := X_at (r := mi161) rfl rfl
theorem x161_102 {z : P0} : X z 161 102 = XI mT z (X z) (.iconst 5, 1, 0, 0, 0, [], nI 5, 0) 161 102 := X_at (r := mi161) rfl rfl
theorem x161_103 {z : P0} : X z 161 103 = XI mT z (X z) (.iaload, 1, 0, 0, 0, [], 0, 0) 161 103 := X_at (r := mi161) rfl rfl
theorem x161_104 {z : P0} : X z 161 104 = XI mT z (X z) (.imul, 1, 0, 0, 0, [], 0, 0) 161 104 := X_at (r := mi161) rfl rfl
theorem x161_105 {z : P0} : X z 161 105 = XI mT z (X z) (.ireturn, 1, 0, 0, 0, [], 0, 0) 161 105 := X_at (r := mi161) rfl rfl
theorem x161_106 {z : P0} : X z 161 106 = XI mT z (X z) (.aload_n 0, 1, 0, 0, 0, [], 0, 0) 161 106 := X_at (r := mi161) rfl rfl
theorem x161_107 {z : P0} : X z 161 107 = XI mT z (X z) (.iload_n 1, 1, 1, 0, 0, [], 0, 0) 161 107 := X_at (r := mi161) rfl rfl
theorem x161_108 {z : P0} : X z 161 108 = XI mT z (X z) (.invokevirtual 128, 3, 1, 131, 0, [127], 0, 0) 161 108 := X_at (r := mi161) rfl rfl
theorem x161_111 {z : P0} : X z 161 111 = XI mT z (X z) (.ifCond .eq 7, 3, 118, 0, 0, [], 0, 0) 161 111 := X_at (r := mi161) rfl rfl
theorem x161_114 {z : P0} : X z 161 114 = XI mT z (X z) (.iconst 1, 1, 0, 0, 0, [], nI 1, 0) 161 114 := X_at (r := mi161) rfl rfl
theorem x161_115 {z : P0} : X z 161 115 = XI mT z (X z) (.goto 4, 3, 119, 0, 0, [], 0, 0) 161 115 := X_at (r := mi161) rfl rfl
theorem x161_118 {z : P0} : X z 161 118 = XI mT z (X z) (.iconst 0, 1, 0, 0, 0, [], nI 0, 0) 161 118 := X_at (r := mi161) rfl rfl
theorem x161_119 {z : P0} : X z 161 119 = XI mT z (X z) (.ireturn, 1, 0, 0, 0, [], 0, 0) 161 119 := X_at (r := mi161) rfl rfl
theorem x162_0 {z : P0} : X z 162 0 = XI mT z (X z) (.aload_n 0, 1, 0, 0, 0, [], 0, 0) 162 0 := X_at (r := mi162) rfl rfl
theorem x162_1 {z : P0} : X z 162 1 = XI mT z (X z) (.invokevirtual 170, 3, 0, 130, 0, [137], 0, 0) 162 1 := X_at (r := mi162) rfl rfl
theorem x162_4 {z : P0} : X z 162 4 = XI mT z (X z) (.aload_n 0, 1, 0, 0, 0, [], 0, 0) 162 4 := X_at (r := mi162) rfl rfl
theorem x162_5 {z : P0} : X z 162 5 = XI mT z (X z) (.iload_n 1, 1, 1, 0, 0, [], 0, 0) 162 5 := X_at (r := mi162) rfl rfl
theorem x162_6 {z : P0} : X z 162 6 = XI mT z (X z) (.iconst 0, 1, 0, 0, 0, [], nI 0, 0) 162 6 := X_at (r := mi162) rfl rfl
theorem x162_7 {z : P0} : X z 162 7 = XI mT z (X z) (.aload_n 0, 1, 0, 0, 0, [], 0, 0) 162 7 := X_at (r := mi162) rfl rfl
theorem x162_8 {z : P0} : X z 162 8 = XI mT z (X z) (.getfield 55, 3, 11, 12, 0, [146], 0, 0) 162 8 := X_at (r := mi162) rfl rfl
theorem x162_11 {z : P0} : X z 162 11 = XI mT z (X z) (.iconst 1, 1, 0, 0, 0, [], nI 1, 0) 162 11 := X_at (r := mi162) rfl rfl
theorem x162_12 {z : P0} : X z 162 12 = XI mT z (X z) (.isub, 1, 0, 0, 0, [], 0, 0) 162 12 := X_at (r := mi162) rfl rfl
theorem x162_13 {z : P0} : X z 162 13 = XI mT z (X z) (.invokestatic 47, 3, 3, 106, 0, [107], 0, 0) 162 13 := X_at (r := mi162) rfl rfl
theorem x162_16 {z : P0} : X z 162 16 = XI mT z (X z) (.ifCond .ne 7, 3, 23, 0, 0, [], 0, 0) 162 16 := X_at (r := mi162) rfl rfl
theorem x162_19 {z : P0} : X z 162 19 = XI mT z (X z) (.iconst 1, 1, 0, 0, 0, [], nI 1, 0) 162 19 := X_at (r := mi162) rfl rfl
theorem x162_20 {z : P0} : X z 162 20 = XI mT z (X z) (.goto 18, 3, 38, 0, 0, [], 0, 0) 162 20 := X_at (r := mi162) rfl rfl
theorem x162_23 {z : P0} : X z 162 23 = XI mT z (X z) (.iload_n 2, 1, 2, 0, 0, [], 0, 0) 162 23 := X_at (r := mi162) rfl rfl
theorem x162_24 {z : P0} : X z 162 24 = XI mT z (X z) (.iconst 0, 1, 0, 0, 0, [], nI 0, 0) 162 24 := X_at (r := mi162) rfl rfl
theorem x162_25 {z : P0} : X z 162 25 = XI mT z (X z) (.bipush 7, 2, 0, 0, 0, [], nI 7, 0) 162 25 := X_at (r := mi162) rfl rfl
theorem x162_27 {z : P0} : X z 162 27 = XI mT z (X z) (.invokestatic 47, 3, 3, 106, 0, [107], 0, 0) 162 27 := X_at (r := mi162) rfl rfl
theorem x162_30 {z : P0} : X z 162 30 = XI mT z (X z) (.ifCond .eq 7, 3, 37, 0, 0, [], 0, 0) 162 30 := X_at (r := mi162) rfl rfl
theorem x162_33 {z : P0} : X z 162 33 = XI mT z (X z) (.iconst 0, 1, 0, 0, 0, [], nI 0, 0) 162 33 := X_at (r := mi162) rfl rfl
theorem x162_34 {z : P0} : X z 162 34 = XI mT z (X z) (.goto 4, 3, 38, 0, 0, [], 0, 0) 162 34 := X_at (r := mi162) rfl rfl
theorem x162_37 {z : P0} : X z 162 37 = XI mT z (X z) (.iconst 2, 1, 0, 0, 0, [], nI 2, 0) 162 37 := X_at (r := mi162) rfl rfl
theorem x162_38 {z : P0} : X z 162 38 = XI mT z (X z) (.putfield 40, 3, 11, 5, 0, [144], 0, 0) 162 38 := X_at (r := mi162) rfl rfl
theorem x162_41 {z : P0} : X z 162 41 = XI mT z (X z) (.aload_n 0, 1, 0, 0, 0, [], 0, 0) 162 41 := X_at (r := mi162) rfl rfl
theorem x162_42 {z : P0} : X z 162 42 = XI mT z (X z) (.getfield 40, 3, 11, 5, 0, [144], 0, 0) 162 42 := X_at (r := mi162) rfl rfl
theorem x162_45 {z : P0} : X z 162 45 = XI mT z (X z) (.ifCond .le 7, 3, 52, 0, 0, [], 0, 0) 162 45 := X_at (r := mi162) rfl rfl
theorem x162_48 {z : P0} : X z 162 48 = XI mT z (X z) (.iconst 0, 1, 0, 0, 0, [], nI 0, 0) 162 48 := X_at (r := mi162) rfl rfl
theorem x162_49 {z : P0} : X z 162 49 = XI mT z (X z) (.goto 9, 3, 58, 0, 0, [], 0, 0) 162 49 := X_at (r := mi162) rfl rfl
theorem x162_52 {z : P0} : X z 162 52 = XI mT z (X z) (.aload_n 0, 1, 0, 0, 0, [], 0, 0) 162 52 := X_at (r := mi162) rfl rfl
theorem x162_53 {z : P0} : X z 162 53 = XI mT z (X z) (.iload_n 1, 1, 1, 0, 0, [], 0, 0) 162 53 := X_at (r := mi162) rfl rfl
theorem x162_54 {z : P0} : X z 162 54 = XI mT z (X z) (.iload_n 2, 1, 2, 0, 0, [], 0, 0) 162 54 := X_at (r := mi162) rfl rfl
theorem x162_55 {z : P0} : X z 162 55 = XI mT z (X z) (.invokevirtual 203, 3, 2, 161, 0, [146], 0, 0) 162 55 := X_at (r := mi162) rfl rfl
theorem x162_58 {z : P0} : X z 162 58 = XI mT z (X z) (.ireturn, 1, 0, 0, 0, [], 0, 0) 162 58 := X_at (r := mi162) rfl rfl
theorem x163_0 {z : P0} : X z 163 0 = XI mT z (X z) (.aload_n 0, 1, 0, 0, 0, [], 0, 0) 163 0 := X_at (r := mi163) rfl rfl
theorem x163_1 {z : P0} : X z 163 1 = XI mT z (X z) (.invokevirtual 170, 3, 0, 130, 0, [137], 0, 0) 163 1 := X_at (r := mi163) rfl rfl
theorem x163_4 {z : P0} : X z 163 4 = XI mT z (X z) (.aload_n 0, 1, 0, 0, 0, [], 0, 0) 163 4 := X_at (r := mi163) rfl rfl
theorem x163_5 {z : P0} : X z 163 5 = XI mT z (X z) (.iload_n 1, 1, 1, 0, 0, [], 0, 0) 163 5 := X_at (r := mi163) rfl rfl
theorem x163_6 {z : P0} : X z 163 6 = XI mT z (X z) (.iconst 0, 1, 0, 0, 0, [], nI 0, 0) 163 6 := X_at (r := mi163) rfl rfl
theorem x163_7 {z : P0} : X z 163 7 = XI mT z (X z) (.aload_n 0, 1, 0, 0, 0, [], 0, 0) 163 7 := X_at (r := mi163) rfl rfl
theorem x163_8 {z : P0} : X z 163 8 = XI mT z (X z) (.getfield 55, 3, 11, 12, 0, [146], 0, 0) 163 8 := X_at (r := mi163) rfl rfl
theorem x163_11 {z : P0} : X z 163 11 = XI mT z (X z) (.iconst 1, 1, 0, 0, 0, [], nI 1, 0) 163 11 := X_at (r := mi163) rfl rfl
theorem x163_12 {z : P0} : X z 163 12 = XI mT z (X z) (.isub, 1, 0, 0, 0, [], 0, 0) 163 12 := X_at (r := mi163) rfl rfl
theorem x163_13 {z : P0} : X z 163 13 = XI mT z (X z) (.invokestatic 47, 3, 3, 106, 0, [107], 0, 0) 163 13 := X_at (r := mi163) rfl rfl
theorem x163_16 {z : P0} : X z 163 16 = XI mT z (X z) (.ifCond .eq 23, 3, 39, 0, 0, [], 0, 0) 163 16 := X_at (r := mi163) rfl rfl
theorem x163_19 {z : P0} : X z 163 19 = XI mT z (X z) (.iload_n 2, 1, 2, 0, 0, [], 0, 0) 163 19 := X_at (r := mi163) rfl rfl
theorem x163_20 {z : P0} : X z 163 20 = XI mT z (X z) (.iconst 0, 1, 0, 0, 0, [], nI 0, 0) 163 20 := X_at (r := mi163) rfl rfl
theorem x163_21 {z : P0} : X z 163 21 = XI mT z (X z) (.aload_n 0, 1, 0, 0, 0, [], 0, 0) 163 21 := X_at (r := mi163) rfl rfl
theorem x163_22 {z : P0} : X z 163 22 = XI mT z (X z) (.getfield 25, 3, 11, 8, 3, [139], 0, 0) 163 22 := X_at (r := mi163) rfl rfl
theorem x163_25 {z : P0} : X z 163 25 = XI mT z (X z) (.iload_n 1, 1, 1, 0, 0, [], 0, 0) 163 25 := X_at (r := mi163) rfl rfl
theorem x163_26 {z : P0} : X z 163 26 = XI mT z (X z) (.iaload, 1, 0, 0, 0, [], 0, 0) 163 26 := X_at (r := mi163) rfl rfl
theorem x163_27 {z : P0} : X z 163 27 = XI mT z (X z) (.iconst 1, 1, 0, 0, 0, [], nI 1, 0) 163 27 := X_at (r := mi163) rfl rfl
theorem x163_28 {z : P0} : X z 163 28 = XI mT z (X z) (.isub, 1, 0, 0, 0, [], 0, 0) 163 28 := X_at (r := mi163) rfl rfl
theorem x163_29 {z : P0} : X z 163 29 = XI mT z (X z) (.invokestatic 47, 3, 3, 106, 0, [107], 0, 0) 163 29 := X_at (r := mi163) rfl rfl
theorem x163_32 {z : P0} : X z 163 32 = XI mT z (X z) (.ifCond .eq 7, 3, 39, 0, 0, [], 0, 0) 163 32 := X_at (r := mi163) rfl rfl
theorem x163_35 {z : P0} : X z 163 35 = XI mT z (X z) (.iconst 0, 1, 0, 0, 0, [], nI 0, 0) 163 35 := X_at (r := mi163) rfl rfl
theorem x163_36 {z : P0} : X z 163 36 = XI mT z (X z) (.goto 4, 3, 40, 0, 0, [], 0, 0) 163 36 := X_at (r := mi163) rfl rfl
theorem x163_39 {z : P0} : X z 163 39 = XI mT z (X z) (.iconst 1, 1, 0, 0, 0, [], nI 1, 0) 163 39 := X_at (r := mi163) rfl rfl
theorem x163_40 {z : P0} : X z 163 40 = XI mT z (X z) (.putfield 40, 3, 11, 5, 0, [144], 0, 0) 163 40 := X_at (r := mi163) rfl rfl
theorem x163_43 {z : P0} : X z 163 43 = XI mT z (X z) (.aload_n 0, 1, 0, 0, 0, [], 0, 0) 163 43 := X_at (r := mi163) rfl rfl
theorem x163_44 {z : P0} : X z 163 44 = XI mT z (X z) (.getfield 40, 3, 11, 5, 0, [144], 0, 0) 163 44 := X_at (r := mi163) rfl rfl
theorem x163_47 {z : P0} : X z 163 47 = XI mT z (X z) (.ifCond .le 5, 3, 52, 0, 0, [], 0, 0) 163 47 := X_at (r := mi163) rfl rfl
theorem x163_50 {z : P0} : X z 163 50 = XI mT z (X z) (.iconst 0, 1, 0, 0, 0, [], nI 0, 0) 163 50 := X_at (r := mi163) rfl rfl
theorem x163_51 {z : P0} : X z 163 51 = XI mT z (X z) (.ireturn, 1, 0, 0, 0, [], 0, 0) 163 51 := X_at (r := mi163) rfl rfl
theorem x163_52 {z : P0} : X z 163 52 = XI mT z (X z) (.aload_n 0, 1, 0, 0, 0, [], 0, 0) 163 52 := X_at (r := mi163) rfl rfl
theorem x163_53 {z : P0} : X z 163 53 = XI mT z (X z) (.iload_n 1, 1, 1, 0, 0, [], 0, 0) 163 53 := X_at (r := mi163) rfl rfl
theorem x163_54 {z : P0} : X z 163 54 = XI mT z (X z) (.invokevirtual 122, 3, 1, 124, 0, [125], 0, 0) 163 54 := X_at (r := mi163) rfl rfl
theorem x163_57 {z : P0} : X z 163 57 = XI mT z (X z) (.aload_n 0, 1, 0, 0, 0, [], 0, 0) 163 57 := X_at (r := mi163) rfl rfl
theorem x163_58 {z : P0} : X z 163 58 = XI mT z (X z) (.getfield 37, 3, 11, 13, 3, [143], 0, 0) 163 58 := X_at (r := mi163) rfl rfl
theorem x163_61 {z : P0} : X z 163 61 = XI mT z (X z) (.iload_n 2, 1, 2, 0, 0, [], 0, 0) 163 61 := X_at (r := mi163) rfl rfl
theorem x163_62 {z : P0} : X z 163 62 = XI mT z (X z) (.iaload, 1, 0, 0, 0, [], 0, 0) 163 62 := X_at (r := mi163) rfl rfl
theorem x163_63 {z : P0} : X z 163 63 = XI mT z (X z) (.ireturn, 1, 0, 0, 0, [], 0, 0) 163 63 := X_at (r := mi163) rfl rfl
theorem x164_0 {z : P0} : X z 164 0 = XI mT z (X z) (.aload_n 0, 1, 0, 0, 0, [], 0, 0) 164 0 := X_at (r := mi164) rfl rfl
theorem x164_1 {z : P0} : X z 164 1 = XI mT z (X z) (.invokevirtual 170, 3, 0, 130, 0, [137], 0, 0) 164 1 := X_at (r := mi164) rfl rfl
theorem x164_4 {z : P0} : X z 164 4 = XI mT z (X z) (.aload_n 0, 1, 0, 0, 0, [], 0, 0) 164 4 := X_at (r := mi164) rfl rfl
theorem x164_5 {z : P0} : X z 164 5 = XI mT z (X z) (.iload_n 1, 1, 1, 0, 0, [], 0, 0) 164 5 := X_at (r := mi164) rfl rfl
theorem x164_6 {z : P0} : X z 164 6 = XI mT z (X z) (.iconst 0, 1, 0, 0, 0, [], nI 0, 0) 164 6 := X_at (r := mi164) rfl rfl
theorem x164_7 {z : P0} : X z 164 7 = XI mT z (X z) (.aload_n 0, 1, 0, 0, 0, [], 0, 0) 164 7 := X_at (r := mi164) rfl rfl
theorem x164_8 {z : P0} : X z 164 8 = XI mT z (X z) (.getfield 55, 3, 11, 12, 0, [146], 0, 0) 164 8 := X_at (r := mi164) rfl rfl
theorem x164_11 {z : P0} : X z 164 11 = XI mT z (X z) (.iconst 1, 1, 0, 0, 0, [], nI 1, 0) 164 11 := X_at (r := mi164) rfl rfl
theorem x164_12 {z : P0} : X z 164 12 = XI mT z (X z) (.isub, 1, 0, 0, 0, [], 0, 0) 164 12 := X_at (r := mi164) rfl rfl
theorem x164_13 {z : P0} : X z 164 13 = XI mT z (X z) (.invokestatic 47, 3, 3, 106, 0, [107], 0, 0) 164 13 := X_at (r := mi164) rfl rfl
theorem x164_16 {z : P0} : X z 164 16 = XI mT z (X z) (.ifCond .eq 7, 3, 23, 0, 0, [], 0, 0) 164 16 := X_at (r := mi164) rfl rfl
theorem x164_19 {z : P0} : X z 164 19 = XI mT z (X z) (.iconst 0, 1, 0, 0, 0, [], nI 0, 0) 164 19 := X_at (r := mi164) rfl rfl
theorem x164_20 {z : P0} : X z 164 20 = XI mT z (X z) (.goto 4, 3, 24, 0, 0, [], 0, 0) 164 20 := X_at (r := mi164) rfl rfl
theorem x164_23 {z : P0} : X z 164 23 = XI mT z (X z) (.iconst 1, 1, 0, 0, 0, [], nI 1, 0) 164 23 := X_at (r := mi164) rfl rfl
theorem x164_24 {z : P0} : X z 164 24 = XI mT z (X z) (.putfield 40, 3, 11, 5, 0, [144], 0, 0) 164 24 := X_at (r := mi164) rfl rfl
theorem x164_27 {z : P0} : X z 164 27 = XI mT z (X z) (.aload_n 0, 1, 0, 0, 0, [], 0, 0) 164 27 := X_at (r := mi164) rfl rfl
theorem x164_28 {z : P0} : X z 164 28 = XI mT z (X z) (.getfield 40, 3, 11, 5, 0, [144], 0, 0) 164 28 := X_at (r := mi164) rfl rfl
theorem x164_31 {z : P0} : X z 164 31 = XI mT z (X z) (.ifCond .le 7, 3, 38, 0, 0, [], 0, 0) 164 31 := X_at (r := mi164) rfl rfl
theorem x164_34 {z : P0} : X z 164 34 = XI mT z (X z) (.iconst 0, 1, 0, 0, 0, [], nI 0, 0) 164 34 := X_at (r := mi164) rfl rfl
theorem x164_35 {z : P0} : X z 164 35 = XI mT z (X z) (.goto 9, 3, 44, 0, 0, [], 0, 0) 164 35 := X_at (r := mi164) rfl rfl
theorem x164_38 {z : P0} : X z 164 38 = XI mT z (X z) (.aload_n 0, 1, 0, 0, 0, [], 0, 0) 164 38 := X_at (r := mi164) rfl rfl
theorem x164_39 {z : P0} : X z 164 39 = XI mT z (X z) (.getfield 19, 3, 11, 6, 3, [137], 0, 0) 164 39 := X_at (r := mi164) rfl rfl
theorem x164_42 {z : P0} : X z 164 42 = XI mT z (X z) (.iload_n 1, 1, 1, 0, 0, [], 0, 0) 164 42 := X_at (r := mi164) rfl rfl
theorem x164_43 {z : P0} : X z 164 43 = XI mT z (X z) (.iaload, 1, 0, 0, 0, [], 0, 0) 164 43 := X_at (r := mi164) rfl rfl
theorem x164_44 {z : P0} : X z 164 44 = XI mT z (X z) (.ireturn, 1, 0, 0, 0, [], 0, 0) 164 44 := X_at (r := mi164) rfl rfl
theorem x165_0 {z : P0} : X z 165 0 = XI mT z (X z) (.iload_n 1, 1, 1, 0, 0, [], 0, 0) 165 0 := X_at (r := mi165) rfl rfl
theorem x165_1 {z : P0} : X z 165 1 = XI mT z (X z) (.tableswitch 157 0 13 #[71, 79, 87, 92, 100, 105, 105, 105, 105, 113, 121, 129, 137, 142], 71, 158, 0, 0, [72, 80, 88, 93, 101, 106, 106, 106, 106, 114, 122, 130, 138, 143], 0, 0) 165 1 := X_at (r := mi165) rfl rfl
theorem x165_72 {z : P0} : X z 165 72 = XI mT z (X z) (.aload_n 0, 1, 0, 0, 0, [], 0, 0) 165 72 := X_at (r := mi165) rfl rfl
theorem x165_73 {z : P0} : X z 165 73 = XI mT z (X z) (.getfield 7, 3, 11, 0, 3, [134], 0, 0) 165 73 := X_at (r := mi165) rfl rfl
theorem x165_76 {z : P0} : X z 165 76 = XI mT z (X z) (.bipush 6, 2, 0, 0, 0, [], nI 6, 0) 165 76 := X_at (r := mi165) rfl rfl
theorem x165_78 {z : P0} : X z 165 78 = XI mT z (X z) (.iaload, 1, 0, 0, 0, [], 0, 0) 165 78 := X_at (r := mi165) rfl rfl
theorem x165_79 {z : P0} : X z 165 79 = XI mT z (X z) (.ireturn, 1, 0, 0, 0, [], 0, 0) 165 79 := X_at (r := mi165) rfl rfl
theorem x165_80 {z : P0} : X z 165 80 = XI mT z (X z) (.aload_n 0, 1, 0, 0, 0, [], 0, 0) 165 80 := X_at (r := mi165) rfl rfl
theorem x165_81 {z : P0} : X z 165 81 = XI mT z (X z) (.getfield 7, 3, 11, 0, 3, [134], 0, 0) 165 81 := X_at (r := mi165) rfl rfl
theorem x165_84 {z : P0} : X z 165 84 = XI mT z (X z) (.bipush 7, 2, 0, 0, 0, [], nI 7, 0) 165 84 := X_at (r := mi165) rfl rfl
theorem x165_86 {z : P0} : X z 165 86 = XI mT z (X z) (.iaload, 1, 0, 0, 0, [], 0, 0) 165 86 := X_at (r := mi165) rfl rfl
theorem x165_87 {z : P0} : X z 165 87 = XI mT z (X z) (.ireturn, 1, 0, 0, 0, [], 0, 0) 165 87 := X_at (r := mi165) rfl rfl
theorem x165_88 {z : P0} : X z 165 88 = XI mT z (X z) (.aload_n 0, 1, 0, 0, 0, [], 0, 0) 165 88 := X_at (r := mi165) rfl rfl
theorem x165_89 {z : P0} : X z 165 89 = XI mT z (X z) (.invokevirtual 150, 3, 0, 111, 0, [131], 0, 0) 165 89 := X_at (r := mi165) rfl rfl
theorem x165_92 {z : P0} : X z 165 92 = XI mT z (X z) (.ireturn, 1, 0, 0, 0, [], 0, 0) 165 92 := X_at (r := mi165) rfl rfl
theorem x165_93 {z : P0} : X z 165 93 = XI mT z (X z) (.aload_n 0, 1, 0, 0, 0, [], 0, 0) 165 93 := X_at (r := mi165) rfl rfl
theorem x165_94 {z : P0} : X z 165 94 = XI mT z (X z) (.getfield 7, 3, 11, 0, 3, [134], 0, 0) 165 94 := X_at (r := mi165) rfl rfl
theorem x165_97 {z : P0} : X z 165 97 = XI mT z (X z) (.bipush 8, 2, 0, 0, 0, [], nI 8, 0) 165 97 := X_at (r := mi165) rfl rfl
theorem x165_99 {z : P0} : X z 165 99 = XI mT z (X z) (.iaload, 1, 0, 0, 0, [], 0, 0) 165 99 := X_at (r := mi165) rfl rfl
theorem x165_100 {z : P0} : X z 165 100 = XI mT z (X z) (.ireturn, 1, 0, 0, 0, [], 0, 0) 165 100 := X_at (r := mi165) rfl rfl
theorem x165_101 {z : P0} : X z 165 101 = XI mT z (X z) (.aload_n 0, 1, 0, 0, 0, [], 0, 0) 165 101 := X_at (r := mi165) rfl rfl
theorem x165_102 {z : P0} : X z 165 102 = XI mT z (X z) (.getfield 55, 3, 11, 12, 0, [146], 0, 0) 165 102 := X_at (r := mi165) rfl rfl
theorem x165_105 {z : P0} : X z 165 105 = XI mT z (X z) (.ireturn, 1, 0, 0, 0, [], 0, 0) 165 105 := X_at (r := mi165) rfl rfl
theorem x165_106 {z : P0} : X z 165 106 = XI mT z (X z) (.aload_n 0, 1, 0, 0, 0, [], 0, 0) 165 106 := X_at (r := mi165) rfl rfl
theorem x165_107 {z : P0} : X z 165 107 = XI mT z (X z) (.iload_n 1, 1, 1, 0, 0, [], 0, 0) 165 107 := X_at (r := mi165) rfl rfl
theorem x165_108 {z : P0} : X z 165 108 = XI mT z (X z) (.iconst 5, 1, 0, 0, 0, [], nI 5, 0) 165 108 := X_at (r := mi165) rfl rfl
theorem x165_109 {z : P0} : X z 165 109 = XI mT z (X z) (.isub, 1, 0, 0, 0, [], 0, 0) 165 109 := X_at (r := mi165) rfl rfl
theorem x165_110 {z : P0} : X z 165 110 = XI mT z (X z) (.invokevirtual 173, 3, 1, 132, 0, [138], 0, 0) 165 110 := X_at (r := mi165) rfl rfl
theorem x165_113 {z : P0} : X z 165 113 = XI mT z (X z) (.ireturn, 1, 0, 0, 0, [], 0, 0) 165 113 := X_at (r := mi165) rfl rfl
theorem x165_114 {z : P0} : X z 165 114 = XI mT z (X z) (.aload_n 0, 1, 0, 0, 0, [], 0, 0) 165 114 := X_at (r := mi165) rfl rfl
theorem x165_115 {z : P0} : X z 165 115 = XI mT z (X z) (.getfield 7, 3, 11, 0, 3, [134], 0, 0) 165 115 := X_at (r := mi165) rfl rfl
theorem x165_118 {z : P0} : X z 165 118 = XI mT z (X z) (.bipush 9, 2, 0, 0, 0, [], nI 9, 0) 165 118 := X_at (r := mi165) rfl rfl
theorem x165_120 {z : P0} : X z 165 120 = XI mT z (X z) (.iaload, 1, 0, 0, 0, [], 0, 0) 165 120 := X_at (r := mi165) rfl rfl
theorem x165_121 {z : P0} : X z 165 121 = XI mT z (X z) (.ireturn, 1, 0, 0, 0, [], 0, 0) 165 121 := X_at (r := mi165) rfl rfl
theorem x165_122 {z : P0} : X z 165 122 = XI mT z (X z) (.aload_n 0, 1, 0, 0, 0, [], 0, 0) 165 122 := X_at (r := mi165) rfl rfl
theorem x165_123 {z : P0} : X z 165 123 = XI mT z (X z) (.getfield 7, 3, 11, 0, 3, [134], 0, 0) 165 123 := X_at (r := mi165) rfl rfl
theorem x165_126 {z : P0} : X z 165 126 = XI mT z (X z) (.bipush 10, 2, 0, 0, 0, [], nI 10, 0) 165 126 := X_at (r := mi165) rfl rfl
theorem x165_128 {z : P0} : X z 165 128 = XI mT z (X z) (.iaload, 1, 0, 0, 0, [], 0, 0) 165 128 := X_at (r := mi165) rfl rfl
theorem x165_129 {z : P0} : X z 165 129 = XI mT z (X z) (.ireturn, 1, 0, 0, 0, [], 0, 0) 165 129 := X_at (r := mi165) rfl rfl
theorem x165_130 {z : P0} : X z 165 130 = XI mT z (X z) (.aload_n 0, 1, 0, 0, 0, [], 0, 0) 165 130 := X_at (r := mi165) rfl rfl
theorem x165_131 {z : P0} : X z 165 131 = XI mT z (X z) (.getfield 7, 3, 11, 0, 3, [134], 0, 0) 165 131 := X_at (r := mi165) rfl rfl
theorem x165_134 {z : P0} : X z 165 134 = XI mT z (X z) (.bipush 11, 2, 0, 0, 0, [], nI 11, 0) 165 134 := X_at (r := mi165) rfl rfl
theorem x165_136 {z : P0} : X z 165 136 = XI mT z (X z) (.iaload, 1, 0, 0, 0, [], 0, 0) 165 136 := X_at (r := mi165) rfl rfl
theorem x165_137 {z : P0} : X z 165 137 = XI mT z (X z) (.ireturn, 1, 0, 0, 0, [], 0, 0) 165 137 := X_at (r := mi165) rfl rfl
theorem x165_138 {z : P0} : X z 165 138 = XI mT z (X z) (.aload_n 0, 1, 0, 0, 0, [], 0, 0) 165 138 := X_at (r := mi165) rfl rfl
theorem x165_139 {z : P0} : X z 165 139 = XI mT z (X z) (.invokevirtual 160, 3, 0, 138, 0, [134], 0, 0) 165 139 := X_at (r := mi165) rfl rfl
theorem x165_142 {z : P0} : X z 165 142 = XI mT z (X z) (.ireturn, 1, 0, 0, 0, [], 0, 0) 165 142 := X_at (r := mi165) rfl rfl
theorem x165_143 {z : P0} : X z 165 143 = XI mT z (X z) (.aload_n 0, 1, 0, 0, 0, [], 0, 0) 165 143 := X_at (r := mi165) rfl rfl
theorem x165_144 {z : P0} : X z 165 144 = XI mT z (X z) (.getfield 7, 3, 11, 0, 3, [134], 0, 0) 165 144 := X_at (r := mi165) rfl rfl
theorem x165_147 {z : P0} : X z 165 147 = XI mT z (X z) (.bipush 12, 2, 0, 0, 0, [], nI 12, 0) 165 147 := X_at (r := mi165) rfl rfl
theorem x165_149 {z : P0} : X z 165 149 = XI mT z (X z) (.iaload, 1, 0, 0, 0, [], 0, 0) 165 149 := X_at (r := mi165) rfl rfl
theorem x165_150 {z : P0} : X z 165 150 = XI mT z (X z) (.aload_n 0, 1, 0, 0, 0, [], 0, 0) 165 150 := X_at (r := mi165) rfl rfl
theorem x165_151 {z : P0} : X z 165 151 = XI mT z (X z) (.bipush 125, 2, 0, 0, 0, [], nI 125, 0) 165 151 := X_at (r := mi165) rfl rfl
theorem x165_153 {z : P0} : X z 165 153 = XI mT z (X z) (.invokevirtual 51, 3, 1, 110, 0, [108], 0, 0) 165 153 := X_at (r := mi165) rfl rfl
theorem x165_156 {z : P0} : X z 165 156 = XI mT z (X z) (.isub, 1, 0, 0, 0, [], 0, 0) 165 156 := X_at (r := mi165) rfl rfl
theorem x165_157 {z : P0} : X z 165 157 = XI mT z (X z) (.ireturn, 1, 0, 0, 0, [], 0, 0) 165 157 := X_at (r := mi165) rfl rfl
theorem x165_158 {z : P0} : X z 165 158 = XI mT z (X z) (.aload_n 0, 1, 0, 0, 0, [], 0, 0) 165 158 := X_at (r := mi165) rfl rfl
theorem x165_159 {z : P0} : X z 165 159 = XI mT z (X z) (.getfield 44, 3, 11, 1, 0, [145], 0, 0) 165 159 := X_at (r := mi165) rfl rfl
theorem x165_162 {z : P0} : X z 165 162 = XI mT z (X z) (.ireturn, 1, 0, 0, 0, [], 0, 0) 165 162 := X_at (r := mi165) rfl rfl
theorem x166_0 {z : P0} : X z 166 0 = XI mT z (X z) (.aload_n 0, 1, 0, 0, 0, [], 0, 0) 166 0 := X_at (r := mi166) rfl rfl
theorem x166_1 {z : P0} : X z 166 1 = XI mT z (X z) (.iload_n 1, 1, 1, 0, 0, [], 0, 0) 166 1 := X_at (r := mi166) rfl rfl
theorem x166_2 {z : P0} : X z 166 2 = XI mT z (X z) (.iconst 0, 1, 0, 0, 0, [], nI 0, 0) 166 2 := X_at (r := mi166) rfl rfl
theorem x166_3 {z : P0} : X z 166 3 = XI mT z (X z) (.bipush 14, 2, 0, 0, 0, [], nI 14, 0) 166 3 := X_at (r := mi166) rfl rfl
theorem x166_5 {z : P0} : X z 166 5 = XI mT z (X z) (.invokestatic 47, 3, 3, 106, 0, [107], 0, 0) 166 5 := X_at (r := mi166) rfl rfl
theorem x166_8 {z : P0} : X z 166 8 = XI mT z (X z) (.ifCond .eq 7, 3, 15, 0, 0, [], 0, 0) 166 8 := X_at (r := mi166) rfl rfl
theorem x166_11 {z : P0} : X z 166 11 = XI mT z (X z) (.iconst 0, 1, 0, 0, 0, [], nI 0, 0) 166 11 := X_at (r := mi166) rfl rfl
theorem x166_12 {z : P0} : X z 166 12 = XI mT z (X z) (.goto 4, 3, 16, 0, 0, [], 0, 0) 166 12 := X_at (r := mi166) rfl rfl
theorem x166_15 {z : P0} : X z 166 15 = XI mT z (X z) (.iconst 1, 1, 0, 0, 0, [], nI 1, 0) 166 15 := X_at (r := mi166) rfl rfl
theorem x166_16 {z : P0} : X z 166 16 = XI mT z (X z) (.putfield 40, 3, 11, 5, 0, [144], 0, 0) 166 16 := X_at (r := mi166) rfl rfl
theorem x166_19 {z : P0} : X z 166 19 = XI mT z (X z) (.aload_n 0, 1, 0, 0, 0, [], 0, 0) 166 19 := X_at (r := mi166) rfl rfl
theorem x166_20 {z : P0} : X z 166 20 = XI mT z (X z) (.getfield 40, 3, 11, 5, 0, [144], 0, 0) 166 20 := X_at (r := mi166) rfl rfl
theorem x166_23 {z : P0} : X z 166 23 = XI mT z (X z) (.ifCond .le 5, 3, 28, 0, 0, [], 0, 0) 166 23 := X_at (r := mi166) rfl rfl
theorem x166_26 {z : P0} : X z 166 26 = XI mT z (X z) (.iconst 0, 1, 0, 0, 0, [], nI 0, 0) 166 26 := X_at (r := mi166) rfl rfl
theorem x166_27 {z : P0} : X z 166 27 = XI mT z (X z) (.ireturn, 1, 0, 0, 0, [], 0, 0) 166 27 := X_at (r := mi166) rfl rfl
theorem x166_28 {z : P0} : X z 166 28 = XI mT z (X z) (.aload_n 0, 1, 0, 0, 0, [], 0, 0) 166 28 := X_at (r := mi166) rfl rfl
theorem x166_29 {z : P0} : X z 166 29 = XI mT z (X z) (.invokevirtual 170, 3, 0, 130, 0, [137], 0, 0) 166 29 := X_at (r := mi166) rfl rfl
theorem x166_32 {z : P0} : X z 166 32 = XI mT z (X z) (.aload_n 0, 1, 0, 0, 0, [], 0, 0) 166 32 := X_at (r := mi166) rfl rfl
theorem x166_33 {z : P0} : X z 166 33 = XI mT z (X z) (.iload_n 1, 1, 1, 0, 0, [], 0, 0) 166 33 := X_at (r := mi166) rfl rfl
theorem x166_34 {z : P0} : X z 166 34 = XI mT z (X z) (.invokevirtual 206, 3, 1, 165, 0, [147], 0, 0) 166 34 := X_at (r := mi166) rfl rfl
theorem x166_37 {z : P0} : X z 166 37 = XI mT z (X z) (.ireturn, 1, 0, 0, 0, [], 0, 0) 166 37 := X_at (r := mi166) rfl rfl
theorem x167_0 {z : P0} : X z 167 0 = XI mT z (X z) (.aload_n 0, 1, 0, 0, 0, [], 0, 0) 167 0 := X_at (r := mi167) rfl rfl
theorem x167_1 {z : P0} : X z 167 1 = XI mT z (X z) (.iload_n 1, 1, 1, 0, 0, [], 0, 0) 167 1 := X_at (r := mi167) rfl rfl
theorem x167_2 {z : P0} : X z 167 2 = XI mT z (X z) (.invokestatic 163, 3, 1, 140, 0, [135], 0, 0) 167 2 := X_at (r := mi167) rfl rfl
theorem x167_5 {z : P0} : X z 167 5 = XI mT z (X z) (.ifCond .eq 7, 3, 12, 0, 0, [], 0, 0) 167 5 := X_at (r := mi167) rfl rfl
theorem x167_8 {z : P0} : X z 167 8 = XI mT z (X z) (.iconst 0, 1, 0, 0, 0, [], nI 0, 0) 167 8 := X_at (r := mi167) rfl rfl
theorem x167_9 {z : P0} : X z 167 9 = XI mT z (X z) (.goto 4, 3, 13, 0, 0, [], 0, 0) 167 9 := X_at (r := mi167) rfl rfl
theorem x167_12 {z : P0} : X z 167 12 = XI mT z (X z) (.iconst 1, 1, 0, 0, 0, [], nI 1, 0) 167 12 := X_at (r := mi167) rfl rfl
theorem x167_13 {z : P0} : X z 167 13 = XI mT z (X z) (.putfield 40, 3, 11, 5, 0, [144], 0, 0) 167 13 := X_at (r := mi167) rfl rfl
theorem x167_16 {z : P0} : X z 167 16 = XI mT z (X z) (.aload_n 0, 1, 0, 0, 0, [], 0, 0) 167 16 := X_at (r := mi167) rfl rfl
theorem x167_17 {z : P0} : X z 167 17 = XI mT z (X z) (.getfield 40, 3, 11, 5, 0, [144], 0, 0) 167 17 := X_at (r := mi167) rfl rfl
theorem x167_20 {z : P0} : X z 167 20 = XI mT z (X z) (.ifCond .le 7, 3, 27, 0, 0, [], 0, 0) 167 20 := X_at (r := mi167) rfl rfl
theorem x167_23 {z : P0} : X z 167 23 = XI mT z (X z) (.iconst 0, 1, 0, 0, 0, [], nI 0, 0) 167 23 := X_at (r := mi167) rfl rfl
theorem x167_24 {z : P0} : X z 167 24 = XI mT z (X z) (.goto 11, 3, 35, 0, 0, [], 0, 0) 167 24 := X_at (r := mi167) rfl rfl
theorem x167_27 {z : P0} : X z 167 27 = XI mT z (X z) (.aload_n 0, 1, 0, 0, 0, [], 0, 0) 167 27 := X_at (r := mi167) rfl rfl
theorem x167_28 {z : P0} : X z 167 28 = XI mT z (X z) (.getfield 7, 3, 11, 0, 3, [134], 0, 0) 167 28 := X_at (r := mi167) rfl rfl
theorem x167_31 {z : P0} : X z 167 31 = XI mT z (X z) (.iconst 0, 1, 0, 0, 0, [], nI 0, 0) 167 31 := X_at (r := mi167) rfl rfl
theorem x167_32 {z : P0} : X z 167 32 = XI mT z (X z) (.iload_n 1, 1, 1, 0, 0, [], 0, 0) 167 32 := X_at (r := mi167) rfl rfl
theorem x167_33 {z : P0} : X z 167 33 = XI mT z (X z) (.iadd, 1, 0, 0, 0, [], 0, 0) 167 33 := X_at (r := mi167) rfl rfl
theorem x167_34 {z : P0} : X z 167 34 = XI mT z (X z) (.iaload, 1, 0, 0, 0, [], 0, 0) 167 34 := X_at (r := mi167) rfl rfl
theorem x167_35 {z : P0} : X z 167 35 = XI mT z (X z) (.ireturn, 1, 0, 0, 0, [], 0, 0) 167 35 := X_at (r := mi167) rfl rfl
theorem x168_0 {z : P0} : X z 168 0 = XI mT z (X z) (.aload_n 0, 1, 0, 0, 0, [], 0, 0) 168 0 := X_at (r := mi168) rfl rfl
theorem x168_1 {z : P0} : X z 168 1 = XI mT z (X z) (.getfield 7, 3, 11, 0, 3, [134], 0, 0) 168 1 := X_at (r := mi168) rfl rfl
theorem x168_4 {z : P0} : X z 168 4 = XI mT z (X z) (.iconst 0, 1, 0, 0, 0, [], nI 0, 0) 168 4 := X_at (r := mi168) rfl rfl
theorem x168_5 {z : P0} : X z 168 5 = XI mT z (X z) (.iload_n 1, 1, 1, 0, 0, [], 0, 0) 168 5 := X_at (r := mi168) rfl rfl
theorem x168_6 {z : P0} : X z 168 6 = XI mT z (X z) (.iadd, 1, 0, 0, 0, [], 0, 0) 168 6 := X_at (r := mi168) rfl rfl
theorem x168_7 {z : P0} : X z 168 7 = XI mT z (X z) (.iaload, 1, 0, 0, 0, [], 0, 0) 168 7 := X_at (r := mi168) rfl rfl
theorem x168_8 {z : P0} : X z 168 8 = XI mT z (X z) (.istore 4, 2, 4, 0, 0, [], 0, 0) 168 8 := X_at (r := mi168) rfl rfl
theorem x168_10 {z : P0} : X z 168 10 = XI mT z (X z) (.aload_n 0, 1, 0, 0, 0, [], 0, 0) 168 10 := X_at (r := mi168) rfl rfl
theorem x168_11 {z : P0} : X z 168 11 = XI mT z (X z) (.getfield 7, 3, 11, 0, 3, [134], 0, 0) 168 11 := X_at (r := mi168) rfl rfl
theorem x168_14 {z : P0} : X z 168 14 = XI mT z (X z) (.iconst 0, 1, 0, 0, 0, [], nI 0, 0) 168 14 := X_at (r := mi168) rfl rfl
theorem x168_15 {z : P0} : X z 168 15 = XI mT z (X z) (.iload_n 1, 1, 1, 0, 0, [], 0, 0) 168 15 := X_at (r := mi168) rfl rfl
theorem x168_16 {z : P0} : X z 168 16 = XI mT z (X z) (.iadd, 1, 0, 0, 0, [], 0, 0) 168 16 := X_at (r := mi168) rfl rfl
theorem x168_17 {z : P0} : X z 168 17 = XI mT z (X z) (.iload_n 2, 1, 2, 0, 0, [], 0, 0) 168 17 := X_at (r := mi168) rfl rfl
theorem x168_18 {z : P0} : X z 168 18 = XI mT z (X z) (.iastore, 1, 0, 0, 0, [], 0, 0) 168 18 := X_at (r := mi168) rfl rfl
theorem x168_19 {z : P0} : X z 168 19 = XI mT z (X z) (.aload_n 0, 1, 0, 0, 0, [], 0, 0) 168 19 := X_at (r := mi168) rfl rfl
theorem x168_20 {z : P0} : X z 168 20 = XI mT z (X z) (.invokevirtual 170, 3, 0, 130, 0, [137], 0, 0) 168 20 := X_at (r := mi168) rfl rfl
theorem x168_23 {z : P0} : X z 168 23 = XI mT z (X z) (.aload_n 0, 1, 0, 0, 0, [], 0, 0) 168 23 := X_at (r := mi168) rfl rfl
theorem x168_24 {z : P0} : X z 168 24 = XI mT z (X z) (.iload_n 3, 1, 3, 0, 0, [], 0, 0) 168 24 := X_at (r := mi168) rfl rfl
theorem x168_25 {z : P0} : X z 168 25 = XI mT z (X z) (.invokevirtual 173, 3, 1, 132, 0, [138], 0, 0) 168 25 := X_at (r := mi168) rfl rfl
theorem x168_28 {z : P0} : X z 168 28 = XI mT z (X z) (.istore 5, 2, 5, 0, 0, [], 0, 0) 168 28 := X_at (r := mi168) rfl rfl
theorem x168_30 {z : P0} : X z 168 30 = XI mT z (X z) (.aload_n 0, 1, 0, 0, 0, [], 0, 0) 168 30 := X_at (r := mi168) rfl rfl
theorem x168_31 {z : P0} : X z 168 31 = XI mT z (X z) (.getfield 7, 3, 11, 0, 3, [134], 0, 0) 168 31 := X_at (r := mi168) rfl rfl
theorem x168_34 {z : P0} : X z 168 34 = XI mT z (X z) (.iconst 0, 1, 0, 0, 0, [], nI 0, 0) 168 34 := X_at (r := mi168) rfl rfl
theorem x168_35 {z : P0} : X z 168 35 = XI mT z (X z) (.iload_n 1, 1, 1, 0, 0, [], 0, 0) 168 35 := X_at (r := mi168) rfl rfl
theorem x168_36 {z : P0} : X z 168 36 = XI mT z (X z) (.iadd, 1, 0, 0, 0, [], 0, 0) 168 36 := X_at (r := mi168) rfl rfl
theorem x168_37 {z : P0} : X z 168 37 = XI mT z (X z) (.iload 4, 2, 4, 0, 0, [], 0, 0) 168 37 := X_at (r := mi168) rfl rfl
theorem x168_39 {z : P0} : X z 168 39 = XI mT z (X z) (.iastore, 1, 0, 0, 0, [], 0, 0) 168 39 := X_at (r := mi168) rfl rfl
theorem x168_40 {z : P0} : X z 168 40 = XI mT z (X z) (.iload 5, 2, 5, 0, 0, [], 0, 0) 168 40 := X_at (r := mi168) rfl rfl
theorem x168_42 {z : P0} : X z 168 42 = XI mT z (X z) (.ireturn, 1, 0, 0, 0, [], 0, 0) 168 42 := X_at (r := mi168) rfl rfl
theorem x169_0 {z : P0} : X z 169 0 = XI mT z (X z) (.aload_n 0, 1, 0, 0, 0, [], 0, 0) 169 0 := X_at (r := mi169) rfl rfl
theorem x169_1 {z : P0} : X z 169 1 = XI mT z (X z) (.iload_n 1, 1, 1, 0, 0, [], 0, 0) 169 1 := X_at (r := mi169) rfl rfl
theorem x169_2 {z : P0} : X z 169 2 = XI mT z (X z) (.invokestatic 163, 3, 1, 140, 0, [135], 0, 0) 169 2 := X_at (r := mi169) rfl rfl
theorem x169_5 {z : P0} : X z 169 5 = XI mT z (X z) (.ifCond .ne 7, 3, 12, 0, 0, [], 0, 0) 169 5 := X_at (r := mi169) rfl rfl
theorem x169_8 {z : P0} : X z 169 8 = XI mT z (X z) (.iconst 1, 1, 0, 0, 0, [], nI 1, 0) 169 8 := X_at (r := mi169) rfl rfl
theorem x169_9 {z : P0} : X z 169 9 = XI mT z (X z) (.goto 25, 3, 34, 0, 0, [], 0, 0) 169 9 := X_at (r := mi169) rfl rfl
theorem x169_12 {z : P0} : X z 169 12 = XI mT z (X z) (.iload_n 1, 1, 1, 0, 0, [], 0, 0) 169 12 := X_at (r := mi169) rfl rfl
theorem x169_13 {z : P0} : X z 169 13 = XI mT z (X z) (.iload_n 2, 1, 2, 0, 0, [], 0, 0) 169 13 := X_at (r := mi169) rfl rfl
theorem x169_14 {z : P0} : X z 169 14 = XI mT z (X z) (.invokestatic 166, 3, 2, 141, 0, [136], 0, 0) 169 14 := X_at (r := mi169) rfl rfl
theorem x169_17 {z : P0} : X z 169 17 = XI mT z (X z) (.ifCond .eq 16, 3, 33, 0, 0, [], 0, 0) 169 17 := X_at (r := mi169) rfl rfl
theorem x169_20 {z : P0} : X z 169 20 = XI mT z (X z) (.iload_n 3, 1, 3, 0, 0, [], 0, 0) 169 20 := X_at (r := mi169) rfl rfl
theorem x169_21 {z : P0} : X z 169 21 = XI mT z (X z) (.iconst 0, 1, 0, 0, 0, [], nI 0, 0) 169 21 := X_at (r := mi169) rfl rfl
theorem x169_22 {z : P0} : X z 169 22 = XI mT z (X z) (.iconst 3, 1, 0, 0, 0, [], nI 3, 0) 169 22 := X_at (r := mi169) rfl rfl
theorem x169_23 {z : P0} : X z 169 23 = XI mT z (X z) (.invokestatic 47, 3, 3, 106, 0, [107], 0, 0) 169 23 := X_at (r := mi169) rfl rfl
theorem x169_26 {z : P0} : X z 169 26 = XI mT z (X z) (.ifCond .eq 7, 3, 33, 0, 0, [], 0, 0) 169 26 := X_at (r := mi169) rfl rfl
theorem x169_29 {z : P0} : X z 169 29 = XI mT z (X z) (.iconst 0, 1, 0, 0, 0, [], nI 0, 0) 169 29 := X_at (r := mi169) rfl rfl
theorem x169_30 {z : P0} : X z 169 30 = XI mT z (X z) (.goto 4, 3, 34, 0, 0, [], 0, 0) 169 30 := X_at (r := mi169) rfl rfl
theorem x169_33 {z : P0} : X z 169 33 = XI mT z (X z) (.iconst 2, 1, 0, 0, 0, [], nI 2, 0) 169 33 := X_at (r := mi169) rfl rfl
theorem x169_34 {z : P0} : X z 169 34 = XI mT z (X z) (.putfield 40, 3, 11, 5, 0, [144], 0, 0) 169 34 := X_at (r := mi169) rfl rfl
theorem x169_37 {z : P0} : X z 169 37 = XI mT z (X z) (.aload_n 0, 1, 0, 0, 0, [], 0, 0) 169 37 := X_at (r := mi169) rfl rfl
theorem x169_38 {z : P0} : X z 169 38 = XI mT z (X z) (.getfield 40, 3, 11, 5, 0, [144], 0, 0) 169 38 := X_at (r := mi169) rfl rfl
theorem x169_41 {z : P0} : X z 169 41 = XI mT z (X z) (.ifCond .le 7, 3, 48, 0, 0, [], 0, 0) 169 41 := X_at (r := mi169) rfl rfl
theorem x169_44 {z : P0} : X z 169 44 = XI mT z (X z) (.iconst 0, 1, 0, 0, 0, [], nI 0, 0) 169 44 := X_at (r := mi169) rfl rfl
theorem x169_45 {z : P0} : X z 169 45 = XI mT z (X z) (.goto 10, 3, 55, 0, 0, [], 0, 0) 169 45 := X_at (r := mi169) rfl rfl
theorem x169_48 {z : P0} : X z 169 48 = XI mT z (X z) (.aload_n 0, 1, 0, 0, 0, [], 0, 0) 169 48 := X_at (r := mi169) rfl rfl
theorem x169_49 {z : P0} : X z 169 49 = XI mT z (X z) (.iload_n 1, 1, 1, 0, 0, [], 0, 0) 169 49 := X_at (r := mi169) rfl rfl
theorem x169_50 {z : P0} : X z 169 50 = XI mT z (X z) (.iload_n 2, 1, 2, 0, 0, [], 0, 0) 169 50 := X_at (r := mi169) rfl rfl
theorem x169_51 {z : P0} : X z 169 51 = XI mT z (X z) (.iload_n 3, 1, 3, 0, 0, [], 0, 0) 169 51 := X_at (r := mi169) rfl rfl
theorem x169_52 {z : P0} : X z 169 52 = XI mT z (X z) (.invokevirtual 209, 3, 3, 168, 0, [148], 0, 0) 169 52 := X_at (r := mi169) rfl rfl
theorem x169_55 {z : P0} : X z 169 55 = XI mT z (X z) (.ireturn, 1, 0, 0, 0, [], 0, 0) 169 55 := X_at (r := mi169) rfl rfl
theorem x170_0 {z : P0} : X z 170 0 = XI mT z (X z) (.iconst 0, 1, 0, 0, 0, [], nI 0, 0) 170 0 := X_at (r := mi170) rfl rfl
theorem x170_1 {z : P0} : X z 170 1 = XI mT z (X z) (.istore_n 1, 1, 1, 0, 0, [], 0, 0) 170 1 := X_at (r := mi170) rfl rfl
theorem x170_2 {z : P0} : X z 170 2 = XI mT z (X z) (.iconst (-1), 1, 0, 0, 0, [], (-1), 0) 170 2 := X_at (r := mi170) rfl rfl
theorem x170_3 {z : P0} : X z 170 3 = XI mT z (X z) (.istore_n 2, 1, 2, 0, 0, [], 0, 0) 170 3 := X_at (r := mi170) rfl rfl
theorem x170_4 {z : P0} : X z 170 4 = XI mT z (X z) (.iconst 0, 1, 0, 0, 0, [], nI 0, 0) 170 4 := X_at (r := mi170) rfl rfl
theorem x170_5 {z : P0} : X z 170 5 = XI mT z (X z) (.istore_n 3, 1, 3, 0, 0, [], 0, 0) 170 5 := X_at (r := mi170) rfl rfl
theorem x170_6 {z : P0} : X z 170 6 = XI mT z (X z) (.iconst 1, 1, 0, 0, 0, [], nI 1, 0) 170 6 := X_at (r := mi170) rfl rfl
theorem x170_7 {z : P0} : X z 170 7 = XI mT z (X z) (.istore 4, 2, 4, 0, 0, [], 0, 0) 170 7 := X_at (r := mi170) rfl rfl
theorem x170_9 {z : P0} : X z 170 9 = XI mT z (X z) (.iload 4, 2, 4, 0, 0, [], 0, 0) 170 9 := X_at (r := mi170) rfl rfl
theorem x170_11 {z : P0} : X z 170 11 = XI mT z (X z) (.bipush 6, 2, 0, 0, 0, [], nI 6, 0) 170 11 := X_at (r := mi170) rfl rfl
theorem x170_13 {z : P0} : X z 170 13 = XI mT z (X z) (.if_icmp .gt 56, 3, 69, 0, 0, [], 0, 0) 170 13 := X_at (r := mi170) rfl rfl
theorem x170_16 {z : P0} : X z 170 16 = XI mT z (X z) (.aload_n 0, 1, 0, 0, 0, [], 0, 0) 170 16 := X_at (r := mi170) rfl rfl
theorem x170_17 {z : P0} : X z 170 17 = XI mT z (X z) (.iconst 2, 1, 0, 0, 0, [], nI 2, 0) 170 17 := X_at (r := mi170) rfl rfl
theorem x170_18 {z : P0} : X z 170 18 = XI mT z (X z) (.iload 4, 2, 4, 0, 0, [], 0, 0) 170 18 := X_at (r := mi170) rfl rfl
theorem x170_20 {z : P0} : X z 170 20 = XI mT z (X z) (.iconst 1, 1, 0, 0, 0, [], nI 1, 0) 170 20 := X_at (r := mi170) rfl rfl
theorem x170_21 {z : P0} : X z 170 21 = XI mT z (X z) (.invokevirtual 209, 3, 3, 168, 0, [148], 0, 0) 170 21 := X_at (r := mi170) rfl rfl
theorem x170_24 {z : P0} : X z 170 24 = XI mT z (X z) (.istore 5, 2, 5, 0, 0, [], 0, 0) 170 24 := X_at (r := mi170) rfl rfl
theorem x170_26 {z : P0} : X z 170 26 = XI mT z (X z) (.aload_n 0, 1, 0, 0, 0, [], 0, 0) 170 26 := X_at (r := mi170) rfl rfl
theorem x170_27 {z : P0} : X z 170 27 = XI mT z (X z) (.iconst 2, 1, 0, 0, 0, [], nI 2, 0) 170 27 := X_at (r := mi170) rfl rfl
theorem x170_28 {z : P0} : X z 170 28 = XI mT z (X z) (.iload 4, 2, 4, 0, 0, [], 0, 0) 170 28 := X_at (r := mi170) rfl rfl
theorem x170_30 {z : P0} : X z 170 30 = XI mT z (X z) (.iconst 3, 1, 0, 0, 0, [], nI 3, 0) 170 30 := X_at (r := mi170) rfl rfl
theorem x170_31 {z : P0} : X z 170 31 = XI mT z (X z) (.invokevirtual 209, 3, 3, 168, 0, [148], 0, 0) 170 31 := X_at (r := mi170) rfl rfl
theorem x170_34 {z : P0} : X z 170 34 = XI mT z (X z) (.istore 6, 2, 6, 0, 0, [], 0, 0) 170 34 := X_at (r := mi170) rfl rfl
theorem x170_36 {z : P0} : X z 170 36 = XI mT z (X z) (.iload 5, 2, 5, 0, 0, [], 0, 0) 170 36 := X_at (r := mi170) rfl rfl
theorem x170_38 {z : P0} : X z 170 38 = XI mT z (X z) (.iload_n 2, 1, 2, 0, 0, [], 0, 0) 170 38 := X_at (r := mi170) rfl rfl
theorem x170_39 {z : P0} : X z 170 39 = XI mT z (X z) (.if_icmp .gt 15, 3, 54, 0, 0, [], 0, 0) 170 39 := X_at (r := mi170) rfl rfl
theorem x170_42 {z : P0} : X z 170 42 = XI mT z (X z) (.iload 5, 2, 5, 0, 0, [], 0, 0) 170 42 := X_at (r := mi170) rfl rfl
theorem x170_44 {z : P0} : X z 170 44 = XI mT z (X z) (.iload_n 2, 1, 2, 0, 0, [], 0, 0) 170 44 := X_at (r := mi170) rfl rfl
theorem x170_45 {z : P0} : X z 170 45 = XI mT z (X z) (.if_icmp .ne 18, 3, 63, 0, 0, [], 0, 0) 170 45 := X_at (r := mi170) rfl rfl
theorem x170_48 {z : P0} : X z 170 48 = XI mT z (X z) (.iload 6, 2, 6, 0, 0, [], 0, 0) 170 48 := X_at (r := mi170) rfl rfl
theorem x170_50 {z : P0} : X z 170 50 = XI mT z (X z) (.iload_n 3, 1, 3, 0, 0, [], 0, 0) 170 50 := X_at (r := mi170) rfl rfl
theorem x170_51 {z : P0} : X z 170 51 = XI mT z (X z) (.if_icmp .ge 12, 3, 63, 0, 0, [], 0, 0) 170 51 := X_at (r := mi170) rfl rfl
theorem x170_54 {z : P0} : X z 170 54 = XI mT z (X z) (.iload 4, 2, 4, 0, 0, [], 0, 0) 170 54 := X_at (r := mi170) rfl rfl
theorem x170_56 {z : P0} : X z 170 56 = XI mT z (X z) (.istore_n 1, 1, 1, 0, 0, [], 0, 0) 170 56 := X_at (r := mi170) rfl rfl
theorem x170_57 {z : P0} : X z 170 57 = XI mT z (X z) (.iload 5, 2, 5, 0, 0, [], 0, 0) 170 57 := X_at (r := mi170) rfl rfl
theorem x170_59 {z : P0} : X z 170 59 = XI mT z (X z) (.istore_n 2, 1, 2, 0, 0, [], 0, 0) 170 59 := X_at (r := mi170) rfl rfl
theorem x170_60 {z : P0} : X z 170 60 = XI mT z (X z) (.iload 6, 2, 6, 0, 0, [], 0, 0) 170 60 := X_at (r := mi170) rfl rfl
theorem x170_62 {z : P0} : X z 170 62 = XI mT z (X z) (.istore_n 3, 1, 3, 0, 0, [], 0, 0) 170 62 := X_at (r := mi170) rfl rfl
theorem x170_63 {z : P0} : X z 170 63 = XI mT z (X z) (.iinc 4 1, 3, 4, 0, 0, [], nI 1, 0) 170 63 := X_at (r := mi170) rfl rfl
theorem x170_66 {z : P0} : X z 170 66 = XI mT z (X z) (.goto (-57), 3, 9, 0, 0, [], 0, 0) 170 66 := X_at (r := mi170) rfl rfl
theorem x170_69 {z : P0} : X z 170 69 = XI mT z (X z) (.iload_n 1, 1, 1, 0, 0, [], 0, 0) 170 69 := X_at (r := mi170) rfl rfl
theorem x170_70 {z : P0} : X z 170 70 = XI mT z (X z) (.ireturn, 1, 0, 0, 0, [], 0, 0) 170 70 := X_at (r := mi170) rfl rfl
theorem x171_0 {z : P0} : X z 171 0 = XI mT z (X z) (.aload_n 0, 1, 0, 0, 0, [], 0, 0) 171 0 := X_at (r := mi171) rfl rfl
theorem x171_1 {z : P0} : X z 171 1 = XI mT z (X z) (.iconst 0, 1, 0, 0, 0, [], nI 0, 0) 171 1 := X_at (r := mi171) rfl rfl
theorem x171_2 {z : P0} : X z 171 2 = XI mT z (X z) (.putfield 40, 3, 11, 5, 0, [144], 0, 0) 171 2 := X_at (r := mi171) rfl rfl
theorem x171_5 {z : P0} : X z 171 5 = XI mT z (X z) (.aload_n 0, 1, 0, 0, 0, [], 0, 0) 171 5 := X_at (r := mi171) rfl rfl
theorem x171_6 {z : P0} : X z 171 6 = XI mT z (X z) (.invokevirtual 213, 3, 0, 170, 0, [149], 0, 0) 171 6 := X_at (r := mi171) rfl rfl
theorem x171_9 {z : P0} : X z 171 9 = XI mT z (X z) (.ireturn, 1, 0, 0, 0, [], 0, 0) 171 9 := X_at (r := mi171) rfl rfl
theorem x172_0 {z : P0} : X z 172 0 = XI mT z (X z) (.aload_n 0, 1, 0, 0, 0, [], 0, 0) 172 0 := X_at (r := mi172) rfl rfl
theorem x172_1 {z : P0} : X z 172 1 = XI mT z (X z) (.iconst 0, 1, 0, 0, 0, [], nI 0, 0) 172 1 := X_at (r := mi172) rfl rfl
theorem x172_2 {z : P0} : X z 172 2 = XI mT z (X z) (.bipush 40, 2, 0, 0, 0, [], nI 40, 0) 172 2 := X_at (r := mi172) rfl rfl
theorem x172_4 {z : P0} : X z 172 4 = XI mT z (X z) (.iconst 0, 1, 0, 0, 0, [], nI 0, 0) 172 4 := X_at (r := mi172) rfl rfl
theorem x172_5 {z : P0} : X z 172 5 = XI mT z (X z) (.invokevirtual 209, 3, 3, 168, 0, [148], 0, 0) 172 5 := X_at (r := mi172) rfl rfl
theorem x172_8 {z : P0} : X z 172 8 = XI mT z (X z) (.istore_n 1, 1, 1, 0, 0, [], 0, 0) 172 8 := X_at (r := mi172) rfl rfl
theorem x172_9 {z : P0} : X z 172 9 = XI mT z (X z) (.aload_n 0, 1, 0, 0, 0, [], 0, 0) 172 9 := X_at (r := mi172) rfl rfl
theorem x172_10 {z : P0} : X z 172 10 = XI mT z (X z) (.iconst 0, 1, 0, 0, 0, [], nI 0, 0) 172 10 := X_at (r := mi172) rfl rfl
theorem x172_11 {z : P0} : X z 172 11 = XI mT z (X z) (.bipush 40, 2, 0, 0, 0, [], nI 40, 0) 172 11 := X_at (r := mi172) rfl rfl
theorem x172_13 {z : P0} : X z 172 13 = XI mT z (X z) (.iconst 2, 1, 0, 0, 0, [], nI 2, 0) 172 13 := X_at (r := mi172) rfl rfl
theorem x172_14 {z : P0} : X z 172 14 = XI mT z (X z) (.invokevirtual 209, 3, 3, 168, 0, [148], 0, 0) 172 14 := X_at (r := mi172) rfl rfl
theorem x172_17 {z : P0} : X z 172 17 = XI mT z (X z) (.istore_n 2, 1, 2, 0, 0, [], 0, 0) 172 17 := X_at (r := mi172) rfl rfl
theorem x172_18 {z : P0} : X z 172 18 = XI mT z (X z) (.iconst 5, 1, 0, 0, 0, [], nI 5, 0) 172 18 := X_at (r := mi172) rfl rfl
theorem x172_19 {z : P0} : X z 172 19 = XI mT z (X z) (.istore_n 3, 1, 3, 0, 0, [], 0, 0) 172 19 := X_at (r := mi172) rfl rfl
theorem x172_20 {z : P0} : X z 172 20 = XI mT z (X z) (.aload_n 0, 1, 0, 0, 0, [], 0, 0) 172 20 := X_at (r := mi172) rfl rfl
theorem x172_21 {z : P0} : X z 172 21 = XI mT z (X z) (.iconst 0, 1, 0, 0, 0, [], nI 0, 0) 172 21 := X_at (r := mi172) rfl rfl
theorem x172_22 {z : P0} : X z 172 22 = XI mT z (X z) (.iload_n 3, 1, 3, 0, 0, [], 0, 0) 172 22 := X_at (r := mi172) rfl rfl
theorem x172_23 {z : P0} : X z 172 23 = XI mT z (X z) (.iconst 0, 1, 0, 0, 0, [], nI 0, 0) 172 23 := X_at (r := mi172) rfl rfl
theorem x172_24 {z : P0} : X z 172 24 = XI mT z (X z) (.invokevirtual 209, 3, 3, 168, 0, [148], 0, 0) 172 24 := X_at (r := mi172) rfl rfl
theorem x172_27 {z : P0} : X z 172 27 = XI mT z (X z) (.iload_n 1, 1, 1, 0, 0, [], 0, 0) 172 27 := X_at (r := mi172) rfl rfl
theorem x172_28 {z : P0} : X z 172 28 = XI mT z (X z) (.if_icmp .ne 14, 3, 42, 0, 0, [], 0, 0) 172 28 := X_at (r := mi172) rfl rfl
theorem x172_31 {z : P0} : X z 172 31 = XI mT z (X z) (.aload_n 0, 1, 0, 0, 0, [], 0, 0) 172 31 := X_at (r := mi172) rfl rfl
theorem x172_32 {z : P0} : X z 172 32 = XI mT z (X z) (.iconst 0, 1, 0, 0, 0, [], nI 0, 0) 172 32 := X_at (r := mi172) rfl rfl
theorem x172_33 {z : P0} : X z 172 33 = XI mT z (X z) (.iload_n 3, 1, 3, 0, 0, [], 0, 0) 172 33 := X_at (r := mi172) rfl rfl
theorem x172_34 {z : P0} : X z 172 34 = XI mT z (X z) (.iconst 2, 1, 0, 0, 0, [], nI 2, 0) 172 34 := X_at (r := mi172) rfl rfl
theorem x172_35 {z : P0} : X z 172 35 = XI mT z (X z) (.invokevirtual 209, 3, 3, 168, 0, [148], 0, 0) 172 35 := X_at (r := mi172) rfl rfl
theorem x172_38 {z : P0} : X z 172 38 = XI mT z (X z) (.iload_n 2, 1, 2, 0, 0, [], 0, 0) 172 38 := X_at (r := mi172) rfl rfl
theorem x172_39 {z : P0} : X z 172 39 = XI mT z (X z) (.if_icmp .eq 9, 3, 48, 0, 0, [], 0, 0) 172 39 := X_at (r := mi172) rfl rfl
theorem x172_42 {z : P0} : X z 172 42 = XI mT z (X z) (.iinc 3 1, 3, 3, 0, 0, [], nI 1, 0) 172 42 := X_at (r := mi172) rfl rfl
theorem x172_45 {z : P0} : X z 172 45 = XI mT z (X z) (.goto (-25), 3, 20, 0, 0, [], 0, 0) 172 45 := X_at (r := mi172) rfl rfl
theorem x172_48 {z : P0} : X z 172 48 = XI mT z (X z) (.iload_n 3, 1, 3, 0, 0, [], 0, 0) 172 48 := X_at (r := mi172) rfl rfl
theorem x172_49 {z : P0} : X z 172 49 = XI mT z (X z) (.ireturn, 1, 0, 0, 0, [], 0, 0) 172 49 := X_at (r := mi172) rfl rfl
theorem x173_0 {z : P0} : X z 173 0 = XI mT z (X z) (.aload_n 0, 1, 0, 0, 0, [], 0, 0) 173 0 := X_at (r := mi173) rfl rfl
theorem x173_1 {z : P0} : X z 173 1 = XI mT z (X z) (.iconst 0, 1, 0, 0, 0, [], nI 0, 0) 173 1 := X_at (r := mi173) rfl rfl
theorem x173_2 {z : P0} : X z 173 2 = XI mT z (X z) (.putfield 40, 3, 11, 5, 0, [144], 0, 0) 173 2 := X_at (r := mi173) rfl rfl
theorem x173_5 {z : P0} : X z 173 5 = XI mT z (X z) (.aload_n 0, 1, 0, 0, 0, [], 0, 0) 173 5 := X_at (r := mi173) rfl rfl
theorem x173_6 {z : P0} : X z 173 6 = XI mT z (X z) (.invokevirtual 216, 3, 0, 172, 0, [150], 0, 0) 173 6 := X_at (r := mi173) rfl rfl
theorem x173_9 {z : P0} : X z 173 9 = XI mT z (X z) (.ireturn, 1, 0, 0, 0, [], 0, 0) 173 9 := X_at (r := mi173) rfl rfl
theorem x174_0 {z : P0} : X z 174 0 = XI mT z (X z) (.iconst 0, 1, 0, 0, 0, [], nI 0, 0) 174 0 := X_at (r := mi174) rfl rfl
theorem x174_1 {z : P0} : X z 174 1 = XI mT z (X z) (.istore_n 2, 1, 2, 0, 0, [], 0, 0) 174 1 := X_at (r := mi174) rfl rfl
theorem x174_2 {z : P0} : X z 174 2 = XI mT z (X z) (.iload_n 2, 1, 2, 0, 0, [], 0, 0) 174 2 := X_at (r := mi174) rfl rfl
theorem x174_3 {z : P0} : X z 174 3 = XI mT z (X z) (.bipush 40, 2, 0, 0, 0, [], nI 40, 0) 174 3 := X_at (r := mi174) rfl rfl
theorem x174_5 {z : P0} : X z 174 5 = XI mT z (X z) (.if_icmp .gt 28, 3, 33, 0, 0, [], 0, 0) 174 5 := X_at (r := mi174) rfl rfl
theorem x174_8 {z : P0} : X z 174 8 = XI mT z (X z) (.aload_n 0, 1, 0, 0, 0, [], 0, 0) 174 8 := X_at (r := mi174) rfl rfl
theorem x174_9 {z : P0} : X z 174 9 = XI mT z (X z) (.iload_n 1, 1, 1, 0, 0, [], 0, 0) 174 9 := X_at (r := mi174) rfl rfl
theorem x174_10 {z : P0} : X z 174 10 = XI mT z (X z) (.aload_n 0, 1, 0, 0, 0, [], 0, 0) 174 10 := X_at (r := mi174) rfl rfl
theorem x174_11 {z : P0} : X z 174 11 = XI mT z (X z) (.getfield 7, 3, 11, 0, 3, [134], 0, 0) 174 11 := X_at (r := mi174) rfl rfl
theorem x174_14 {z : P0} : X z 174 14 = XI mT z (X z) (.bipush 8, 2, 0, 0, 0, [], nI 8, 0) 174 14 := X_at (r := mi174) rfl rfl
theorem x174_16 {z : P0} : X z 174 16 = XI mT z (X z) (.iaload, 1, 0, 0, 0, [], 0, 0) 174 16 := X_at (r := mi174) rfl rfl
theorem x174_17 {z : P0} : X z 174 17 = XI mT z (X z) (.iload_n 2, 1, 2, 0, 0, [], 0, 0) 174 17 := X_at (r := mi174) rfl rfl
theorem x174_18 {z : P0} : X z 174 18 = XI mT z (X z) (.iadd, 1, 0, 0, 0, [], 0, 0) 174 18 := X_at (r := mi174) rfl rfl
theorem x174_19 {z : P0} : X z 174 19 = XI mT z (X z) (.invokevirtual 61, 3, 2, 112, 0, [110], 0, 0) 174 19 := X_at (r := mi174) rfl rfl
theorem x174_22 {z : P0} : X z 174 22 = XI mT z (X z) (.ifCond .ne 5, 3, 27, 0, 0, [], 0, 0) 174 22 := X_at (r := mi174) rfl rfl
theorem x174_25 {z : P0} : X z 174 25 = XI mT z (X z) (.iload_n 2, 1, 2, 0, 0, [], 0, 0) 174 25 := X_at (r := mi174) rfl rfl
theorem x174_26 {z : P0} : X z 174 26 = XI mT z (X z) (.ireturn, 1, 0, 0, 0, [], 0, 0) 174 26 := X_at (r := mi174) rfl rfl
theorem x174_27 {z : P0} : X z 174 27 = XI mT z (X z) (.iinc 2 1, 3, 2, 0, 0, [], nI 1, 0) 174 27 := X_at (r := mi174) rfl rfl
theorem x174_30 {z : P0} : X z 174 30 = XI mT z (X z) (.goto (-28), 3, 2, 0, 0, [], 0, 0) 174 30 := X_at (r := mi174) rfl rfl
theorem x174_33 {z : P0} : X z 174 33 = XI mT z (X z) (.iconst (-1), 1, 0, 0, 0, [], (-1), 0) 174 33 := X_at (r := mi174) rfl rfl
theorem x174_34 {z : P0} : X z 174 34 = XI mT z (X z) (.ireturn, 1, 0, 0, 0, [], 0, 0) 174 34 := X_at (r := mi174) rfl rfl
theorem x175_0 {z : P0} : X z 175 0 = XI mT z (X z) (.aload_n 0, 1, 0, 0, 0, [], 0, 0) 175 0 := X_at (r := mi175) rfl rfl
theorem x175_1 {z : P0} : X z 175 1 = XI mT z (X z) (.aload_n 0, 1, 0, 0, 0, [], 0, 0) 175 1 := X_at (r := mi175) rfl rfl
theorem x175_2 {z : P0} : X z 175 2 = XI mT z (X z) (.iload_n 1, 1, 1, 0, 0, [], 0, 0) 175 2 := X_at (r := mi175) rfl rfl
theorem x175_3 {z : P0} : X z 175 3 = XI mT z (X z) (.invokevirtual 154, 3, 1, 108, 0, [132], 0, 0) 175 3 := X_at (r := mi175) rfl rfl
theorem x175_6 {z : P0} : X z 175 6 = XI mT z (X z) (.ifCond .eq 7, 3, 13, 0, 0, [], 0, 0) 175 6 := X_at (r := mi175) rfl rfl
theorem x175_9 {z : P0} : X z 175 9 = XI mT z (X z) (.iconst 0, 1, 0, 0, 0, [], nI 0, 0) 175 9 := X_at (r := mi175) rfl rfl
theorem x175_10 {z : P0} : X z 175 10 = XI mT z (X z) (.goto 4, 3, 14, 0, 0, [], 0, 0) 175 10 := X_at (r := mi175) rfl rfl
theorem x175_13 {z : P0} : X z 175 13 = XI mT z (X z) (.iconst 1, 1, 0, 0, 0, [], nI 1, 0) 175 13 := X_at (r := mi175) rfl rfl
theorem x175_14 {z : P0} : X z 175 14 = XI mT z (X z) (.putfield 40, 3, 11, 5, 0, [144], 0, 0) 175 14 := X_at (r := mi175) rfl rfl
theorem x175_17 {z : P0} : X z 175 17 = XI mT z (X z) (.aload_n 0, 1, 0, 0, 0, [], 0, 0) 175 17 := X_at (r := mi175) rfl rfl
theorem x175_18 {z : P0} : X z 175 18 = XI mT z (X z) (.getfield 40, 3, 11, 5, 0, [144], 0, 0) 175 18 := X_at (r := mi175) rfl rfl
theorem x175_21 {z : P0} : X z 175 21 = XI mT z (X z) (.ifCond .le 7, 3, 28, 0, 0, [], 0, 0) 175 21 := X_at (r := mi175) rfl rfl
theorem x175_24 {z : P0} : X z 175 24 = XI mT z (X z) (.iconst 0, 1, 0, 0, 0, [], nI 0, 0) 175 24 := X_at (r := mi175) rfl rfl
theorem x175_25 {z : P0} : X z 175 25 = XI mT z (X z) (.goto 8, 3, 33, 0, 0, [], 0, 0) 175 25 := X_at (r := mi175) rfl rfl
theorem x175_28 {z : P0} : X z 175 28 = XI mT z (X z) (.aload_n 0, 1, 0, 0, 0, [], 0, 0) 175 28 := X_at (r := mi175) rfl rfl
theorem x175_29 {z : P0} : X z 175 29 = XI mT z (X z) (.iload_n 1, 1, 1, 0, 0, [], 0, 0) 175 29 := X_at (r := mi175) rfl rfl
theorem x175_30 {z : P0} : X z 175 30 = XI mT z (X z) (.invokevirtual 219, 3, 1, 174, 0, [151], 0, 0) 175 30 := X_at (r := mi175) rfl rfl
theorem x175_33 {z : P0} : X z 175 33 = XI mT z (X z) (.ireturn, 1, 0, 0, 0, [], 0, 0) 175 33 := X_at (r := mi175) rfl rfl
theorem x176_0 {z : P0} : X z 176 0 = XI mT z (X z) (.aload_n 0, 1, 0, 0, 0, [], 0, 0) 176 0 := X_at (r := mi176) rfl rfl
theorem x176_1 {z : P0} : X z 176 1 = XI mT z (X z) (.getfield 7, 3, 11, 0, 3, [134], 0, 0) 176 1 := X_at (r := mi176) rfl rfl
theorem x176_4 {z : P0} : X z 176 4 = XI mT z (X z) (.bipush 6, 2, 0, 0, 0, [], nI 6, 0) 176 4 := X_at (r := mi176) rfl rfl
theorem x176_6 {z : P0} : X z 176 6 = XI mT z (X z) (.iaload, 1, 0, 0, 0, [], 0, 0) 176 6 := X_at (r := mi176) rfl rfl
theorem x176_7 {z : P0} : X z 176 7 = XI mT z (X z) (.ifCond .ne 7, 3, 14, 0, 0, [], 0, 0) 176 7 := X_at (r := mi176) rfl rfl
theorem x176_10 {z : P0} : X z 176 10 = XI mT z (X z) (.dconst 0, 1, 0, 0, 0, [], 0, 0) 176 10 := X_at (r := mi176) rfl rfl
theorem x176_11 {z : P0} : X z 176 11 = XI mT z (X z) (.goto 18, 3, 29, 0, 0, [], 0, 0) 176 11 := X_at (r := mi176) rfl rfl
theorem x176_14 {z : P0} : X z 176 14 = XI mT z (X z) (.aload_n 0, 1, 0, 0, 0, [], 0, 0) 176 14 := X_at (r := mi176) rfl rfl
theorem x176_15 {z : P0} : X z 176 15 = XI mT z (X z) (.iconst 1, 1, 0, 0, 0, [], nI 1, 0) 176 15 := X_at (r := mi176) rfl rfl
theorem x176_16 {z : P0} : X z 176 16 = XI mT z (X z) (.invokevirtual 173, 3, 1, 132, 0, [138], 0, 0) 176 16 := X_at (r := mi176) rfl rfl
theorem x176_19 {z : P0} : X z 176 19 = XI mT z (X z) (.i2d, 1, 0, 0, 0, [], 0, 0) 176 19 := X_at (r := mi176) rfl rfl
theorem x176_20 {z : P0} : X z 176 20 = XI mT z (X z) (.aload_n 0, 1, 0, 0, 0, [], 0, 0) 176 20 := X_at (r := mi176) rfl rfl
theorem x176_21 {z : P0} : X z 176 21 = XI mT z (X z) (.getfield 7, 3, 11, 0, 3, [134], 0, 0) 176 21 := X_at (r := mi176) rfl rfl
theorem x176_24 {z : P0} : X z 176 24 = XI mT z (X z) (.bipush 6, 2, 0, 0, 0, [], nI 6, 0) 176 24 := X_at (r := mi176) rfl rfl
theorem x176_26 {z : P0} : X z 176 26 = XI mT z (X z) (.iaload, 1, 0, 0, 0, [], 0, 0) 176 26 := X_at (r := mi176) rfl rfl
theorem x176_27 {z : P0} : X z 176 27 = XI mT z (X z) (.i2d, 1, 0, 0, 0, [], 0, 0) 176 27 := X_at (r := mi176) rfl rfl
theorem x176_28 {z : P0} : X z 176 28 = XI mT z (X z) (.ddiv, 1, 0, 0, 0, [], 0, 0) 176 28 := X_at (r := mi176) rfl rfl
theorem x176_29 {z : P0} : X z 176 29 = XI mT z (X z) (.dreturn, 1, 0, 0, 0, [], 0, 0) 176 29 := X_at (r := mi176) rfl rfl
theorem x177_0 {z : P0} : X z 177 0 = XI mT z (X z) (.aload_n 0, 1, 0, 0, 0, [], 0, 0) 177 0 := X_at (r := mi177) rfl rfl
theorem x177_1 {z : P0} : X z 177 1 = XI mT z (X z) (.iconst 0, 1, 0, 0, 0, [], nI 0, 0) 177 1 := X_at (r := mi177) rfl rfl
theorem x177_2 {z : P0} : X z 177 2 = XI mT z (X z) (.putfield 40, 3, 11, 5, 0, [144], 0, 0) 177 2 := X_at (r := mi177) rfl rfl
theorem x177_5 {z : P0} : X z 177 5 = XI mT z (X z) (.aload_n 0, 1, 0, 0, 0, [], 0, 0) 177 5 := X_at (r := mi177) rfl rfl
theorem x177_6 {z : P0} : X z 177 6 = XI mT z (X z) (.invokevirtual 170, 3, 0, 130, 0, [137], 0, 0) 177 6 := X_at (r := mi177) rfl rfl
theorem x177_9 {z : P0} : X z 177 9 = XI mT z (X z) (.aload_n 0, 1, 0, 0, 0, [], 0, 0) 177 9 := X_at (r := mi177) rfl rfl
theorem x177_10 {z : P0} : X z 177 10 = XI mT z (X z) (.invokevirtual 222, 3, 0, 176, 0, [152], 0, 0) 177 10 := X_at (r := mi177) rfl rfl
theorem x177_13 {z : P0} : X z 177 13 = XI mT z (X z) (.dreturn, 1, 0, 0, 0, [], 0, 0) 177 13 := X_at (r := mi177) rfl rfl
theorem x178_0 {z : P0} : X z 178 0 = XI mT z (X z) (.aload_n 0, 1, 0, 0, 0, [], 0, 0) 178 0 := X_at (r := mi178) rfl rfl
theorem x178_1 {z : P0} : X z 178 1 = XI mT z (X z) (.ldc2_w 226, 3, 0, 0, 0, [1374], 0, lN 31) 178 1 := X_at (r := mi178) rfl rfl
theorem x178_4 {z : P0} : X z 178 4 = XI mT z (X z) (.aload_n 0, 1, 0, 0, 0, [], 0, 0) 178 4 := X_at (r := mi178) rfl rfl
theorem x178_5 {z : P0} : X z 178 5 = XI mT z (X z) (.getfield 228, 3, 11, 22, 2, [156], 0, 0) 178 5 := X_at (r := mi178) rfl rfl
theorem x178_8 {z : P0} : X z 178 8 = XI mT z (X z) (.lmul, 1, 0, 0, 0, [], 0, 0) 178 8 := X_at (r := mi178) rfl rfl
theorem x178_9 {z : P0} : X z 178 9 = XI mT z (X z) (.lload_n 1, 1, 1, 0, 0, [], 0, 0) 178 9 := X_at (r := mi178) rfl rfl
theorem x178_10 {z : P0} : X z 178 10 = XI mT z (X z) (.ladd, 1, 0, 0, 0, [], 0, 0) 178 10 := X_at (r := mi178) rfl rfl
theorem x178_11 {z : P0} : X z 178 11 = XI mT z (X z) (.putfield 228, 3, 11, 22, 2, [156], 0, 0) 178 11 := X_at (r := mi178) rfl rfl
theorem x178_14 {z : P0} : X z 178 14 = XI mT z (X z) (.return_, 1, 0, 0, 0, [], 0, 0) 178 14 := X_at (r := mi178) rfl rfl
theorem x179_0 {z : P0} : X z 179 0 = XI mT z (X z) (.iconst 0, 1, 0, 0, 0, [], nI 0, 0) 179 0 := X_at (r := mi179) rfl rfl
theorem x179_1 {z : P0} : X z 179 1 = XI mT z (X z) (.istore_n 1, 1, 1, 0, 0, [], 0, 0) 179 1 := X_at (r := mi179) rfl rfl
theorem x179_2 {z : P0} : X z 179 2 = XI mT z (X z) (.iload_n 1, 1, 1, 0, 0, [], 0, 0) 179 2 := X_at (r := mi179) rfl rfl
theorem x179_3 {z : P0} : X z 179 3 = XI mT z (X z) (.aload_n 0, 1, 0, 0, 0, [], 0, 0) 179 3 := X_at (r := mi179) rfl rfl
theorem x179_4 {z : P0} : X z 179 4 = XI mT z (X z) (.getfield 7, 3, 11, 0, 3, [134], 0, 0) 179 4 := X_at (r := mi179) rfl rfl
theorem x179_7 {z : P0} : X z 179 7 = XI mT z (X z) (.bipush 6, 2, 0, 0, 0, [], nI 6, 0) 179 7 := X_at (r := mi179) rfl rfl
theorem x179_9 {z : P0} : X z 179 9 = XI mT z (X z) (.iaload, 1, 0, 0, 0, [], 0, 0) 179 9 := X_at (r := mi179) rfl rfl
theorem x179_10 {z : P0} : X z 179 10 = XI mT z (X z) (.if_icmp .ge 86, 3, 96, 0, 0, [], 0, 0) 179 10 := X_at (r := mi179) rfl rfl
theorem x179_13 {z : P0} : X z 179 13 = XI mT z (X z) (.iconst 0, 1, 0, 0, 0, [], nI 0, 0) 179 13 := X_at (r := mi179) rfl rfl
theorem x179_14 {z : P0} : X z 179 14 = XI mT z (X z) (.istore_n 2, 1, 2, 0, 0, [], 0, 0) 179 14 := X_at (r := mi179) rfl rfl
theorem x179_15 {z : P0} : X z 179 15 = XI mT z (X z) (.iload_n 2, 1, 2, 0, 0, [], 0, 0) 179 15 := X_at (r := mi179) rfl rfl
theorem x179_16 {z : P0} : X z 179 16 = XI mT z (X z) (.bipush 9, 2, 0, 0, 0, [], nI 9, 0) 179 16 := X_at (r := mi179) rfl rfl
theorem x179_18 {z : P0} : X z 179 18 = XI mT z (X z) (.if_icmp .ge 20, 3, 38, 0, 0, [], 0, 0) 179 18 := X_at (r := mi179) rfl rfl
theorem x179_21 {z : P0} : X z 179 21 = XI mT z (X z) (.aload_n 0, 1, 0, 0, 0, [], 0, 0) 179 21 := X_at (r := mi179) rfl rfl
theorem x179_22 {z : P0} : X z 179 22 = XI mT z (X z) (.aload_n 0, 1, 0, 0, 0, [], 0, 0) 179 22 := X_at (r := mi179) rfl rfl
theorem x179_23 {z : P0} : X z 179 23 = XI mT z (X z) (.iload_n 1, 1, 1, 0, 0, [], 0, 0) 179 23 := X_at (r := mi179) rfl rfl
theorem x179_24 {z : P0} : X z 179 24 = XI mT z (X z) (.iload_n 2, 1, 2, 0, 0, [], 0, 0) 179 24 := X_at (r := mi179) rfl rfl
theorem x179_25 {z : P0} : X z 179 25 = XI mT z (X z) (.invokevirtual 194, 3, 2, 155, 0, [143], 0, 0) 179 25 := X_at (r := mi179) rfl rfl
theorem x179_28 {z : P0} : X z 179 28 = XI mT z (X z) (.i2l, 1, 0, 0, 0, [], 0, 0) 179 28 := X_at (r := mi179) rfl rfl
theorem x179_29 {z : P0} : X z 179 29 = XI mT z (X z) (.invokevirtual 232, 3, 1, 178, 0, [153], 0, 0) 179 29 := X_at (r := mi179) rfl rfl
theorem x179_32 {z : P0} : X z 179 32 = XI mT z (X z) (.iinc 2 1, 3, 2, 0, 0, [], nI 1, 0) 179 32 := X_at (r := mi179) rfl rfl
theorem x179_35 {z : P0} : X z 179 35 = XI mT z (X z) (.goto (-20), 3, 15, 0, 0, [], 0, 0) 179 35 := X_at (r := mi179) rfl rfl
theorem x179_38 {z : P0} : X z 179 38 = XI mT z (X z) (.iconst 0, 1, 0, 0, 0, [], nI 0, 0) 179 38 := X_at (r := mi179) rfl rfl
theorem x179_39 {z : P0} : X z 179 39 = XI mT z (X z) (.istore_n 2, 1, 2, 0, 0, [], 0, 0) 179 39 := X_at (r := mi179) rfl rfl
theorem x179_40 {z : P0} : X z 179 40 = XI mT z (X z) (.iload_n 2, 1, 2, 0, 0, [], 0, 0) 179 40 := X_at (r := mi179) rfl rfl
theorem x179_41 {z : P0} : X z 179 41 = XI mT z (X z) (.aload_n 0, 1, 0, 0, 0, [], 0, 0) 179 41 := X_at (r := mi179) rfl rfl
theorem x179_42 {z : P0} : X z 179 42 = XI mT z (X z) (.getfield 7, 3, 11, 0, 3, [134], 0, 0) 179 42 := X_at (r := mi179) rfl rfl
theorem x179_45 {z : P0} : X z 179 45 = XI mT z (X z) (.sipush 133, 3, 0, 0, 0, [], nI 133, 0) 179 45 := X_at (r := mi179) rfl rfl
theorem x179_48 {z : P0} : X z 179 48 = XI mT z (X z) (.iload_n 1, 1, 1, 0, 0, [], 0, 0) 179 48 := X_at (r := mi179) rfl rfl
theorem x179_49 {z : P0} : X z 179 49 = XI mT z (X z) (.iadd, 1, 0, 0, 0, [], 0, 0) 179 49 := X_at (r := mi179) rfl rfl
theorem x179_50 {z : P0} : X z 179 50 = XI mT z (X z) (.iaload, 1, 0, 0, 0, [], 0, 0) 179 50 := X_at (r := mi179) rfl rfl
theorem x179_51 {z : P0} : X z 179 51 = XI mT z (X z) (.if_icmp .ge 29, 3, 80, 0, 0, [], 0, 0) 179 51 := X_at (r := mi179) rfl rfl
theorem x179_54 {z : P0} : X z 179 54 = XI mT z (X z) (.aload_n 0, 1, 0, 0, 0, [], 0, 0) 179 54 := X_at (r := mi179) rfl rfl
theorem x179_55 {z : P0} : X z 179 55 = XI mT z (X z) (.aload_n 0, 1, 0, 0, 0, [], 0, 0) 179 55 := X_at (r := mi179) rfl rfl
theorem x179_56 {z : P0} : X z 179 56 = XI mT z (X z) (.getfield 7, 3, 11, 0, 3, [134], 0, 0) 179 56 := X_at (r := mi179) rfl rfl
theorem x179_59 {z : P0} : X z 179 59 = XI mT z (X z) (.sipush 153, 3, 0, 0, 0, [], nI 153, 0) 179 59 := X_at (r := mi179) rfl rfl
theorem x179_62 {z : P0} : X z 179 62 = XI mT z (X z) (.bipush 8, 2, 0, 0, 0, [], nI 8, 0) 179 62 := X_at (r := mi179) rfl rfl
theorem x179_64 {z : P0} : X z 179 64 = XI mT z (X z) (.iload_n 1, 1, 1, 0, 0, [], 0, 0) 179 64 := X_at (r := mi179) rfl rfl
theorem x179_65 {z : P0} : X z 179 65 = XI mT z (X z) (.imul, 1, 0, 0, 0, [], 0, 0) 179 65 := X_at (r := mi179) rfl rfl
theorem x179_66 {z : P0} : X z 179 66 = XI mT z (X z) (.iadd, 1, 0, 0, 0, [], 0, 0) 179 66 := X_at (r := mi179) rfl rfl
theorem x179_67 {z : P0} : X z 179 67 = XI mT z (X z) (.iload_n 2, 1, 2, 0, 0, [], 0, 0) 179 67 := X_at (r := mi179) rfl rfl
theorem x179_68 {z : P0} : X z 179 68 = XI mT z (X z) (.iadd, 1, 0, 0, 0, [], 0, 0) 179 68 := X_at (r := mi179) rfl rfl
theorem x179_69 {z : P0} : X z 179 69 = XI mT z (X z) (.iaload, 1, 0, 0, 0, [], 0, 0) 179 69 := X_at (r := mi179) rfl rfl
theorem x179_70 {z : P0} : X z 179 70 = XI mT z (X z) (.i2l, 1, 0, 0, 0, [], 0, 0) 179 70 := X_at (r := mi179) rfl rfl
theorem x179_71 {z : P0} : X z 179 71 = XI mT z (X z) (.invokevirtual 232, 3, 1, 178, 0, [153], 0, 0) 179 71 := X_at (r := mi179) rfl rfl
theorem x179_74 {z : P0} : X z 179 74 = XI mT z (X z) (.iinc 2 1, 3, 2, 0, 0, [], nI 1, 0) 179 74 := X_at (r := mi179) rfl rfl
theorem x179_77 {z : P0} : X z 179 77 = XI mT z (X z) (.goto (-37), 3, 40, 0, 0, [], 0, 0) 179 77 := X_at (r := mi179) rfl rfl
theorem x179_80 {z : P0} : X z 179 80 = XI mT z (X z) (.aload_n 0, 1, 0, 0, 0, [], 0, 0) 179 80 := X_at (r := mi179) rfl rfl
theorem x179_81 {z : P0} : X z 179 81 = XI mT z (X z) (.aload_n 0, 1, 0, 0, 0, [], 0, 0) 179 81 := X_at (r := mi179) rfl rfl
theorem x179_82 {z : P0} : X z 179 82 = XI mT z (X z) (.iload_n 1, 1, 1, 0, 0, [], 0, 0) 179 82 := X_at (r := mi179) rfl rfl
theorem x179_83 {z : P0} : X z 179 83 = XI mT z (X z) (.invokevirtual 219, 3, 1, 174, 0, [151], 0, 0) 179 83 := X_at (r := mi179) rfl rfl
theorem x179_86 {z : P0} : X z 179 86 = XI mT z (X z) (.i2l, 1, 0, 0, 0, [], 0, 0) 179 86 := X_at (r := mi179) rfl rfl
theorem x179_87 {z : P0} : X z 179 87 = XI mT z (X z) (.invokevirtual 232, 3, 1, 178, 0, [153], 0, 0) 179 87 := X_at (r := mi179) rfl rfl
theorem x179_90 {z : P0} : X z 179 90 = XI mT z (X z) (.iinc 1 1, 3, 1, 0, 0, [], nI 1, 0) 179 90 := X_at (r := mi179) rfl rfl
theorem x179_93 {z : P0} : X z 179 93 = XI mT z (X z) (.goto (-91), 3, 2, 0, 0, [], 0, 0) 179 93 := X_at (r := mi179) rfl rfl
theorem x179_96 {z : P0} : X z 179 96 = XI mT z (X z) (.iconst 0, 1, 0, 0, 0, [], nI 0, 0) 179 96 := X_at (r := mi179) rfl rfl
theorem x179_97 {z : P0} : X z 179 97 = XI mT z (X z) (.istore_n 1, 1, 1, 0, 0, [], 0, 0) 179 97 := X_at (r := mi179) rfl rfl
theorem x179_98 {z : P0} : X z 179 98 = XI mT z (X z) (.iload_n 1, 1, 1, 0, 0, [], 0, 0) 179 98 := X_at (r := mi179) rfl rfl
theorem x179_99 {z : P0} : X z 179 99 = XI mT z (X z) (.aload_n 0, 1, 0, 0, 0, [], 0, 0) 179 99 := X_at (r := mi179) rfl rfl
theorem x179_100 {z : P0} : X z 179 100 = XI mT z (X z) (.getfield 7, 3, 11, 0, 3, [134], 0, 0) 179 100 := X_at (r := mi179) rfl rfl
theorem x179_103 {z : P0} : X z 179 103 = XI mT z (X z) (.bipush 7, 2, 0, 0, 0, [], nI 7, 0) 179 103 := X_at (r := mi179) rfl rfl
theorem x179_105 {z : P0} : X z 179 105 = XI mT z (X z) (.iaload, 1, 0, 0, 0, [], 0, 0) 179 105 := X_at (r := mi179) rfl rfl
theorem x179_106 {z : P0} : X z 179 106 = XI mT z (X z) (.if_icmp .ge 46, 3, 152, 0, 0, [], 0, 0) 179 106 := X_at (r := mi179) rfl rfl
theorem x179_109 {z : P0} : X z 179 109 = XI mT z (X z) (.iconst 0, 1, 0, 0, 0, [], nI 0, 0) 179 109 := X_at (r := mi179) rfl rfl
theorem x179_110 {z : P0} : X z 179 110 = XI mT z (X z) (.istore_n 2, 1, 2, 0, 0, [], 0, 0) 179 110 := X_at (r := mi179) rfl rfl
theorem x179_111 {z : P0} : X z 179 111 = XI mT z (X z) (.iload_n 2, 1, 2, 0, 0, [], 0, 0) 179 111 := X_at (r := mi179) rfl rfl
theorem x179_112 {z : P0} : X z 179 112 = XI mT z (X z) (.bipush 12, 2, 0, 0, 0, [], nI 12, 0) 179 112 := X_at (r := mi179) rfl rfl
theorem x179_114 {z : P0} : X z 179 114 = XI mT z (X z) (.if_icmp .ge 32, 3, 146, 0, 0, [], 0, 0) 179 114 := X_at (r := mi179) rfl rfl
theorem x179_117 {z : P0} : X z 179 117 = XI mT z (X z) (.aload_n 0, 1, 0, 0, 0, [], 0, 0) 179 117 := X_at (r := mi179) rfl rfl
theorem x179_118 {z : P0} : X z 179 118 = XI mT z (X z) (.aload_n 0, 1, 0, 0, 0, [], 0, 0) 179 118 := X_at (r := mi179) rfl rfl
theorem x179_119 {z : P0} : X z 179 119 = XI mT z (X z) (.iload_n 1, 1, 1, 0, 0, [], 0, 0) 179 119 := X_at (r := mi179) rfl rfl
theorem x179_120 {z : P0} : X z 179 120 = XI mT z (X z) (.iload_n 2, 1, 2, 0, 0, [], 0, 0) 179 120 := X_at (r := mi179) rfl rfl
theorem x179_121 {z : P0} : X z 179 121 = XI mT z (X z) (.iconst 4, 1, 0, 0, 0, [], nI 4, 0) 179 121 := X_at (r := mi179) rfl rfl
theorem x179_122 {z : P0} : X z 179 122 = XI mT z (X z) (.if_icmp .ge 7, 3, 129, 0, 0, [], 0, 0) 179 122 := X_at (r := mi179) rfl rfl
theorem x179_125 {z : P0} : X z 179 125 = XI mT z (X z) (.iload_n 2, 1, 2, 0, 0, [], 0, 0) 179 125 := X_at (r := mi179) rfl rfl
theorem x179_126 {z : P0} : X z 179 126 = XI mT z (X z) (.goto 7, 3, 133, 0, 0, [], 0, 0) 179 126 := X_at (r := mi179) rfl rfl
theorem x179_129 {z : P0} : X z 179 129 = XI mT z (X z) (.bipush 6, 2, 0, 0, 0, [], nI 6, 0) 179 129 := X_at (r := mi179) rfl rfl
theorem x179_131 {z : P0} : X z 179 131 = XI mT z (X z) (.iload_n 2, 1, 2, 0, 0, [], 0, 0) 179 131 := X_at (r := mi179) rfl rfl
theorem x179_132 {z : P0} : X z 179 132 = XI mT z (X z) (.iadd, 1, 0, 0, 0, [], 0, 0) 179 132 := X_at (r := mi179) rfl rfl
theorem x179_133 {z : P0} : X z 179 133 = XI mT z (X z) (.invokevirtual 200, 3, 2, 159, 0, [145], 0, 0) 179 133 := X_at (r := mi179) rfl rfl
theorem x179_136 {z : P0} : X z 179 136 = XI mT z (X z) (.i2l, 1, 0, 0, 0, [], 0, 0) 179 136 := X_at (r := mi179) rfl rfl
theorem x179_137 {z : P0} : X z 179 137 = XI mT z (X z) (.invokevirtual 232, 3, 1, 178, 0, [153], 0, 0) 179 137 := X_at (r := mi179) rfl rfl
theorem x179_140 {z : P0} : X z 179 140 = XI mT z (X z) (.iinc 2 1, 3, 2, 0, 0, [], nI 1, 0) 179 140 := X_at (r := mi179) rfl rfl
theorem x179_143 {z : P0} : X z 179 143 = XI mT z (X z) (.goto (-32), 3, 111, 0, 0, [], 0, 0) 179 143 := X_at (r := mi179) rfl rfl
theorem x179_146 {z : P0} : X z 179 146 = XI mT z (X z) (.iinc 1 1, 3, 1, 0, 0, [], nI 1, 0) 179 146 := X_at (r := mi179) rfl rfl
theorem x179_149 {z : P0} : X z 179 149 = XI mT z (X z) (.goto (-51), 3, 98, 0, 0, [], 0, 0) 179 149 := X_at (r := mi179) rfl rfl
theorem x179_152 {z : P0} : X z 179 152 = XI mT z (X z) (.return_, 1, 0, 0, 0, [], 0, 0) 179 152 := X_at (r := mi179) rfl rfl
theorem x180_0 {z : P0} : X z 180 0 = XI mT z (X z) (.iconst 0, 1, 0, 0, 0, [], nI 0, 0) 180 0 := X_at (r := mi180) rfl rfl
theorem x180_1 {z : P0} : X z 180 1 = XI mT z (X z) (.istore_n 1, 1, 1, 0, 0, [], 0, 0) 180 1 := X_at (r := mi180) rfl rfl
theorem x180_2 {z : P0} : X z 180 2 = XI mT z (X z) (.iload_n 1, 1, 1, 0, 0, [], 0, 0) 180 2 := X_at (r := mi180) rfl rfl
theorem x180_3 {z : P0} : X z 180 3 = XI mT z (X z) (.aload_n 0, 1, 0, 0, 0, [], 0, 0) 180 3 := X_at (r := mi180) rfl rfl
theorem x180_4 {z : P0} : X z 180 4 = XI mT z (X z) (.getfield 55, 3, 11, 12, 0, [146], 0, 0) 180 4 := X_at (r := mi180) rfl rfl
theorem x180_7 {z : P0} : X z 180 7 = XI mT z (X z) (.if_icmp .ge 77, 3, 84, 0, 0, [], 0, 0) 180 7 := X_at (r := mi180) rfl rfl
theorem x180_10 {z : P0} : X z 180 10 = XI mT z (X z) (.iconst 0, 1, 0, 0, 0, [], nI 0, 0) 180 10 := X_at (r := mi180) rfl rfl
theorem x180_11 {z : P0} : X z 180 11 = XI mT z (X z) (.istore_n 2, 1, 2, 0, 0, [], 0, 0) 180 11 := X_at (r := mi180) rfl rfl
theorem x180_12 {z : P0} : X z 180 12 = XI mT z (X z) (.iload_n 2, 1, 2, 0, 0, [], 0, 0) 180 12 := X_at (r := mi180) rfl rfl
theorem x180_13 {z : P0} : X z 180 13 = XI mT z (X z) (.bipush 8, 2, 0, 0, 0, [], nI 8, 0) 180 13 := X_at (r := mi180) rfl rfl
theorem x180_15 {z : P0} : X z 180 15 = XI mT z (X z) (.if_icmp .ge 20, 3, 35, 0, 0, [], 0, 0) 180 15 := X_at (r := mi180) rfl rfl
theorem x180_18 {z : P0} : X z 180 18 = XI mT z (X z) (.aload_n 0, 1, 0, 0, 0, [], 0, 0) 180 18 := X_at (r := mi180) rfl rfl
theorem x180_19 {z : P0} : X z 180 19 = XI mT z (X z) (.aload_n 0, 1, 0, 0, 0, [], 0, 0) 180 19 := X_at (r := mi180) rfl rfl
theorem x180_20 {z : P0} : X z 180 20 = XI mT z (X z) (.iload_n 1, 1, 1, 0, 0, [], 0, 0) 180 20 := X_at (r := mi180) rfl rfl
theorem x180_21 {z : P0} : X z 180 21 = XI mT z (X z) (.iload_n 2, 1, 2, 0, 0, [], 0, 0) 180 21 := X_at (r := mi180) rfl rfl
theorem x180_22 {z : P0} : X z 180 22 = XI mT z (X z) (.invokevirtual 203, 3, 2, 161, 0, [146], 0, 0) 180 22 := X_at (r := mi180) rfl rfl
theorem x180_25 {z : P0} : X z 180 25 = XI mT z (X z) (.i2l, 1, 0, 0, 0, [], 0, 0) 180 25 := X_at (r := mi180) rfl rfl
theorem x180_26 {z : P0} : X z 180 26 = XI mT z (X z) (.invokevirtual 232, 3, 1, 178, 0, [153], 0, 0) 180 26 := X_at (r := mi180) rfl rfl
theorem x180_29 {z : P0} : X z 180 29 = XI mT z (X z) (.iinc 2 1, 3, 2, 0, 0, [], nI 1, 0) 180 29 := X_at (r := mi180) rfl rfl
theorem x180_32 {z : P0} : X z 180 32 = XI mT z (X z) (.goto (-20), 3, 12, 0, 0, [], 0, 0) 180 32 := X_at (r := mi180) rfl rfl
theorem x180_35 {z : P0} : X z 180 35 = XI mT z (X z) (.aload_n 0, 1, 0, 0, 0, [], 0, 0) 180 35 := X_at (r := mi180) rfl rfl
theorem x180_36 {z : P0} : X z 180 36 = XI mT z (X z) (.aload_n 0, 1, 0, 0, 0, [], 0, 0) 180 36 := X_at (r := mi180) rfl rfl
theorem x180_37 {z : P0} : X z 180 37 = XI mT z (X z) (.getfield 19, 3, 11, 6, 3, [137], 0, 0) 180 37 := X_at (r := mi180) rfl rfl
theorem x180_40 {z : P0} : X z 180 40 = XI mT z (X z) (.iload_n 1, 1, 1, 0, 0, [], 0, 0) 180 40 := X_at (r := mi180) rfl rfl
theorem x180_41 {z : P0} : X z 180 41 = XI mT z (X z) (.iaload, 1, 0, 0, 0, [], 0, 0) 180 41 := X_at (r := mi180) rfl rfl
theorem x180_42 {z : P0} : X z 180 42 = XI mT z (X z) (.i2l, 1, 0, 0, 0, [], 0, 0) 180 42 := X_at (r := mi180) rfl rfl
theorem x180_43 {z : P0} : X z 180 43 = XI mT z (X z) (.invokevirtual 232, 3, 1, 178, 0, [153], 0, 0) 180 43 := X_at (r := mi180) rfl rfl
theorem x180_46 {z : P0} : X z 180 46 = XI mT z (X z) (.aload_n 0, 1, 0, 0, 0, [], 0, 0) 180 46 := X_at (r := mi180) rfl rfl
theorem x180_47 {z : P0} : X z 180 47 = XI mT z (X z) (.iload_n 1, 1, 1, 0, 0, [], 0, 0) 180 47 := X_at (r := mi180) rfl rfl
theorem x180_48 {z : P0} : X z 180 48 = XI mT z (X z) (.invokevirtual 122, 3, 1, 124, 0, [125], 0, 0) 180 48 := X_at (r := mi180) rfl rfl
theorem x180_51 {z : P0} : X z 180 51 = XI mT z (X z) (.iconst 0, 1, 0, 0, 0, [], nI 0, 0) 180 51 := X_at (r := mi180) rfl rfl
theorem x180_52 {z : P0} : X z 180 52 = XI mT z (X z) (.istore_n 2, 1, 2, 0, 0, [], 0, 0) 180 52 := X_at (r := mi180) rfl rfl
theorem x180_53 {z : P0} : X z 180 53 = XI mT z (X z) (.iload_n 2, 1, 2, 0, 0, [], 0, 0) 180 53 := X_at (r := mi180) rfl rfl
theorem x180_54 {z : P0} : X z 180 54 = XI mT z (X z) (.aload_n 0, 1, 0, 0, 0, [], 0, 0) 180 54 := X_at (r := mi180) rfl rfl
theorem x180_55 {z : P0} : X z 180 55 = XI mT z (X z) (.getfield 68, 3, 11, 14, 0, [147], 0, 0) 180 55 := X_at (r := mi180) rfl rfl
theorem x180_58 {z : P0} : X z 180 58 = XI mT z (X z) (.if_icmp .ge 20, 3, 78, 0, 0, [], 0, 0) 180 58 := X_at (r := mi180) rfl rfl
theorem x180_61 {z : P0} : X z 180 61 = XI mT z (X z) (.aload_n 0, 1, 0, 0, 0, [], 0, 0) 180 61 := X_at (r := mi180) rfl rfl
theorem x180_62 {z : P0} : X z 180 62 = XI mT z (X z) (.aload_n 0, 1, 0, 0, 0, [], 0, 0) 180 62 := X_at (r := mi180) rfl rfl
theorem x180_63 {z : P0} : X z 180 63 = XI mT z (X z) (.getfield 37, 3, 11, 13, 3, [143], 0, 0) 180 63 := X_at (r := mi180) rfl rfl
theorem x180_66 {z : P0} : X z 180 66 = XI mT z (X z) (.iload_n 2, 1, 2, 0, 0, [], 0, 0) 180 66 := X_at (r := mi180) rfl rfl
theorem x180_67 {z : P0} : X z 180 67 = XI mT z (X z) (.iaload, 1, 0, 0, 0, [], 0, 0) 180 67 := X_at (r := mi180) rfl rfl
theorem x180_68 {z : P0} : X z 180 68 = XI mT z (X z) (.i2l, 1, 0, 0, 0, [], 0, 0) 180 68 := X_at (r := mi180) rfl rfl
theorem x180_69 {z : P0} : X z 180 69 = XI mT z (X z) (.invokevirtual 232, 3, 1, 178, 0, [153], 0, 0) 180 69 := X_at (r := mi180) rfl rfl
theorem x180_72 {z : P0} : X z 180 72 = XI mT z (X z) (.iinc 2 1, 3, 2, 0, 0, [], nI 1, 0) 180 72 := X_at (r := mi180) rfl rfl
theorem x180_75 {z : P0} : X z 180 75 = XI mT z (X z) (.goto (-22), 3, 53, 0, 0, [], 0, 0) 180 75 := X_at (r := mi180) rfl rfl
theorem x180_78 {z : P0} : X z 180 78 = XI mT z (X z) (.iinc 1 1, 3, 1, 0, 0, [], nI 1, 0) 180 78 := X_at (r := mi180) rfl rfl
theorem x180_81 {z : P0} : X z 180 81 = XI mT z (X z) (.goto (-79), 3, 2, 0, 0, [], 0, 0) 180 81 := X_at (r := mi180) rfl rfl
theorem x180_84 {z : P0} : X z 180 84 = XI mT z (X z) (.return_, 1, 0, 0, 0, [], 0, 0) 180 84 := X_at (r := mi180) rfl rfl
theorem x181_0 {z : P0} : X z 181 0 = XI mT z (X z) (.aload_n 0, 1, 0, 0, 0, [], 0, 0) 181 0 := X_at (r := mi181) rfl rfl
theorem x181_1 {z : P0} : X z 181 1 = XI mT z (X z) (.iconst 0, 1, 0, 0, 0, [], nI 0, 0) 181 1 := X_at (r := mi181) rfl rfl
theorem x181_2 {z : P0} : X z 181 2 = XI mT z (X z) (.putfield 40, 3, 11, 5, 0, [144], 0, 0) 181 2 := X_at (r := mi181) rfl rfl
theorem x181_5 {z : P0} : X z 181 5 = XI mT z (X z) (.aload_n 0, 1, 0, 0, 0, [], 0, 0) 181 5 := X_at (r := mi181) rfl rfl
theorem x181_6 {z : P0} : X z 181 6 = XI mT z (X z) (.invokevirtual 170, 3, 0, 130, 0, [137], 0, 0) 181 6 := X_at (r := mi181) rfl rfl
theorem x181_9 {z : P0} : X z 181 9 = XI mT z (X z) (.aload_n 0, 1, 0, 0, 0, [], 0, 0) 181 9 := X_at (r := mi181) rfl rfl
theorem x181_10 {z : P0} : X z 181 10 = XI mT z (X z) (.ldc2_w 236, 3, 0, 0, 0, [1369], 0, lN 2377) 181 10 := X_at (r := mi181) rfl rfl
theorem x181_13 {z : P0} : X z 181 13 = XI mT z (X z) (.putfield 228, 3, 11, 22, 2, [156], 0, 0) 181 13 := X_at (r := mi181) rfl rfl
theorem x181_16 {z : P0} : X z 181 16 = XI mT z (X z) (.iconst 0, 1, 0, 0, 0, [], nI 0, 0) 181 16 := X_at (r := mi181) rfl rfl
theorem x181_17 {z : P0} : X z 181 17 = XI mT z (X z) (.istore_n 1, 1, 1, 0, 0, [], 0, 0) 181 17 := X_at (r := mi181) rfl rfl
theorem x181_18 {z : P0} : X z 181 18 = XI mT z (X z) (.iload_n 1, 1, 1, 0, 0, [], 0, 0) 181 18 := X_at (r := mi181) rfl rfl
theorem x181_19 {z : P0} : X z 181 19 = XI mT z (X z) (.bipush 15, 2, 0, 0, 0, [], nI 15, 0) 181 19 := X_at (r := mi181) rfl rfl
theorem x181_21 {z : P0} : X z 181 21 = XI mT z (X z) (.if_icmp .ge 19, 3, 40, 0, 0, [], 0, 0) 181 21 := X_at (r := mi181) rfl rfl
theorem x181_24 {z : P0} : X z 181 24 = XI mT z (X z) (.aload_n 0, 1, 0, 0, 0, [], 0, 0) 181 24 := X_at (r := mi181) rfl rfl
theorem x181_25 {z : P0} : X z 181 25 = XI mT z (X z) (.aload_n 0, 1, 0, 0, 0, [], 0, 0) 181 25 := X_at (r := mi181) rfl rfl
theorem x181_26 {z : P0} : X z 181 26 = XI mT z (X z) (.iload_n 1, 1, 1, 0, 0, [], 0, 0) 181 26 := X_at (r := mi181) rfl rfl
theorem x181_27 {z : P0} : X z 181 27 = XI mT z (X z) (.invokevirtual 206, 3, 1, 165, 0, [147], 0, 0) 181 27 := X_at (r := mi181) rfl rfl
theorem x181_30 {z : P0} : X z 181 30 = XI mT z (X z) (.i2l, 1, 0, 0, 0, [], 0, 0) 181 30 := X_at (r := mi181) rfl rfl
theorem x181_31 {z : P0} : X z 181 31 = XI mT z (X z) (.invokevirtual 232, 3, 1, 178, 0, [153], 0, 0) 181 31 := X_at (r := mi181) rfl rfl
theorem x181_34 {z : P0} : X z 181 34 = XI mT z (X z) (.iinc 1 1, 3, 1, 0, 0, [], nI 1, 0) 181 34 := X_at (r := mi181) rfl rfl
theorem x181_37 {z : P0} : X z 181 37 = XI mT z (X z) (.goto (-19), 3, 18, 0, 0, [], 0, 0) 181 37 := X_at (r := mi181) rfl rfl
theorem x181_40 {z : P0} : X z 181 40 = XI mT z (X z) (.iconst 0, 1, 0, 0, 0, [], nI 0, 0) 181 40 := X_at (r := mi181) rfl rfl
theorem x181_41 {z : P0} : X z 181 41 = XI mT z (X z) (.istore_n 1, 1, 1, 0, 0, [], 0, 0) 181 41 := X_at (r := mi181) rfl rfl
theorem x181_42 {z : P0} : X z 181 42 = XI mT z (X z) (.iload_n 1, 1, 1, 0, 0, [], 0, 0) 181 42 := X_at (r := mi181) rfl rfl
theorem x181_43 {z : P0} : X z 181 43 = XI mT z (X z) (.bipush 6, 2, 0, 0, 0, [], nI 6, 0) 181 43 := X_at (r := mi181) rfl rfl
theorem x181_45 {z : P0} : X z 181 45 = XI mT z (X z) (.if_icmp .ge 22, 3, 67, 0, 0, [], 0, 0) 181 45 := X_at (r := mi181) rfl rfl
theorem x181_48 {z : P0} : X z 181 48 = XI mT z (X z) (.aload_n 0, 1, 0, 0, 0, [], 0, 0) 181 48 := X_at (r := mi181) rfl rfl
theorem x181_49 {z : P0} : X z 181 49 = XI mT z (X z) (.aload_n 0, 1, 0, 0, 0, [], 0, 0) 181 49 := X_at (r := mi181) rfl rfl
theorem x181_50 {z : P0} : X z 181 50 = XI mT z (X z) (.getfield 7, 3, 11, 0, 3, [134], 0, 0) 181 50 := X_at (r := mi181) rfl rfl
theorem x181_53 {z : P0} : X z 181 53 = XI mT z (X z) (.iconst 0, 1, 0, 0, 0, [], nI 0, 0) 181 53 := X_at (r := mi181) rfl rfl
theorem x181_54 {z : P0} : X z 181 54 = XI mT z (X z) (.iload_n 1, 1, 1, 0, 0, [], 0, 0) 181 54 := X_at (r := mi181) rfl rfl
theorem x181_55 {z : P0} : X z 181 55 = XI mT z (X z) (.iadd, 1, 0, 0, 0, [], 0, 0) 181 55 := X_at (r := mi181) rfl rfl
theorem x181_56 {z : P0} : X z 181 56 = XI mT z (X z) (.iaload, 1, 0, 0, 0, [], 0, 0) 181 56 := X_at (r := mi181) rfl rfl
theorem x181_57 {z : P0} : X z 181 57 = XI mT z (X z) (.i2l, 1, 0, 0, 0, [], 0, 0) 181 57 := X_at (r := mi181) rfl rfl
theorem x181_58 {z : P0} : X z 181 58 = XI mT z (X z) (.invokevirtual 232, 3, 1, 178, 0, [153], 0, 0) 181 58 := X_at (r := mi181) rfl rfl
theorem x181_61 {z : P0} : X z 181 61 = XI mT z (X z) (.iinc 1 1, 3, 1, 0, 0, [], nI 1, 0) 181 61 := X_at (r := mi181) rfl rfl
theorem x181_64 {z : P0} : X z 181 64 = XI mT z (X z) (.goto (-22), 3, 42, 0, 0, [], 0, 0) 181 64 := X_at (r := mi181) rfl rfl
theorem x181_67 {z : P0} : X z 181 67 = XI mT z (X z) (.aload_n 0, 1, 0, 0, 0, [], 0, 0) 181 67 := X_at (r := mi181) rfl rfl
theorem x181_68 {z : P0} : X z 181 68 = XI mT z (X z) (.invokevirtual 238, 3, 0, 179, 0, [154], 0, 0) 181 68 := X_at (r := mi181) rfl rfl
theorem x181_71 {z : P0} : X z 181 71 = XI mT z (X z) (.aload_n 0, 1, 0, 0, 0, [], 0, 0) 181 71 := X_at (r := mi181) rfl rfl
theorem x181_72 {z : P0} : X z 181 72 = XI mT z (X z) (.invokevirtual 241, 3, 0, 180, 0, [155], 0, 0) 181 72 := X_at (r := mi181) rfl rfl
theorem x181_75 {z : P0} : X z 181 75 = XI mT z (X z) (.aload_n 0, 1, 0, 0, 0, [], 0, 0) 181 75 := X_at (r := mi181) rfl rfl
theorem x181_76 {z : P0} : X z 181 76 = XI mT z (X z) (.aload_n 0, 1, 0, 0, 0, [], 0, 0) 181 76 := X_at (r := mi181) rfl rfl
theorem x181_77 {z : P0} : X z 181 77 = XI mT z (X z) (.invokevirtual 213, 3, 0, 170, 0, [149], 0, 0) 181 77 := X_at (r := mi181) rfl rfl
theorem x181_80 {z : P0} : X z 181 80 = XI mT z (X z) (.i2l, 1, 0, 0, 0, [], 0, 0) 181 80 := X_at (r := mi181) rfl rfl
theorem x181_81 {z : P0} : X z 181 81 = XI mT z (X z) (.invokevirtual 232, 3, 1, 178, 0, [153], 0, 0) 181 81 := X_at (r := mi181) rfl rfl
theorem x181_84 {z : P0} : X z 181 84 = XI mT z (X z) (.aload_n 0, 1, 0, 0, 0, [], 0, 0) 181 84 := X_at (r := mi181) rfl rfl
theorem x181_85 {z : P0} : X z 181 85 = XI mT z (X z) (.aload_n 0, 1, 0, 0, 0, [], 0, 0) 181 85 := X_at (r := mi181) rfl rfl
theorem x181_86 {z : P0} : X z 181 86 = XI mT z (X z) (.invokevirtual 216, 3, 0, 172, 0, [150], 0, 0) 181 86 := X_at (r := mi181) rfl rfl
theorem x181_89 {z : P0} : X z 181 89 = XI mT z (X z) (.i2l, 1, 0, 0, 0, [], 0, 0) 181 89 := X_at (r := mi181) rfl rfl
theorem x181_90 {z : P0} : X z 181 90 = XI mT z (X z) (.invokevirtual 232, 3, 1, 178, 0, [153], 0, 0) 181 90 := X_at (r := mi181) rfl rfl
theorem x181_93 {z : P0} : X z 181 93 = XI mT z (X z) (.aload_n 0, 1, 0, 0, 0, [], 0, 0) 181 93 := X_at (r := mi181) rfl rfl
theorem x181_94 {z : P0} : X z 181 94 = XI mT z (X z) (.invokevirtual 170, 3, 0, 130, 0, [137], 0, 0) 181 94 := X_at (r := mi181) rfl rfl
theorem x181_97 {z : P0} : X z 181 97 = XI mT z (X z) (.aload_n 0, 1, 0, 0, 0, [], 0, 0) 181 97 := X_at (r := mi181) rfl rfl
theorem x181_98 {z : P0} : X z 181 98 = XI mT z (X z) (.aload_n 0, 1, 0, 0, 0, [], 0, 0) 181 98 := X_at (r := mi181) rfl rfl
theorem x181_99 {z : P0} : X z 181 99 = XI mT z (X z) (.invokevirtual 222, 3, 0, 176, 0, [152], 0, 0) 181 99 := X_at (r := mi181) rfl rfl
theorem x181_102 {z : P0} : X z 181 102 = XI mT z (X z) (.invokestatic 244, 3, 1, 183, 0, [156], 0, 0) 181 102 := X_at (r := mi181) rfl rfl
theorem x181_105 {z : P0} : X z 181 105 = XI mT z (X z) (.invokevirtual 232, 3, 1, 178, 0, [153], 0, 0) 181 105 := X_at (r := mi181) rfl rfl
theorem x181_108 {z : P0} : X z 181 108 = XI mT z (X z) (.aload_n 0, 1, 0, 0, 0, [], 0, 0) 181 108 := X_at (r := mi181) rfl rfl
theorem x181_109 {z : P0} : X z 181 109 = XI mT z (X z) (.aload_n 0, 1, 0, 0, 0, [], 0, 0) 181 109 := X_at (r := mi181) rfl rfl
theorem x181_110 {z : P0} : X z 181 110 = XI mT z (X z) (.getfield 135, 3, 11, 3, 0, [151], 0, 0) 181 110 := X_at (r := mi181) rfl rfl
theorem x181_113 {z : P0} : X z 181 113 = XI mT z (X z) (.i2l, 1, 0, 0, 0, [], 0, 0) 181 113 := X_at (r := mi181) rfl rfl
theorem x181_114 {z : P0} : X z 181 114 = XI mT z (X z) (.invokevirtual 232, 3, 1, 178, 0, [153], 0, 0) 181 114 := X_at (r := mi181) rfl rfl
theorem x181_117 {z : P0} : X z 181 117 = XI mT z (X z) (.iconst 0, 1, 0, 0, 0, [], nI 0, 0) 181 117 := X_at (r := mi181) rfl rfl
theorem x181_118 {z : P0} : X z 181 118 = XI mT z (X z) (.istore_n 1, 1, 1, 0, 0, [], 0, 0) 181 118 := X_at (r := mi181) rfl rfl
theorem x181_119 {z : P0} : X z 181 119 = XI mT z (X z) (.iload_n 1, 1, 1, 0, 0, [], 0, 0) 181 119 := X_at (r := mi181) rfl rfl
theorem x181_120 {z : P0} : X z 181 120 = XI mT z (X z) (.aload_n 0, 1, 0, 0, 0, [], 0, 0) 181 120 := X_at (r := mi181) rfl rfl
theorem x181_121 {z : P0} : X z 181 121 = XI mT z (X z) (.getfield 135, 3, 11, 3, 0, [151], 0, 0) 181 121 := X_at (r := mi181) rfl rfl
theorem x181_124 {z : P0} : X z 181 124 = XI mT z (X z) (.if_icmp .ge 20, 3, 144, 0, 0, [], 0, 0) 181 124 := X_at (r := mi181) rfl rfl
theorem x181_127 {z : P0} : X z 181 127 = XI mT z (X z) (.aload_n 0, 1, 0, 0, 0, [], 0, 0) 181 127 := X_at (r := mi181) rfl rfl
theorem x181_128 {z : P0} : X z 181 128 = XI mT z (X z) (.aload_n 0, 1, 0, 0, 0, [], 0, 0) 181 128 := X_at (r := mi181) rfl rfl
theorem x181_129 {z : P0} : X z 181 129 = XI mT z (X z) (.getfield 16, 3, 11, 4, 3, [136], 0, 0) 181 129 := X_at (r := mi181) rfl rfl
theorem x181_132 {z : P0} : X z 181 132 = XI mT z (X z) (.iload_n 1, 1, 1, 0, 0, [], 0, 0) 181 132 := X_at (r := mi181) rfl rfl
theorem x181_133 {z : P0} : X z 181 133 = XI mT z (X z) (.iaload, 1, 0, 0, 0, [], 0, 0) 181 133 := X_at (r := mi181) rfl rfl
theorem x181_134 {z : P0} : X z 181 134 = XI mT z (X z) (.i2l, 1, 0, 0, 0, [], 0, 0) 181 134 := X_at (r := mi181) rfl rfl
theorem x181_135 {z : P0} : X z 181 135 = XI mT z (X z) (.invokevirtual 232, 3, 1, 178, 0, [153], 0, 0) 181 135 := X_at (r := mi181) rfl rfl
theorem x181_138 {z : P0} : X z 181 138 = XI mT z (X z) (.iinc 1 1, 3, 1, 0, 0, [], nI 1, 0) 181 138 := X_at (r := mi181) rfl rfl
theorem x181_141 {z : P0} : X z 181 141 = XI mT z (X z) (.goto (-22), 3, 119, 0, 0, [], 0, 0) 181 141 := X_at (r := mi181) rfl rfl
theorem x181_144 {z : P0} : X z 181 144 = XI mT z (X z) (.aload_n 0, 1, 0, 0, 0, [], 0, 0) 181 144 := X_at (r := mi181) rfl rfl
theorem x181_145 {z : P0} : X z 181 145 = XI mT z (X z) (.getfield 228, 3, 11, 22, 2, [156], 0, 0) 181 145 := X_at (r := mi181) rfl rfl
theorem x181_148 {z : P0} : X z 181 148 = XI mT z (X z) (.lreturn, 1, 0, 0, 0, [], 0, 0) 181 148 := X_at (r := mi181) rfl rfl
theorem x182_0 {z : P0} : X z 182 0 = XI mT z (X z) (.dload_n 0, 1, 0, 0, 0, [], 0, 0) 182 0 := X_at (r := mi182) rfl rfl
theorem x182_1 {z : P0} : X z 182 1 = XI mT z (X z) (.dload_n 0, 1, 0, 0, 0, [], 0, 0) 182 1 := X_at (r := mi182) rfl rfl
theorem x182_2 {z : P0} : X z 182 2 = XI mT z (X z) (.dcmp .l, 1, 0, 0, 0, [], 0, 0) 182 2 := X_at (r := mi182) rfl rfl
theorem x182_3 {z : P0} : X z 182 3 = XI mT z (X z) (.ifCond .eq 7, 3, 10, 0, 0, [], 0, 0) 182 3 := X_at (r := mi182) rfl rfl
theorem x182_6 {z : P0} : X z 182 6 = XI mT z (X z) (.iconst 1, 1, 0, 0, 0, [], nI 1, 0) 182 6 := X_at (r := mi182) rfl rfl
theorem x182_7 {z : P0} : X z 182 7 = XI mT z (X z) (.goto 4, 3, 11, 0, 0, [], 0, 0) 182 7 := X_at (r := mi182) rfl rfl
theorem x182_10 {z : P0} : X z 182 10 = XI mT z (X z) (.iconst 0, 1, 0, 0, 0, [], nI 0, 0) 182 10 := X_at (r := mi182) rfl rfl
theorem x182_11 {z : P0} : X z 182 11 = XI mT z (X z) (.ireturn, 1, 0, 0, 0, [], 0, 0) 182 11 := X_at (r := mi182) rfl rfl
theorem x183_0 {z : P0} : X z 183 0 = XI mT z (X z) (.dload_n 0, 1, 0, 0, 0, [], 0, 0) 183 0 := X_at (r := mi183) rfl rfl
theorem x183_1 {z : P0} : X z 183 1 = XI mT z (X z) (.invokestatic 122, 3, 1, 182, 0, [157], 0, 0) 183 1 := X_at (r := mi183) rfl rfl
theorem x183_4 {z : P0} : X z 183 4 = XI mT z (X z) (.ifCond .ne 8, 3, 12, 0, 0, [], 0, 0) 183 4 := X_at (r := mi183) rfl rfl
theorem x183_7 {z : P0} : X z 183 7 = XI mT z (X z) (.dload_n 0, 1, 0, 0, 0, [], 0, 0) 183 7 := X_at (r := mi183) rfl rfl
theorem x183_8 {z : P0} : X z 183 8 = XI mT z (X z) (.invokestatic 134, 3, 1, 9002, 0, [158], 0, 0) 183 8 := X_at (r := mi183) rfl rfl
theorem x183_11 {z : P0} : X z 183 11 = XI mT z (X z) (.lreturn, 1, 0, 0, 0, [], 0, 0) 183 11 := X_at (r := mi183) rfl rfl
theorem x183_12 {z : P0} : X z 183 12 = XI mT z (X z) (.ldc2_w 137, 3, 0, 0, 0, [1392], 0, lN 9221120237041090560) 183 12 := X_at (r := mi183) rfl rfl
theorem x183_15 {z : P0} : X z 183 15 = XI mT z (X z) (.lreturn, 1, 0, 0, 0, [], 0, 0) 183 15 := X_at (r := mi183) rfl rfl
theorem x184_0 {z : P0} : X z 184 0 = XI mT z (X z) (.iload_n 0, 1, 0, 0, 0, [], 0, 0) 184 0 := X_at (r := mi184) rfl rfl
theorem x184_1 {z : P0} : X z 184 1 = XI mT z (X z) (.iload_n 1, 1, 1, 0, 0, [], 0, 0) 184 1 := X_at (r := mi184) rfl rfl
theorem x184_2 {z : P0} : X z 184 2 = XI mT z (X z) (.if_icmp .gt 7, 3, 9, 0, 0, [], 0, 0) 184 2 := X_at (r := mi184) rfl rfl
theorem x184_5 {z : P0} : X z 184 5 = XI mT z (X z) (.iload_n 0, 1, 0, 0, 0, [], 0, 0) 184 5 := X_at (r := mi184) rfl rfl
theorem x184_6 {z : P0} : X z 184 6 = XI mT z (X z) (.goto 4, 3, 10, 0, 0, [], 0, 0) 184 6 := X_at (r := mi184) rfl rfl
theorem x184_9 {z : P0} : X z 184 9 = XI mT z (X z) (.iload_n 1, 1, 1, 0, 0, [], 0, 0) 184 9 := X_at (r := mi184) rfl rfl
theorem x184_10 {z : P0} : X z 184 10 = XI mT z (X z) (.ireturn, 1, 0, 0, 0, [], 0, 0) 184 10 := X_at (r := mi184) rfl rfl
theorem x185_0 {z : P0} : X z 185 0 = XI mT z (X z) (.aload_n 0, 1, 0, 0, 0, [], 0, 0) 185 0 := X_at (r := mi185) rfl rfl
theorem x185_1 {z : P0} : X z 185 1 = XI mT z (X z) (.getfield 9, 3, 60, 1, 3, [1395], 0, 0) 185 1 := X_at (r := mi185) rfl rfl
theorem x185_4 {z : P0} : X z 185 4 = XI mT z (X z) (.arraylength, 1, 0, 0, 0, [], 0, 0) 185 4 := X_at (r := mi185) rfl rfl
theorem x185_5 {z : P0} : X z 185 5 = XI mT z (X z) (.aload_n 0, 1, 0, 0, 0, [], 0, 0) 185 5 := X_at (r := mi185) rfl rfl
theorem x185_6 {z : P0} : X z 185 6 = XI mT z (X z) (.invokevirtual 335, 3, 0, 187, 0, [159], 0, 0) 185 6 := X_at (r := mi185) rfl rfl
theorem x185_9 {z : P0} : X z 185 9 = XI mT z (X z) (.ishr, 1, 0, 0, 0, [], 0, 0) 185 9 := X_at (r := mi185) rfl rfl
theorem x185_10 {z : P0} : X z 185 10 = XI mT z (X z) (.ireturn, 1, 0, 0, 0, [], 0, 0) 185 10 := X_at (r := mi185) rfl rfl
theorem x186_0 {z : P0} : X z 186 0 = XI mT z (X z) (.aload_n 0, 1, 0, 0, 0, [], 0, 0) 186 0 := X_at (r := mi186) rfl rfl
theorem x186_1 {z : P0} : X z 186 1 = XI mT z (X z) (.invokevirtual 492, 3, 0, 188, 0, [160], 0, 0) 186 1 := X_at (r := mi186) rfl rfl
theorem x186_4 {z : P0} : X z 186 4 = XI mT z (X z) (.ifCond .eq 12, 3, 16, 0, 0, [], 0, 0) 186 4 := X_at (r := mi186) rfl rfl
theorem x186_7 {z : P0} : X z 186 7 = XI mT z (X z) (.aload_n 0, 1, 0, 0, 0, [], 0, 0) 186 7 := X_at (r := mi186) rfl rfl
theorem x186_8 {z : P0} : X z 186 8 = XI mT z (X z) (.getfield 9, 3, 60, 1, 3, [1395], 0, 0) 186 8 := X_at (r := mi186) rfl rfl
theorem x186_11 {z : P0} : X z 186 11 = XI mT z (X z) (.iload_n 1, 1, 1, 0, 0, [], 0, 0) 186 11 := X_at (r := mi186) rfl rfl
theorem x186_12 {z : P0} : X z 186 12 = XI mT z (X z) (.invokestatic 495, 3, 2, 190, 0, [161], 0, 0) 186 12 := X_at (r := mi186) rfl rfl
theorem x186_15 {z : P0} : X z 186 15 = XI mT z (X z) (.ireturn, 1, 0, 0, 0, [], 0, 0) 186 15 := X_at (r := mi186) rfl rfl
theorem x186_16 {z : P0} : X z 186 16 = XI mT z (X z) (.aload_n 0, 1, 0, 0, 0, [], 0, 0) 186 16 := X_at (r := mi186) rfl rfl
theorem x186_17 {z : P0} : X z 186 17 = XI mT z (X z) (.getfield 9, 3, 60, 1, 3, [1395], 0, 0) 186 17 := X_at (r := mi186) rfl rfl
theorem x186_20 {z : P0} : X z 186 20 = XI mT z (X z) (.iload_n 1, 1, 1, 0, 0, [], 0, 0) 186 20 := X_at (r := mi186) rfl rfl
theorem x186_21 {z : P0} : X z 186 21 = XI mT z (X z) (.invokestatic 498, 3, 0, 9999, 0, [], 0, 0) 186 21 := X_at (r := mi186) rfl rfl
theorem x186_24 {z : P0} : X z 186 24 = XI mT z (X z) (.ireturn, 1, 0, 0, 0, [], 0, 0) 186 24 := X_at (r := mi186) rfl rfl
theorem x187_0 {z : P0} : X z 187 0 = XI mT z (X z) (.getstatic 38, 3, 3, 0, 0, [443], 0, 0) 187 0 := X_at (r := mi187) rfl rfl
theorem x187_3 {z : P0} : X z 187 3 = XI mT z (X z) (.ifCond .eq 10, 3, 13, 0, 0, [], 0, 0) 187 3 := X_at (r := mi187) rfl rfl
theorem x187_6 {z : P0} : X z 187 6 = XI mT z (X z) (.aload_n 0, 1, 0, 0, 0, [], 0, 0) 187 6 := X_at (r := mi187) rfl rfl
theorem x187_7 {z : P0} : X z 187 7 = XI mT z (X z) (.getfield 15, 3, 60, 0, 0, [1396], 0, 0) 187 7 := X_at (r := mi187) rfl rfl
theorem x187_10 {z : P0} : X z 187 10 = XI mT z (X z) (.goto 4, 3, 14, 0, 0, [], 0, 0) 187 10 := X_at (r := mi187) rfl rfl
theorem x187_13 {z : P0} : X z 187 13 = XI mT z (X z) (.iconst 1, 1, 0, 0, 0, [], nI 1, 0) 187 13 := X_at (r := mi187) rfl rfl
theorem x187_14 {z : P0} : X z 187 14 = XI mT z (X z) (.ireturn, 1, 0, 0, 0, [], 0, 0) 187 14 := X_at (r := mi187) rfl rfl
theorem x188_0 {z : P0} : X z 188 0 = XI mT z (X z) (.getstatic 38, 3, 3, 0, 0, [443], 0, 0) 188 0 := X_at (r := mi188) rfl rfl
theorem x188_3 {z : P0} : X z 188 3 = XI mT z (X z) (.ifCond .eq 14, 3, 17, 0, 0, [], 0, 0) 188 3 := X_at (r := mi188) rfl rfl
theorem x188_6 {z : P0} : X z 188 6 = XI mT z (X z) (.aload_n 0, 1, 0, 0, 0, [], 0, 0) 188 6 := X_at (r := mi188) rfl rfl
theorem x188_7 {z : P0} : X z 188 7 = XI mT z (X z) (.getfield 15, 3, 60, 0, 0, [1396], 0, 0) 188 7 := X_at (r := mi188) rfl rfl
theorem x188_10 {z : P0} : X z 188 10 = XI mT z (X z) (.ifCond .ne 7, 3, 17, 0, 0, [], 0, 0) 188 10 := X_at (r := mi188) rfl rfl
theorem x188_13 {z : P0} : X z 188 13 = XI mT z (X z) (.iconst 1, 1, 0, 0, 0, [], nI 1, 0) 188 13 := X_at (r := mi188) rfl rfl
theorem x188_14 {z : P0} : X z 188 14 = XI mT z (X z) (.goto 4, 3, 18, 0, 0, [], 0, 0) 188 14 := X_at (r := mi188) rfl rfl
theorem x188_17 {z : P0} : X z 188 17 = XI mT z (X z) (.iconst 0, 1, 0, 0, 0, [], nI 0, 0) 188 17 := X_at (r := mi188) rfl rfl
theorem x188_18 {z : P0} : X z 188 18 = XI mT z (X z) (.ireturn, 1, 0, 0, 0, [], 0, 0) 188 18 := X_at (r := mi188) rfl rfl
theorem x189_0 {z : P0} : X z 189 0 = XI mT z (X z) (.iload_n 0, 1, 0, 0, 0, [], 0, 0) 189 0 := X_at (r := mi189) rfl rfl
theorem x189_1 {z : P0} : X z 189 1 = XI mT z (X z) (.iload_n 1, 1, 1, 0, 0, [], 0, 0) 189 1 := X_at (r := mi189) rfl rfl
theorem x189_2 {z : P0} : X z 189 2 = XI mT z (X z) (.getstatic 1053, 3, 4, 0, 0, [459], 0, 0) 189 2 := X_at (r := mi189) rfl rfl
theorem x189_5 {z : P0} : X z 189 5 = XI mT z (X z) (.invokestatic 1059, 3, 3, 191, 0, [162], 0, 0) 189 5 := X_at (r := mi189) rfl rfl
theorem x189_8 {z : P0} : X z 189 8 = XI mT z (X z) (.pop, 1, 0, 0, 0, [], 0, 0) 189 8 := X_at (r := mi189) rfl rfl
theorem x189_9 {z : P0} : X z 189 9 = XI mT z (X z) (.return_, 1, 0, 0, 0, [], 0, 0) 189 9 := X_at (r := mi189) rfl rfl
theorem x190_0 {z : P0} : X z 190 0 = XI mT z (X z) (.iload_n 1, 1, 1, 0, 0, [], 0, 0) 190 0 := X_at (r := mi190) rfl rfl
theorem x190_1 {z : P0} : X z 190 1 = XI mT z (X z) (.aload_n 0, 1, 0, 0, 0, [], 0, 0) 190 1 := X_at (r := mi190) rfl rfl
theorem x190_2 {z : P0} : X z 190 2 = XI mT z (X z) (.arraylength, 1, 0, 0, 0, [], 0, 0) 190 2 := X_at (r := mi190) rfl rfl
theorem x190_3 {z : P0} : X z 190 3 = XI mT z (X z) (.invokestatic 9, 3, 2, 189, 0, [163], 0, 0) 190 3 := X_at (r := mi190) rfl rfl
theorem x190_6 {z : P0} : X z 190 6 = XI mT z (X z) (.aload_n 0, 1, 0, 0, 0, [], 0, 0) 190 6 := X_at (r := mi190) rfl rfl
theorem x190_7 {z : P0} : X z 190 7 = XI mT z (X z) (.iload_n 1, 1, 1, 0, 0, [], 0, 0) 190 7 := X_at (r := mi190) rfl rfl
theorem x190_8 {z : P0} : X z 190 8 = XI mT z (X z) (.baload, 1, 0, 0, 0, [], 0, 0) 190 8 := X_at (r := mi190) rfl rfl
theorem x190_9 {z : P0} : X z 190 9 = XI mT z (X z) (.sipush 255, 3, 0, 0, 0, [], nI 255, 0) 190 9 := X_at (r := mi190) rfl rfl
theorem x190_12 {z : P0} : X z 190 12 = XI mT z (X z) (.iand, 1, 0, 0, 0, [], 0, 0) 190 12 := X_at (r := mi190) rfl rfl
theorem x190_13 {z : P0} : X z 190 13 = XI mT z (X z) (.i2c, 1, 0, 0, 0, [], 0, 0) 190 13 := X_at (r := mi190) rfl rfl
theorem x190_14 {z : P0} : X z 190 14 = XI mT z (X z) (.ireturn, 1, 0, 0, 0, [], 0, 0) 190 14 := X_at (r := mi190) rfl rfl
theorem x191_0 {z : P0} : X z 191 0 = XI mT z (X z) (.iload_n 0, 1, 0, 0, 0, [], 0, 0) 191 0 := X_at (r := mi191) rfl rfl
theorem x191_1 {z : P0} : X z 191 1 = XI mT z (X z) (.ifCond .lt 8, 3, 9, 0, 0, [], 0, 0) 191 1 := X_at (r := mi191) rfl rfl
theorem x191_4 {z : P0} : X z 191 4 = XI mT z (X z) (.iload_n 0, 1, 0, 0, 0, [], 0, 0) 191 4 := X_at (r := mi191) rfl rfl
theorem x191_5 {z : P0} : X z 191 5 = XI mT z (X z) (.iload_n 1, 1, 1, 0, 0, [], 0, 0) 191 5 := X_at (r := mi191) rfl rfl
theorem x191_6 {z : P0} : X z 191 6 = XI mT z (X z) (.if_icmp .lt 10, 3, 16, 0, 0, [], 0, 0) 191 6 := X_at (r := mi191) rfl rfl
theorem x191_9 {z : P0} : X z 191 9 = XI mT z (X z) (.aload_n 2, 1, 2, 0, 0, [], 0, 0) 191 9 := X_at (r := mi191) rfl rfl
theorem x191_10 {z : P0} : X z 191 10 = XI mT z (X z) (.iload_n 0, 1, 0, 0, 0, [], 0, 0) 191 10 := X_at (r := mi191) rfl rfl
theorem x191_11 {z : P0} : X z 191 11 = XI mT z (X z) (.iload_n 1, 1, 1, 0, 0, [], 0, 0) 191 11 := X_at (r := mi191) rfl rfl
theorem x191_12 {z : P0} : X z 191 12 = XI mT z (X z) (.invokestatic 95, 3, 0, 9999, 99, [], 0, 0) 191 12 := X_at (r := mi191) rfl rfl
theorem x191_15 {z : P0} : X z 191 15 = XI mT z (X z) (.athrow, 1, 0, 0, 0, [], 0, 0) 191 15 := X_at (r := mi191) rfl rfl
theorem x191_16 {z : P0} : X z 191 16 = XI mT z (X z) (.iload_n 0, 1, 0, 0, 0, [], 0, 0) 191 16 := X_at (r := mi191) rfl rfl
theorem x191_17 {z : P0} : X z 191 17 = XI mT z (X z) (.ireturn, 1, 0, 0, 0, [], 0, 0) 191 17 := X_at (r := mi191) rfl rfl
