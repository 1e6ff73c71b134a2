set_option maxRecDepth 20000 in
theorem x212_0 {z : P0} : X z 212 0 = XI mT z (X z) (.iload_n 1, 1, 1, 0, 0, [], 0, 0) 212 0 := X_at (r := mi212) rfl rfl
set_option maxRecDepth 20000 in
theorem x212_1 {z : P0} : X z 212 1 = XI mT z (X z) (.bipush 12, 2, 0, 0, 0, [], nI 12, 0) 212 1 := X_at (r := mi212) rfl rfl
set_option maxRecDepth 20000 in
theorem x212_3 {z : P0} : X z 212 3 = XI mT z (X z) (.invokestatic 34, 3, 2, 193, 0, [96], 0, 0) 212 3 := X_at (r := mi212) rfl rfl
set_option maxRecDepth 20000 in
theorem x212_6 {z : P0} : X z 212 6 = XI mT z (X z) (.istore 13, 2, 13, 0, 0, [], 0, 0) 212 6 := X_at (r := mi212) rfl rfl
set_option maxRecDepth 20000 in
theorem x212_8 {z : P0} : X z 212 8 = XI mT z (X z) (.aload_n 3, 1, 3, 0, 0, [], 0, 0) 212 8 := X_at (r := mi212) rfl rfl
set_option maxRecDepth 20000 in
theorem x212_9 {z : P0} : X z 212 9 = XI mT z (X z) (.iconst 0, 1, 0, 0, 0, [], nI 0, 0) 212 9 := X_at (r := mi212) rfl rfl
set_option maxRecDepth 20000 in
theorem x212_10 {z : P0} : X z 212 10 = XI mT z (X z) (.iaload, 1, 0, 0, 0, [], 0, 0) 212 10 := X_at (r := mi212) rfl rfl
set_option maxRecDepth 20000 in
theorem x212_11 {z : P0} : X z 212 11 = XI mT z (X z) (.ifCond .eq 17, 3, 28, 0, 0, [], 0, 0) 212 11 := X_at (r := mi212) rfl rfl
set_option maxRecDepth 20000 in
theorem x212_14 {z : P0} : X z 212 14 = XI mT z (X z) (.iload 13, 2, 13, 0, 0, [], 0, 0) 212 14 := X_at (r := mi212) rfl rfl
set_option maxRecDepth 20000 in
theorem x212_16 {z : P0} : X z 212 16 = XI mT z (X z) (.iconst 2, 1, 0, 0, 0, [], nI 2, 0) 212 16 := X_at (r := mi212) rfl rfl
set_option maxRecDepth 20000 in
theorem x212_17 {z : P0} : X z 212 17 = XI mT z (X z) (.if_icmp .ge 105, 3, 122, 0, 0, [], 0, 0) 212 17 := X_at (r := mi212) rfl rfl
set_option maxRecDepth 20000 in
theorem x212_20 {z : P0} : X z 212 20 = XI mT z (X z) (.aload_n 3, 1, 3, 0, 0, [], 0, 0) 212 20 := X_at (r := mi212) rfl rfl
set_option maxRecDepth 20000 in
theorem x212_21 {z : P0} : X z 212 21 = XI mT z (X z) (.iconst 0, 1, 0, 0, 0, [], nI 0, 0) 212 21 := X_at (r := mi212) rfl rfl
set_option maxRecDepth 20000 in
theorem x212_22 {z : P0} : X z 212 22 = XI mT z (X z) (.iaload, 1, 0, 0, 0, [], 0, 0) 212 22 := X_at (r := mi212) rfl rfl
set_option maxRecDepth 20000 in
theorem x212_23 {z : P0} : X z 212 23 = XI mT z (X z) (.bipush 12, 2, 0, 0, 0, [], nI 12, 0) 212 23 := X_at (r := mi212) rfl rfl
set_option maxRecDepth 20000 in
theorem x212_25 {z : P0} : X z 212 25 = XI mT z (X z) (.if_icmp .ge 97, 3, 122, 0, 0, [], 0, 0) 212 25 := X_at (r := mi212) rfl rfl
set_option maxRecDepth 20000 in
theorem x212_28 {z : P0} : X z 212 28 = XI mT z (X z) (.aload_n 3, 1, 3, 0, 0, [], 0, 0) 212 28 := X_at (r := mi212) rfl rfl
set_option maxRecDepth 20000 in
theorem x212_29 {z : P0} : X z 212 29 = XI mT z (X z) (.iconst 0, 1, 0, 0, 0, [], nI 0, 0) 212 29 := X_at (r := mi212) rfl rfl
set_option maxRecDepth 20000 in
theorem x212_30 {z : P0} : X z 212 30 = XI mT z (X z) (.dup2, 1, 0, 0, 0, [], 0, 0) 212 30 := X_at (r := mi212) rfl rfl
set_option maxRecDepth 20000 in
theorem x212_31 {z : P0} : X z 212 31 = XI mT z (X z) (.iaload, 1, 0, 0, 0, [], 0, 0) 212 31 := X_at (r := mi212) rfl rfl
set_option maxRecDepth 20000 in
theorem x212_32 {z : P0} : X z 212 32 = XI mT z (X z) (.dup_x2, 1, 0, 0, 0, [], 0, 0) 212 32 := X_at (r := mi212) rfl rfl
set_option maxRecDepth 20000 in
theorem x212_33 {z : P0} : X z 212 33 = XI mT z (X z) (.iconst 1, 1, 0, 0, 0, [], nI 1, 0) 212 33 := X_at (r := mi212) rfl rfl
set_option maxRecDepth 20000 in
theorem x212_34 {z : P0} : X z 212 34 = XI mT z (X z) (.iadd, 1, 0, 0, 0, [], 0, 0) 212 34 := X_at (r := mi212) rfl rfl
set_option maxRecDepth 20000 in
theorem x212_35 {z : P0} : X z 212 35 = XI mT z (X z) (.iastore, 1, 0, 0, 0, [], 0, 0) 212 35 := X_at (r := mi212) rfl rfl
set_option maxRecDepth 20000 in
theorem x212_36 {z : P0} : X z 212 36 = XI mT z (X z) (.istore 14, 2, 14, 0, 0, [], 0, 0) 212 36 := X_at (r := mi212) rfl rfl
set_option maxRecDepth 20000 in
theorem x212_38 {z : P0} : X z 212 38 = XI mT z (X z) (.aload 4, 2, 4, 0, 0, [], 0, 0) 212 38 := X_at (r := mi212) rfl rfl
set_option maxRecDepth 20000 in
theorem x212_40 {z : P0} : X z 212 40 = XI mT z (X z) (.iload 14, 2, 14, 0, 0, [], 0, 0) 212 40 := X_at (r := mi212) rfl rfl
set_option maxRecDepth 20000 in
theorem x212_42 {z : P0} : X z 212 42 = XI mT z (X z) (.iload_n 2, 1, 2, 0, 0, [], 0, 0) 212 42 := X_at (r := mi212) rfl rfl
set_option maxRecDepth 20000 in
theorem x212_43 {z : P0} : X z 212 43 = XI mT z (X z) (.iconst 3, 1, 0, 0, 0, [], nI 3, 0) 212 43 := X_at (r := mi212) rfl rfl
set_option maxRecDepth 20000 in
theorem x212_44 {z : P0} : X z 212 44 = XI mT z (X z) (.invokestatic 34, 3, 2, 193, 0, [96], 0, 0) 212 44 := X_at (r := mi212) rfl rfl
set_option maxRecDepth 20000 in
theorem x212_47 {z : P0} : X z 212 47 = XI mT z (X z) (.iastore, 1, 0, 0, 0, [], 0, 0) 212 47 := X_at (r := mi212) rfl rfl
set_option maxRecDepth 20000 in
theorem x212_48 {z : P0} : X z 212 48 = XI mT z (X z) (.aload 5, 2, 5, 0, 0, [], 0, 0) 212 48 := X_at (r := mi212) rfl rfl
set_option maxRecDepth 20000 in
theorem x212_50 {z : P0} : X z 212 50 = XI mT z (X z) (.iload 14, 2, 14, 0, 0, [], 0, 0) 212 50 := X_at (r := mi212) rfl rfl
set_option maxRecDepth 20000 in
theorem x212_52 {z : P0} : X z 212 52 = XI mT z (X z) (.iload_n 2, 1, 2, 0, 0, [], 0, 0) 212 52 := X_at (r := mi212) rfl rfl
set_option maxRecDepth 20000 in
theorem x212_53 {z : P0} : X z 212 53 = XI mT z (X z) (.iconst 3, 1, 0, 0, 0, [], nI 3, 0) 212 53 := X_at (r := mi212) rfl rfl
set_option maxRecDepth 20000 in
theorem x212_54 {z : P0} : X z 212 54 = XI mT z (X z) (.ishr, 1, 0, 0, 0, [], 0, 0) 212 54 := X_at (r := mi212) rfl rfl
set_option maxRecDepth 20000 in
theorem x212_55 {z : P0} : X z 212 55 = XI mT z (X z) (.iconst 3, 1, 0, 0, 0, [], nI 3, 0) 212 55 := X_at (r := mi212) rfl rfl
set_option maxRecDepth 20000 in
theorem x212_56 {z : P0} : X z 212 56 = XI mT z (X z) (.invokestatic 34, 3, 2, 193, 0, [96], 0, 0) 212 56 := X_at (r := mi212) rfl rfl
set_option maxRecDepth 20000 in
theorem x212_59 {z : P0} : X z 212 59 = XI mT z (X z) (.iastore, 1, 0, 0, 0, [], 0, 0) 212 59 := X_at (r := mi212) rfl rfl
set_option maxRecDepth 20000 in
theorem x212_60 {z : P0} : X z 212 60 = XI mT z (X z) (.aload 10, 2, 10, 0, 0, [], 0, 0) 212 60 := X_at (r := mi212) rfl rfl
set_option maxRecDepth 20000 in
theorem x212_62 {z : P0} : X z 212 62 = XI mT z (X z) (.iload 14, 2, 14, 0, 0, [], 0, 0) 212 62 := X_at (r := mi212) rfl rfl
set_option maxRecDepth 20000 in
theorem x212_64 {z : P0} : X z 212 64 = XI mT z (X z) (.iconst 1, 1, 0, 0, 0, [], nI 1, 0) 212 64 := X_at (r := mi212) rfl rfl
set_option maxRecDepth 20000 in
theorem x212_65 {z : P0} : X z 212 65 = XI mT z (X z) (.iload_n 2, 1, 2, 0, 0, [], 0, 0) 212 65 := X_at (r := mi212) rfl rfl
set_option maxRecDepth 20000 in
theorem x212_66 {z : P0} : X z 212 66 = XI mT z (X z) (.bipush 6, 2, 0, 0, 0, [], nI 6, 0) 212 66 := X_at (r := mi212) rfl rfl
set_option maxRecDepth 20000 in
theorem x212_68 {z : P0} : X z 212 68 = XI mT z (X z) (.ishr, 1, 0, 0, 0, [], 0, 0) 212 68 := X_at (r := mi212) rfl rfl
set_option maxRecDepth 20000 in
theorem x212_69 {z : P0} : X z 212 69 = XI mT z (X z) (.bipush 8, 2, 0, 0, 0, [], nI 8, 0) 212 69 := X_at (r := mi212) rfl rfl
set_option maxRecDepth 20000 in
theorem x212_71 {z : P0} : X z 212 71 = XI mT z (X z) (.invokestatic 34, 3, 2, 193, 0, [96], 0, 0) 212 71 := X_at (r := mi212) rfl rfl
set_option maxRecDepth 20000 in
theorem x212_74 {z : P0} : X z 212 74 = XI mT z (X z) (.iadd, 1, 0, 0, 0, [], 0, 0) 212 74 := X_at (r := mi212) rfl rfl
set_option maxRecDepth 20000 in
theorem x212_75 {z : P0} : X z 212 75 = XI mT z (X z) (.iastore, 1, 0, 0, 0, [], 0, 0) 212 75 := X_at (r := mi212) rfl rfl
set_option maxRecDepth 20000 in
theorem x212_76 {z : P0} : X z 212 76 = XI mT z (X z) (.aload 6, 2, 6, 0, 0, [], 0, 0) 212 76 := X_at (r := mi212) rfl rfl
set_option maxRecDepth 20000 in
theorem x212_78 {z : P0} : X z 212 78 = XI mT z (X z) (.iload 14, 2, 14, 0, 0, [], 0, 0) 212 78 := X_at (r := mi212) rfl rfl
set_option maxRecDepth 20000 in
theorem x212_80 {z : P0} : X z 212 80 = XI mT z (X z) (.iconst (-1), 1, 0, 0, 0, [], (-1), 0) 212 80 := X_at (r := mi212) rfl rfl
set_option maxRecDepth 20000 in
theorem x212_81 {z : P0} : X z 212 81 = XI mT z (X z) (.iastore, 1, 0, 0, 0, [], 0, 0) 212 81 := X_at (r := mi212) rfl rfl
set_option maxRecDepth 20000 in
theorem x212_82 {z : P0} : X z 212 82 = XI mT z (X z) (.aload 7, 2, 7, 0, 0, [], 0, 0) 212 82 := X_at (r := mi212) rfl rfl
set_option maxRecDepth 20000 in
theorem x212_84 {z : P0} : X z 212 84 = XI mT z (X z) (.iload 14, 2, 14, 0, 0, [], 0, 0) 212 84 := X_at (r := mi212) rfl rfl
set_option maxRecDepth 20000 in
theorem x212_86 {z : P0} : X z 212 86 = XI mT z (X z) (.iconst 0, 1, 0, 0, 0, [], nI 0, 0) 212 86 := X_at (r := mi212) rfl rfl
set_option maxRecDepth 20000 in
theorem x212_87 {z : P0} : X z 212 87 = XI mT z (X z) (.iastore, 1, 0, 0, 0, [], 0, 0) 212 87 := X_at (r := mi212) rfl rfl
set_option maxRecDepth 20000 in
theorem x212_88 {z : P0} : X z 212 88 = XI mT z (X z) (.aload 8, 2, 8, 0, 0, [], 0, 0) 212 88 := X_at (r := mi212) rfl rfl
set_option maxRecDepth 20000 in
theorem x212_90 {z : P0} : X z 212 90 = XI mT z (X z) (.iload 14, 2, 14, 0, 0, [], 0, 0) 212 90 := X_at (r := mi212) rfl rfl
set_option maxRecDepth 20000 in
theorem x212_92 {z : P0} : X z 212 92 = XI mT z (X z) (.iconst (-1), 1, 0, 0, 0, [], (-1), 0) 212 92 := X_at (r := mi212) rfl rfl
set_option maxRecDepth 20000 in
theorem x212_93 {z : P0} : X z 212 93 = XI mT z (X z) (.iastore, 1, 0, 0, 0, [], 0, 0) 212 93 := X_at (r := mi212) rfl rfl
set_option maxRecDepth 20000 in
theorem x212_94 {z : P0} : X z 212 94 = XI mT z (X z) (.aload 9, 2, 9, 0, 0, [], 0, 0) 212 94 := X_at (r := mi212) rfl rfl
set_option maxRecDepth 20000 in
theorem x212_96 {z : P0} : X z 212 96 = XI mT z (X z) (.iload 14, 2, 14, 0, 0, [], 0, 0) 212 96 := X_at (r := mi212) rfl rfl
set_option maxRecDepth 20000 in
theorem x212_98 {z : P0} : X z 212 98 = XI mT z (X z) (.iconst 0, 1, 0, 0, 0, [], nI 0, 0) 212 98 := X_at (r := mi212) rfl rfl
set_option maxRecDepth 20000 in
theorem x212_99 {z : P0} : X z 212 99 = XI mT z (X z) (.iastore, 1, 0, 0, 0, [], 0, 0) 212 99 := X_at (r := mi212) rfl rfl
set_option maxRecDepth 20000 in
theorem x212_100 {z : P0} : X z 212 100 = XI mT z (X z) (.aload_n 0, 1, 0, 0, 0, [], 0, 0) 212 100 := X_at (r := mi212) rfl rfl
set_option maxRecDepth 20000 in
theorem x212_101 {z : P0} : X z 212 101 = XI mT z (X z) (.iload 14, 2, 14, 0, 0, [], 0, 0) 212 101 := X_at (r := mi212) rfl rfl
set_option maxRecDepth 20000 in
theorem x212_103 {z : P0} : X z 212 103 = XI mT z (X z) (.aload 10, 2, 10, 0, 0, [], 0, 0) 212 103 := X_at (r := mi212) rfl rfl
set_option maxRecDepth 20000 in
theorem x212_105 {z : P0} : X z 212 105 = XI mT z (X z) (.iload 14, 2, 14, 0, 0, [], 0, 0) 212 105 := X_at (r := mi212) rfl rfl
set_option maxRecDepth 20000 in
theorem x212_107 {z : P0} : X z 212 107 = XI mT z (X z) (.iaload, 1, 0, 0, 0, [], 0, 0) 212 107 := X_at (r := mi212) rfl rfl
set_option maxRecDepth 20000 in
theorem x212_108 {z : P0} : X z 212 108 = XI mT z (X z) (.aload 4, 2, 4, 0, 0, [], 0, 0) 212 108 := X_at (r := mi212) rfl rfl
set_option maxRecDepth 20000 in
theorem x212_110 {z : P0} : X z 212 110 = XI mT z (X z) (.iload 14, 2, 14, 0, 0, [], 0, 0) 212 110 := X_at (r := mi212) rfl rfl
set_option maxRecDepth 20000 in
theorem x212_112 {z : P0} : X z 212 112 = XI mT z (X z) (.iaload, 1, 0, 0, 0, [], 0, 0) 212 112 := X_at (r := mi212) rfl rfl
set_option maxRecDepth 20000 in
theorem x212_113 {z : P0} : X z 212 113 = XI mT z (X z) (.aload 5, 2, 5, 0, 0, [], 0, 0) 212 113 := X_at (r := mi212) rfl rfl
set_option maxRecDepth 20000 in
theorem x212_115 {z : P0} : X z 212 115 = XI mT z (X z) (.iload 14, 2, 14, 0, 0, [], 0, 0) 212 115 := X_at (r := mi212) rfl rfl
set_option maxRecDepth 20000 in
theorem x212_117 {z : P0} : X z 212 117 = XI mT z (X z) (.iaload, 1, 0, 0, 0, [], 0, 0) 212 117 := X_at (r := mi212) rfl rfl
set_option maxRecDepth 20000 in
theorem x212_118 {z : P0} : X z 212 118 = XI mT z (X z) (.invokestatic 81, 3, 5, 195, 0, [109], 0, 0) 212 118 := X_at (r := mi212) rfl rfl
set_option maxRecDepth 20000 in
theorem x212_121 {z : P0} : X z 212 121 = XI mT z (X z) (.ireturn, 1, 0, 0, 0, [], 0, 0) 212 121 := X_at (r := mi212) rfl rfl
set_option maxRecDepth 20000 in
theorem x212_122 {z : P0} : X z 212 122 = XI mT z (X z) (.iload 13, 2, 13, 0, 0, [], 0, 0) 212 122 := X_at (r := mi212) rfl rfl
set_option maxRecDepth 20000 in
theorem x212_124 {z : P0} : X z 212 124 = XI mT z (X z) (.iconst 2, 1, 0, 0, 0, [], nI 2, 0) 212 124 := X_at (r := mi212) rfl rfl
set_option maxRecDepth 20000 in
theorem x212_125 {z : P0} : X z 212 125 = XI mT z (X z) (.if_icmp .ne 78, 3, 203, 0, 0, [], 0, 0) 212 125 := X_at (r := mi212) rfl rfl
set_option maxRecDepth 20000 in
theorem x212_128 {z : P0} : X z 212 128 = XI mT z (X z) (.aload_n 3, 1, 3, 0, 0, [], 0, 0) 212 128 := X_at (r := mi212) rfl rfl
set_option maxRecDepth 20000 in
theorem x212_129 {z : P0} : X z 212 129 = XI mT z (X z) (.iconst 1, 1, 0, 0, 0, [], nI 1, 0) 212 129 := X_at (r := mi212) rfl rfl
set_option maxRecDepth 20000 in
theorem x212_130 {z : P0} : X z 212 130 = XI mT z (X z) (.iaload, 1, 0, 0, 0, [], 0, 0) 212 130 := X_at (r := mi212) rfl rfl
set_option maxRecDepth 20000 in
theorem x212_131 {z : P0} : X z 212 131 = XI mT z (X z) (.bipush 6, 2, 0, 0, 0, [], nI 6, 0) 212 131 := X_at (r := mi212) rfl rfl
set_option maxRecDepth 20000 in
theorem x212_133 {z : P0} : X z 212 133 = XI mT z (X z) (.if_icmp .ge 70, 3, 203, 0, 0, [], 0, 0) 212 133 := X_at (r := mi212) rfl rfl
set_option maxRecDepth 20000 in
theorem x212_136 {z : P0} : X z 212 136 = XI mT z (X z) (.aload_n 3, 1, 3, 0, 0, [], 0, 0) 212 136 := X_at (r := mi212) rfl rfl
set_option maxRecDepth 20000 in
theorem x212_137 {z : P0} : X z 212 137 = XI mT z (X z) (.iconst 1, 1, 0, 0, 0, [], nI 1, 0) 212 137 := X_at (r := mi212) rfl rfl
set_option maxRecDepth 20000 in
theorem x212_138 {z : P0} : X z 212 138 = XI mT z (X z) (.dup2, 1, 0, 0, 0, [], 0, 0) 212 138 := X_at (r := mi212) rfl rfl
set_option maxRecDepth 20000 in
theorem x212_139 {z : P0} : X z 212 139 = XI mT z (X z) (.iaload, 1, 0, 0, 0, [], 0, 0) 212 139 := X_at (r := mi212) rfl rfl
set_option maxRecDepth 20000 in
theorem x212_140 {z : P0} : X z 212 140 = XI mT z (X z) (.dup_x2, 1, 0, 0, 0, [], 0, 0) 212 140 := X_at (r := mi212) rfl rfl
set_option maxRecDepth 20000 in
theorem x212_141 {z : P0} : X z 212 141 = XI mT z (X z) (.iconst 1, 1, 0, 0, 0, [], nI 1, 0) 212 141 := X_at (r := mi212) rfl rfl
set_option maxRecDepth 20000 in
theorem x212_142 {z : P0} : X z 212 142 = XI mT z (X z) (.iadd, 1, 0, 0, 0, [], 0, 0) 212 142 := X_at (r := mi212) rfl rfl
set_option maxRecDepth 20000 in
theorem x212_143 {z : P0} : X z 212 143 = XI mT z (X z) (.iastore, 1, 0, 0, 0, [], 0, 0) 212 143 := X_at (r := mi212) rfl rfl
set_option maxRecDepth 20000 in
theorem x212_144 {z : P0} : X z 212 144 = XI mT z (X z) (.istore 14, 2, 14, 0, 0, [], 0, 0) 212 144 := X_at (r := mi212) rfl rfl
set_option maxRecDepth 20000 in
theorem x212_146 {z : P0} : X z 212 146 = XI mT z (X z) (.iconst 1, 1, 0, 0, 0, [], nI 1, 0) 212 146 := X_at (r := mi212) rfl rfl
set_option maxRecDepth 20000 in
theorem x212_147 {z : P0} : X z 212 147 = XI mT z (X z) (.iload_n 2, 1, 2, 0, 0, [], 0, 0) 212 147 := X_at (r := mi212) rfl rfl
set_option maxRecDepth 20000 in
theorem x212_148 {z : P0} : X z 212 148 = XI mT z (X z) (.bipush 8, 2, 0, 0, 0, [], nI 8, 0) 212 148 := X_at (r := mi212) rfl rfl
set_option maxRecDepth 20000 in
theorem x212_150 {z : P0} : X z 212 150 = XI mT z (X z) (.invokestatic 34, 3, 2, 193, 0, [96], 0, 0) 212 150 := X_at (r := mi212) rfl rfl
set_option maxRecDepth 20000 in
theorem x212_153 {z : P0} : X z 212 153 = XI mT z (X z) (.iadd, 1, 0, 0, 0, [], 0, 0) 212 153 := X_at (r := mi212) rfl rfl
set_option maxRecDepth 20000 in
theorem x212_154 {z : P0} : X z 212 154 = XI mT z (X z) (.istore 15, 2, 15, 0, 0, [], 0, 0) 212 154 := X_at (r := mi212) rfl rfl
set_option maxRecDepth 20000 in
theorem x212_156 {z : P0} : X z 212 156 = XI mT z (X z) (.iload_n 2, 1, 2, 0, 0, [], 0, 0) 212 156 := X_at (r := mi212) rfl rfl
set_option maxRecDepth 20000 in
theorem x212_157 {z : P0} : X z 212 157 = XI mT z (X z) (.iconst 4, 1, 0, 0, 0, [], nI 4, 0) 212 157 := X_at (r := mi212) rfl rfl
set_option maxRecDepth 20000 in
theorem x212_158 {z : P0} : X z 212 158 = XI mT z (X z) (.ishr, 1, 0, 0, 0, [], 0, 0) 212 158 := X_at (r := mi212) rfl rfl
set_option maxRecDepth 20000 in
theorem x212_159 {z : P0} : X z 212 159 = XI mT z (X z) (.iconst 3, 1, 0, 0, 0, [], nI 3, 0) 212 159 := X_at (r := mi212) rfl rfl
set_option maxRecDepth 20000 in
theorem x212_160 {z : P0} : X z 212 160 = XI mT z (X z) (.invokestatic 34, 3, 2, 193, 0, [96], 0, 0) 212 160 := X_at (r := mi212) rfl rfl
set_option maxRecDepth 20000 in
theorem x212_163 {z : P0} : X z 212 163 = XI mT z (X z) (.ifCond .ne 7, 3, 170, 0, 0, [], 0, 0) 212 163 := X_at (r := mi212) rfl rfl
set_option maxRecDepth 20000 in
theorem x212_166 {z : P0} : X z 212 166 = XI mT z (X z) (.iconst 1, 1, 0, 0, 0, [], nI 1, 0) 212 166 := X_at (r := mi212) rfl rfl
set_option maxRecDepth 20000 in
theorem x212_167 {z : P0} : X z 212 167 = XI mT z (X z) (.goto 4, 3, 171, 0, 0, [], 0, 0) 212 167 := X_at (r := mi212) rfl rfl
set_option maxRecDepth 20000 in
theorem x212_170 {z : P0} : X z 212 170 = XI mT z (X z) (.iconst 0, 1, 0, 0, 0, [], nI 0, 0) 212 170 := X_at (r := mi212) rfl rfl
set_option maxRecDepth 20000 in
theorem x212_171 {z : P0} : X z 212 171 = XI mT z (X z) (.istore 16, 2, 16, 0, 0, [], 0, 0) 212 171 := X_at (r := mi212) rfl rfl
set_option maxRecDepth 20000 in
theorem x212_173 {z : P0} : X z 212 173 = XI mT z (X z) (.aload 11, 2, 11, 0, 0, [], 0, 0) 212 173 := X_at (r := mi212) rfl rfl
set_option maxRecDepth 20000 in
theorem x212_175 {z : P0} : X z 212 175 = XI mT z (X z) (.iload 14, 2, 14, 0, 0, [], 0, 0) 212 175 := X_at (r := mi212) rfl rfl
set_option maxRecDepth 20000 in
theorem x212_177 {z : P0} : X z 212 177 = XI mT z (X z) (.iload 15, 2, 15, 0, 0, [], 0, 0) 212 177 := X_at (r := mi212) rfl rfl
set_option maxRecDepth 20000 in
theorem x212_179 {z : P0} : X z 212 179 = XI mT z (X z) (.iload 16, 2, 16, 0, 0, [], 0, 0) 212 179 := X_at (r := mi212) rfl rfl
set_option maxRecDepth 20000 in
theorem x212_181 {z : P0} : X z 212 181 = XI mT z (X z) (.ifCond .eq 8, 3, 189, 0, 0, [], 0, 0) 212 181 := X_at (r := mi212) rfl rfl
set_option maxRecDepth 20000 in
theorem x212_184 {z : P0} : X z 212 184 = XI mT z (X z) (.bipush 16, 2, 0, 0, 0, [], nI 16, 0) 212 184 := X_at (r := mi212) rfl rfl
set_option maxRecDepth 20000 in
theorem x212_186 {z : P0} : X z 212 186 = XI mT z (X z) (.goto 4, 3, 190, 0, 0, [], 0, 0) 212 186 := X_at (r := mi212) rfl rfl
set_option maxRecDepth 20000 in
theorem x212_189 {z : P0} : X z 212 189 = XI mT z (X z) (.iconst 0, 1, 0, 0, 0, [], nI 0, 0) 212 189 := X_at (r := mi212) rfl rfl
set_option maxRecDepth 20000 in
theorem x212_190 {z : P0} : X z 212 190 = XI mT z (X z) (.iadd, 1, 0, 0, 0, [], 0, 0) 212 190 := X_at (r := mi212) rfl rfl
set_option maxRecDepth 20000 in
theorem x212_191 {z : P0} : X z 212 191 = XI mT z (X z) (.iastore, 1, 0, 0, 0, [], 0, 0) 212 191 := X_at (r := mi212) rfl rfl
set_option maxRecDepth 20000 in
theorem x212_192 {z : P0} : X z 212 192 = XI mT z (X z) (.aload_n 0, 1, 0, 0, 0, [], 0, 0) 212 192 := X_at (r := mi212) rfl rfl
set_option maxRecDepth 20000 in
theorem x212_193 {z : P0} : X z 212 193 = XI mT z (X z) (.iload 14, 2, 14, 0, 0, [], 0, 0) 212 193 := X_at (r := mi212) rfl rfl
set_option maxRecDepth 20000 in
theorem x212_195 {z : P0} : X z 212 195 = XI mT z (X z) (.iload 15, 2, 15, 0, 0, [], 0, 0) 212 195 := X_at (r := mi212) rfl rfl
set_option maxRecDepth 20000 in
theorem x212_197 {z : P0} : X z 212 197 = XI mT z (X z) (.iload 16, 2, 16, 0, 0, [], 0, 0) 212 197 := X_at (r := mi212) rfl rfl
set_option maxRecDepth 20000 in
theorem x212_199 {z : P0} : X z 212 199 = XI mT z (X z) (.invokestatic 85, 3, 4, 196, 0, [110], 0, 0) 212 199 := X_at (r := mi212) rfl rfl
set_option maxRecDepth 20000 in
theorem x212_202 {z : P0} : X z 212 202 = XI mT z (X z) (.ireturn, 1, 0, 0, 0, [], 0, 0) 212 202 := X_at (r := mi212) rfl rfl
set_option maxRecDepth 20000 in
theorem x212_203 {z : P0} : X z 212 203 = XI mT z (X z) (.iload 13, 2, 13, 0, 0, [], 0, 0) 212 203 := X_at (r := mi212) rfl rfl
set_option maxRecDepth 20000 in
theorem x212_205 {z : P0} : X z 212 205 = XI mT z (X z) (.iconst 5, 1, 0, 0, 0, [], nI 5, 0) 212 205 := X_at (r := mi212) rfl rfl
set_option maxRecDepth 20000 in
theorem x212_206 {z : P0} : X z 212 206 = XI mT z (X z) (.if_icmp .ge 72, 3, 278, 0, 0, [], 0, 0) 212 206 := X_at (r := mi212) rfl rfl
set_option maxRecDepth 20000 in
theorem x212_209 {z : P0} : X z 212 209 = XI mT z (X z) (.aload_n 3, 1, 3, 0, 0, [], 0, 0) 212 209 := X_at (r := mi212) rfl rfl
set_option maxRecDepth 20000 in
theorem x212_210 {z : P0} : X z 212 210 = XI mT z (X z) (.iconst 2, 1, 0, 0, 0, [], nI 2, 0) 212 210 := X_at (r := mi212) rfl rfl
set_option maxRecDepth 20000 in
theorem x212_211 {z : P0} : X z 212 211 = XI mT z (X z) (.aload_n 0, 1, 0, 0, 0, [], 0, 0) 212 211 := X_at (r := mi212) rfl rfl
set_option maxRecDepth 20000 in
theorem x212_212 {z : P0} : X z 212 212 = XI mT z (X z) (.iload_n 1, 1, 1, 0, 0, [], 0, 0) 212 212 := X_at (r := mi212) rfl rfl
set_option maxRecDepth 20000 in
theorem x212_213 {z : P0} : X z 212 213 = XI mT z (X z) (.iconst 3, 1, 0, 0, 0, [], nI 3, 0) 212 213 := X_at (r := mi212) rfl rfl
set_option maxRecDepth 20000 in
theorem x212_214 {z : P0} : X z 212 214 = XI mT z (X z) (.ishr, 1, 0, 0, 0, [], 0, 0) 212 214 := X_at (r := mi212) rfl rfl
set_option maxRecDepth 20000 in
theorem x212_215 {z : P0} : X z 212 215 = XI mT z (X z) (.iload_n 2, 1, 2, 0, 0, [], 0, 0) 212 215 := X_at (r := mi212) rfl rfl
set_option maxRecDepth 20000 in
theorem x212_216 {z : P0} : X z 212 216 = XI mT z (X z) (.aload 12, 2, 12, 0, 0, [], 0, 0) 212 216 := X_at (r := mi212) rfl rfl
set_option maxRecDepth 20000 in
theorem x212_218 {z : P0} : X z 212 218 = XI mT z (X z) (.invokestatic 89, 3, 4, 197, 0, [111], 0, 0) 212 218 := X_at (r := mi212) rfl rfl
set_option maxRecDepth 20000 in
theorem x212_221 {z : P0} : X z 212 221 = XI mT z (X z) (.iastore, 1, 0, 0, 0, [], 0, 0) 212 221 := X_at (r := mi212) rfl rfl
set_option maxRecDepth 20000 in
theorem x212_222 {z : P0} : X z 212 222 = XI mT z (X z) (.iconst 0, 1, 0, 0, 0, [], nI 0, 0) 212 222 := X_at (r := mi212) rfl rfl
set_option maxRecDepth 20000 in
theorem x212_223 {z : P0} : X z 212 223 = XI mT z (X z) (.istore 14, 2, 14, 0, 0, [], 0, 0) 212 223 := X_at (r := mi212) rfl rfl
set_option maxRecDepth 20000 in
theorem x212_225 {z : P0} : X z 212 225 = XI mT z (X z) (.iconst 0, 1, 0, 0, 0, [], nI 0, 0) 212 225 := X_at (r := mi212) rfl rfl
set_option maxRecDepth 20000 in
theorem x212_226 {z : P0} : X z 212 226 = XI mT z (X z) (.istore 15, 2, 15, 0, 0, [], 0, 0) 212 226 := X_at (r := mi212) rfl rfl
set_option maxRecDepth 20000 in
theorem x212_228 {z : P0} : X z 212 228 = XI mT z (X z) (.iload 15, 2, 15, 0, 0, [], 0, 0) 212 228 := X_at (r := mi212) rfl rfl
set_option maxRecDepth 20000 in
theorem x212_230 {z : P0} : X z 212 230 = XI mT z (X z) (.aload_n 3, 1, 3, 0, 0, [], 0, 0) 212 230 := X_at (r := mi212) rfl rfl
set_option maxRecDepth 20000 in
theorem x212_231 {z : P0} : X z 212 231 = XI mT z (X z) (.iconst 2, 1, 0, 0, 0, [], nI 2, 0) 212 231 := X_at (r := mi212) rfl rfl
set_option maxRecDepth 20000 in
theorem x212_232 {z : P0} : X z 212 232 = XI mT z (X z) (.iaload, 1, 0, 0, 0, [], 0, 0) 212 232 := X_at (r := mi212) rfl rfl
set_option maxRecDepth 20000 in
theorem x212_233 {z : P0} : X z 212 233 = XI mT z (X z) (.if_icmp .ge 23, 3, 256, 0, 0, [], 0, 0) 212 233 := X_at (r := mi212) rfl rfl
set_option maxRecDepth 20000 in
theorem x212_236 {z : P0} : X z 212 236 = XI mT z (X z) (.aload 12, 2, 12, 0, 0, [], 0, 0) 212 236 := X_at (r := mi212) rfl rfl
set_option maxRecDepth 20000 in
theorem x212_238 {z : P0} : X z 212 238 = XI mT z (X z) (.iload 15, 2, 15, 0, 0, [], 0, 0) 212 238 := X_at (r := mi212) rfl rfl
set_option maxRecDepth 20000 in
theorem x212_240 {z : P0} : X z 212 240 = XI mT z (X z) (.iaload, 1, 0, 0, 0, [], 0, 0) 212 240 := X_at (r := mi212) rfl rfl
set_option maxRecDepth 20000 in
theorem x212_241 {z : P0} : X z 212 241 = XI mT z (X z) (.sipush 255, 3, 0, 0, 0, [], nI 255, 0) 212 241 := X_at (r := mi212) rfl rfl
set_option maxRecDepth 20000 in
theorem x212_244 {z : P0} : X z 212 244 = XI mT z (X z) (.if_icmp .le 6, 3, 250, 0, 0, [], 0, 0) 212 244 := X_at (r := mi212) rfl rfl
set_option maxRecDepth 20000 in
theorem x212_247 {z : P0} : X z 212 247 = XI mT z (X z) (.iinc 14 1, 3, 14, 0, 0, [], nI 1, 0) 212 247 := X_at (r := mi212) rfl rfl
set_option maxRecDepth 20000 in
theorem x212_250 {z : P0} : X z 212 250 = XI mT z (X z) (.iinc 15 1, 3, 15, 0, 0, [], nI 1, 0) 212 250 := X_at (r := mi212) rfl rfl
set_option maxRecDepth 20000 in
theorem x212_253 {z : P0} : X z 212 253 = XI mT z (X z) (.goto (-25), 3, 228, 0, 0, [], 0, 0) 212 253 := X_at (r := mi212) rfl rfl
set_option maxRecDepth 20000 in
theorem x212_256 {z : P0} : X z 212 256 = XI mT z (X z) (.aload_n 0, 1, 0, 0, 0, [], 0, 0) 212 256 := X_at (r := mi212) rfl rfl
set_option maxRecDepth 20000 in
theorem x212_257 {z : P0} : X z 212 257 = XI mT z (X z) (.invokevirtual 93, 3, 0, 60, 0, [112], 0, 0) 212 257 := X_at (r := mi212) rfl rfl
set_option maxRecDepth 20000 in
theorem x212_260 {z : P0} : X z 212 260 = XI mT z (X z) (.iload 14, 2, 14, 0, 0, [], 0, 0) 212 260 := X_at (r := mi212) rfl rfl
set_option maxRecDepth 20000 in
theorem x212_262 {z : P0} : X z 212 262 = XI mT z (X z) (.if_icmp .ne 14, 3, 276, 0, 0, [], 0, 0) 212 262 := X_at (r := mi212) rfl rfl
set_option maxRecDepth 20000 in
theorem x212_265 {z : P0} : X z 212 265 = XI mT z (X z) (.aload_n 0, 1, 0, 0, 0, [], 0, 0) 212 265 := X_at (r := mi212) rfl rfl
set_option maxRecDepth 20000 in
theorem x212_266 {z : P0} : X z 212 266 = XI mT z (X z) (.invokevirtual 8, 3, 0, 68, 0, [90], 0, 0) 212 266 := X_at (r := mi212) rfl rfl
set_option maxRecDepth 20000 in
theorem x212_269 {z : P0} : X z 212 269 = XI mT z (X z) (.ifCond .ne 7, 3, 276, 0, 0, [], 0, 0) 212 269 := X_at (r := mi212) rfl rfl
set_option maxRecDepth 20000 in
theorem x212_272 {z : P0} : X z 212 272 = XI mT z (X z) (.iconst 1, 1, 0, 0, 0, [], nI 1, 0) 212 272 := X_at (r := mi212) rfl rfl
set_option maxRecDepth 20000 in
theorem x212_273 {z : P0} : X z 212 273 = XI mT z (X z) (.goto 4, 3, 277, 0, 0, [], 0, 0) 212 273 := X_at (r := mi212) rfl rfl
set_option maxRecDepth 20000 in
theorem x212_276 {z : P0} : X z 212 276 = XI mT z (X z) (.iconst 0, 1, 0, 0, 0, [], nI 0, 0) 212 276 := X_at (r := mi212) rfl rfl
set_option maxRecDepth 20000 in
theorem x212_277 {z : P0} : X z 212 277 = XI mT z (X z) (.ireturn, 1, 0, 0, 0, [], 0, 0) 212 277 := X_at (r := mi212) rfl rfl
set_option maxRecDepth 20000 in
theorem x212_278 {z : P0} : X z 212 278 = XI mT z (X z) (.iload_n 2, 1, 2, 0, 0, [], 0, 0) 212 278 := X_at (r := mi212) rfl rfl
set_option maxRecDepth 20000 in
theorem x212_279 {z : P0} : X z 212 279 = XI mT z (X z) (.aload_n 3, 1, 3, 0, 0, [], 0, 0) 212 279 := X_at (r := mi212) rfl rfl
set_option maxRecDepth 20000 in
theorem x212_280 {z : P0} : X z 212 280 = XI mT z (X z) (.iconst 0, 1, 0, 0, 0, [], nI 0, 0) 212 280 := X_at (r := mi212) rfl rfl
set_option maxRecDepth 20000 in
theorem x212_281 {z : P0} : X z 212 281 = XI mT z (X z) (.iaload, 1, 0, 0, 0, [], 0, 0) 212 281 := X_at (r := mi212) rfl rfl
set_option maxRecDepth 20000 in
theorem x212_282 {z : P0} : X z 212 282 = XI mT z (X z) (.invokestatic 34, 3, 2, 193, 0, [96], 0, 0) 212 282 := X_at (r := mi212) rfl rfl
set_option maxRecDepth 20000 in
theorem x212_285 {z : P0} : X z 212 285 = XI mT z (X z) (.istore 14, 2, 14, 0, 0, [], 0, 0) 212 285 := X_at (r := mi212) rfl rfl
set_option maxRecDepth 20000 in
theorem x212_287 {z : P0} : X z 212 287 = XI mT z (X z) (.iload 13, 2, 13, 0, 0, [], 0, 0) 212 287 := X_at (r := mi212) rfl rfl
set_option maxRecDepth 20000 in
theorem x212_289 {z : P0} : X z 212 289 = XI mT z (X z) (.bipush 7, 2, 0, 0, 0, [], nI 7, 0) 212 289 := X_at (r := mi212) rfl rfl
set_option maxRecDepth 20000 in
theorem x212_291 {z : P0} : X z 212 291 = XI mT z (X z) (.if_icmp .ge 50, 3, 341, 0, 0, [], 0, 0) 212 291 := X_at (r := mi212) rfl rfl
set_option maxRecDepth 20000 in
theorem x212_294 {z : P0} : X z 212 294 = XI mT z (X z) (.aload 6, 2, 6, 0, 0, [], 0, 0) 212 294 := X_at (r := mi212) rfl rfl
set_option maxRecDepth 20000 in
theorem x212_296 {z : P0} : X z 212 296 = XI mT z (X z) (.iload 14, 2, 14, 0, 0, [], 0, 0) 212 296 := X_at (r := mi212) rfl rfl
set_option maxRecDepth 20000 in
theorem x212_298 {z : P0} : X z 212 298 = XI mT z (X z) (.iaload, 1, 0, 0, 0, [], 0, 0) 212 298 := X_at (r := mi212) rfl rfl
set_option maxRecDepth 20000 in
theorem x212_299 {z : P0} : X z 212 299 = XI mT z (X z) (.istore 15, 2, 15, 0, 0, [], 0, 0) 212 299 := X_at (r := mi212) rfl rfl
set_option maxRecDepth 20000 in
theorem x212_301 {z : P0} : X z 212 301 = XI mT z (X z) (.aload 6, 2, 6, 0, 0, [], 0, 0) 212 301 := X_at (r := mi212) rfl rfl
set_option maxRecDepth 20000 in
theorem x212_303 {z : P0} : X z 212 303 = XI mT z (X z) (.iload 14, 2, 14, 0, 0, [], 0, 0) 212 303 := X_at (r := mi212) rfl rfl
set_option maxRecDepth 20000 in
theorem x212_305 {z : P0} : X z 212 305 = XI mT z (X z) (.iload_n 2, 1, 2, 0, 0, [], 0, 0) 212 305 := X_at (r := mi212) rfl rfl
set_option maxRecDepth 20000 in
theorem x212_306 {z : P0} : X z 212 306 = XI mT z (X z) (.iconst 5, 1, 0, 0, 0, [], nI 5, 0) 212 306 := X_at (r := mi212) rfl rfl
set_option maxRecDepth 20000 in
theorem x212_307 {z : P0} : X z 212 307 = XI mT z (X z) (.ishr, 1, 0, 0, 0, [], 0, 0) 212 307 := X_at (r := mi212) rfl rfl
set_option maxRecDepth 20000 in
theorem x212_308 {z : P0} : X z 212 308 = XI mT z (X z) (.aload_n 3, 1, 3, 0, 0, [], 0, 0) 212 308 := X_at (r := mi212) rfl rfl
set_option maxRecDepth 20000 in
theorem x212_309 {z : P0} : X z 212 309 = XI mT z (X z) (.iconst 1, 1, 0, 0, 0, [], nI 1, 0) 212 309 := X_at (r := mi212) rfl rfl
set_option maxRecDepth 20000 in
theorem x212_310 {z : P0} : X z 212 310 = XI mT z (X z) (.iaload, 1, 0, 0, 0, [], 0, 0) 212 310 := X_at (r := mi212) rfl rfl
set_option maxRecDepth 20000 in
theorem x212_311 {z : P0} : X z 212 311 = XI mT z (X z) (.iconst 1, 1, 0, 0, 0, [], nI 1, 0) 212 311 := X_at (r := mi212) rfl rfl
set_option maxRecDepth 20000 in
theorem x212_312 {z : P0} : X z 212 312 = XI mT z (X z) (.iadd, 1, 0, 0, 0, [], 0, 0) 212 312 := X_at (r := mi212) rfl rfl
set_option maxRecDepth 20000 in
theorem x212_313 {z : P0} : X z 212 313 = XI mT z (X z) (.invokestatic 34, 3, 2, 193, 0, [96], 0, 0) 212 313 := X_at (r := mi212) rfl rfl
set_option maxRecDepth 20000 in
theorem x212_316 {z : P0} : X z 212 316 = XI mT z (X z) (.iconst 1, 1, 0, 0, 0, [], nI 1, 0) 212 316 := X_at (r := mi212) rfl rfl
set_option maxRecDepth 20000 in
theorem x212_317 {z : P0} : X z 212 317 = XI mT z (X z) (.isub, 1, 0, 0, 0, [], 0, 0) 212 317 := X_at (r := mi212) rfl rfl
set_option maxRecDepth 20000 in
theorem x212_318 {z : P0} : X z 212 318 = XI mT z (X z) (.iastore, 1, 0, 0, 0, [], 0, 0) 212 318 := X_at (r := mi212) rfl rfl
set_option maxRecDepth 20000 in
theorem x212_319 {z : P0} : X z 212 319 = XI mT z (X z) (.aload_n 0, 1, 0, 0, 0, [], 0, 0) 212 319 := X_at (r := mi212) rfl rfl
set_option maxRecDepth 20000 in
theorem x212_320 {z : P0} : X z 212 320 = XI mT z (X z) (.iload 14, 2, 14, 0, 0, [], 0, 0) 212 320 := X_at (r := mi212) rfl rfl
set_option maxRecDepth 20000 in
theorem x212_322 {z : P0} : X z 212 322 = XI mT z (X z) (.aload 6, 2, 6, 0, 0, [], 0, 0) 212 322 := X_at (r := mi212) rfl rfl
set_option maxRecDepth 20000 in
theorem x212_324 {z : P0} : X z 212 324 = XI mT z (X z) (.iload 14, 2, 14, 0, 0, [], 0, 0) 212 324 := X_at (r := mi212) rfl rfl
set_option maxRecDepth 20000 in
theorem x212_326 {z : P0} : X z 212 326 = XI mT z (X z) (.iaload, 1, 0, 0, 0, [], 0, 0) 212 326 := X_at (r := mi212) rfl rfl
set_option maxRecDepth 20000 in
theorem x212_327 {z : P0} : X z 212 327 = XI mT z (X z) (.invokevirtual 96, 3, 2, 62, 0, [113], 0, 0) 212 327 := X_at (r := mi212) rfl rfl
set_option maxRecDepth 20000 in
theorem x212_330 {z : P0} : X z 212 330 = XI mT z (X z) (.iload 15, 2, 15, 0, 0, [], 0, 0) 212 330 := X_at (r := mi212) rfl rfl
set_option maxRecDepth 20000 in
theorem x212_332 {z : P0} : X z 212 332 = XI mT z (X z) (.if_icmp .ne 7, 3, 339, 0, 0, [], 0, 0) 212 332 := X_at (r := mi212) rfl rfl
set_option maxRecDepth 20000 in
theorem x212_335 {z : P0} : X z 212 335 = XI mT z (X z) (.iconst 1, 1, 0, 0, 0, [], nI 1, 0) 212 335 := X_at (r := mi212) rfl rfl
set_option maxRecDepth 20000 in
theorem x212_336 {z : P0} : X z 212 336 = XI mT z (X z) (.goto 4, 3, 340, 0, 0, [], 0, 0) 212 336 := X_at (r := mi212) rfl rfl
set_option maxRecDepth 20000 in
theorem x212_339 {z : P0} : X z 212 339 = XI mT z (X z) (.iconst 0, 1, 0, 0, 0, [], nI 0, 0) 212 339 := X_at (r := mi212) rfl rfl
set_option maxRecDepth 20000 in
theorem x212_340 {z : P0} : X z 212 340 = XI mT z (X z) (.ireturn, 1, 0, 0, 0, [], 0, 0) 212 340 := X_at (r := mi212) rfl rfl
set_option maxRecDepth 20000 in
theorem x212_341 {z : P0} : X z 212 341 = XI mT z (X z) (.iload 13, 2, 13, 0, 0, [], 0, 0) 212 341 := X_at (r := mi212) rfl rfl
set_option maxRecDepth 20000 in
theorem x212_343 {z : P0} : X z 212 343 = XI mT z (X z) (.bipush 7, 2, 0, 0, 0, [], nI 7, 0) 212 343 := X_at (r := mi212) rfl rfl
set_option maxRecDepth 20000 in
theorem x212_345 {z : P0} : X z 212 345 = XI mT z (X z) (.if_icmp .ne 44, 3, 389, 0, 0, [], 0, 0) 212 345 := X_at (r := mi212) rfl rfl
set_option maxRecDepth 20000 in
theorem x212_348 {z : P0} : X z 212 348 = XI mT z (X z) (.aload 4, 2, 4, 0, 0, [], 0, 0) 212 348 := X_at (r := mi212) rfl rfl
set_option maxRecDepth 20000 in
theorem x212_350 {z : P0} : X z 212 350 = XI mT z (X z) (.iload 14, 2, 14, 0, 0, [], 0, 0) 212 350 := X_at (r := mi212) rfl rfl
set_option maxRecDepth 20000 in
theorem x212_352 {z : P0} : X z 212 352 = XI mT z (X z) (.iaload, 1, 0, 0, 0, [], 0, 0) 212 352 := X_at (r := mi212) rfl rfl
set_option maxRecDepth 20000 in
theorem x212_353 {z : P0} : X z 212 353 = XI mT z (X z) (.istore 15, 2, 15, 0, 0, [], 0, 0) 212 353 := X_at (r := mi212) rfl rfl
set_option maxRecDepth 20000 in
theorem x212_355 {z : P0} : X z 212 355 = XI mT z (X z) (.aload 4, 2, 4, 0, 0, [], 0, 0) 212 355 := X_at (r := mi212) rfl rfl
set_option maxRecDepth 20000 in
theorem x212_357 {z : P0} : X z 212 357 = XI mT z (X z) (.iload 14, 2, 14, 0, 0, [], 0, 0) 212 357 := X_at (r := mi212) rfl rfl
set_option maxRecDepth 20000 in
theorem x212_359 {z : P0} : X z 212 359 = XI mT z (X z) (.iload_n 2, 1, 2, 0, 0, [], 0, 0) 212 359 := X_at (r := mi212) rfl rfl
set_option maxRecDepth 20000 in
theorem x212_360 {z : P0} : X z 212 360 = XI mT z (X z) (.iconst 5, 1, 0, 0, 0, [], nI 5, 0) 212 360 := X_at (r := mi212) rfl rfl
set_option maxRecDepth 20000 in
theorem x212_361 {z : P0} : X z 212 361 = XI mT z (X z) (.ishr, 1, 0, 0, 0, [], 0, 0) 212 361 := X_at (r := mi212) rfl rfl
set_option maxRecDepth 20000 in
theorem x212_362 {z : P0} : X z 212 362 = XI mT z (X z) (.iconst 3, 1, 0, 0, 0, [], nI 3, 0) 212 362 := X_at (r := mi212) rfl rfl
set_option maxRecDepth 20000 in
theorem x212_363 {z : P0} : X z 212 363 = XI mT z (X z) (.invokestatic 34, 3, 2, 193, 0, [96], 0, 0) 212 363 := X_at (r := mi212) rfl rfl
set_option maxRecDepth 20000 in
theorem x212_366 {z : P0} : X z 212 366 = XI mT z (X z) (.iastore, 1, 0, 0, 0, [], 0, 0) 212 366 := X_at (r := mi212) rfl rfl
set_option maxRecDepth 20000 in
theorem x212_367 {z : P0} : X z 212 367 = XI mT z (X z) (.aload_n 0, 1, 0, 0, 0, [], 0, 0) 212 367 := X_at (r := mi212) rfl rfl
set_option maxRecDepth 20000 in
theorem x212_368 {z : P0} : X z 212 368 = XI mT z (X z) (.iload 14, 2, 14, 0, 0, [], 0, 0) 212 368 := X_at (r := mi212) rfl rfl
set_option maxRecDepth 20000 in
theorem x212_370 {z : P0} : X z 212 370 = XI mT z (X z) (.aload 4, 2, 4, 0, 0, [], 0, 0) 212 370 := X_at (r := mi212) rfl rfl
set_option maxRecDepth 20000 in
theorem x212_372 {z : P0} : X z 212 372 = XI mT z (X z) (.iload 14, 2, 14, 0, 0, [], 0, 0) 212 372 := X_at (r := mi212) rfl rfl
set_option maxRecDepth 20000 in
theorem x212_374 {z : P0} : X z 212 374 = XI mT z (X z) (.iaload, 1, 0, 0, 0, [], 0, 0) 212 374 := X_at (r := mi212) rfl rfl
set_option maxRecDepth 20000 in
theorem x212_375 {z : P0} : X z 212 375 = XI mT z (X z) (.invokevirtual 99, 3, 2, 61, 0, [114], 0, 0) 212 375 := X_at (r := mi212) rfl rfl
set_option maxRecDepth 20000 in
theorem x212_378 {z : P0} : X z 212 378 = XI mT z (X z) (.iload 15, 2, 15, 0, 0, [], 0, 0) 212 378 := X_at (r := mi212) rfl rfl
set_option maxRecDepth 20000 in
theorem x212_380 {z : P0} : X z 212 380 = XI mT z (X z) (.if_icmp .ne 7, 3, 387, 0, 0, [], 0, 0) 212 380 := X_at (r := mi212) rfl rfl
set_option maxRecDepth 20000 in
theorem x212_383 {z : P0} : X z 212 383 = XI mT z (X z) (.iconst 1, 1, 0, 0, 0, [], nI 1, 0) 212 383 := X_at (r := mi212) rfl rfl
set_option maxRecDepth 20000 in
theorem x212_384 {z : P0} : X z 212 384 = XI mT z (X z) (.goto 4, 3, 388, 0, 0, [], 0, 0) 212 384 := X_at (r := mi212) rfl rfl
set_option maxRecDepth 20000 in
theorem x212_387 {z : P0} : X z 212 387 = XI mT z (X z) (.iconst 0, 1, 0, 0, 0, [], nI 0, 0) 212 387 := X_at (r := mi212) rfl rfl
set_option maxRecDepth 20000 in
theorem x212_388 {z : P0} : X z 212 388 = XI mT z (X z) (.ireturn, 1, 0, 0, 0, [], 0, 0) 212 388 := X_at (r := mi212) rfl rfl
set_option maxRecDepth 20000 in
theorem x212_389 {z : P0} : X z 212 389 = XI mT z (X z) (.iload 13, 2, 13, 0, 0, [], 0, 0) 212 389 := X_at (r := mi212) rfl rfl
set_option maxRecDepth 20000 in
theorem x212_391 {z : P0} : X z 212 391 = XI mT z (X z) (.bipush 8, 2, 0, 0, 0, [], nI 8, 0) 212 391 := X_at (r := mi212) rfl rfl
set_option maxRecDepth 20000 in
theorem x212_393 {z : P0} : X z 212 393 = XI mT z (X z) (.if_icmp .ne 84, 3, 477, 0, 0, [], 0, 0) 212 393 := X_at (r := mi212) rfl rfl
set_option maxRecDepth 20000 in
theorem x212_396 {z : P0} : X z 212 396 = XI mT z (X z) (.aload 7, 2, 7, 0, 0, [], 0, 0) 212 396 := X_at (r := mi212) rfl rfl
set_option maxRecDepth 20000 in
theorem x212_398 {z : P0} : X z 212 398 = XI mT z (X z) (.iload 14, 2, 14, 0, 0, [], 0, 0) 212 398 := X_at (r := mi212) rfl rfl
set_option maxRecDepth 20000 in
theorem x212_400 {z : P0} : X z 212 400 = XI mT z (X z) (.iload_n 2, 1, 2, 0, 0, [], 0, 0) 212 400 := X_at (r := mi212) rfl rfl
set_option maxRecDepth 20000 in
theorem x212_401 {z : P0} : X z 212 401 = XI mT z (X z) (.iconst 5, 1, 0, 0, 0, [], nI 5, 0) 212 401 := X_at (r := mi212) rfl rfl
set_option maxRecDepth 20000 in
theorem x212_402 {z : P0} : X z 212 402 = XI mT z (X z) (.ishr, 1, 0, 0, 0, [], 0, 0) 212 402 := X_at (r := mi212) rfl rfl
set_option maxRecDepth 20000 in
theorem x212_403 {z : P0} : X z 212 403 = XI mT z (X z) (.iconst 4, 1, 0, 0, 0, [], nI 4, 0) 212 403 := X_at (r := mi212) rfl rfl
set_option maxRecDepth 20000 in
theorem x212_404 {z : P0} : X z 212 404 = XI mT z (X z) (.invokestatic 34, 3, 2, 193, 0, [96], 0, 0) 212 404 := X_at (r := mi212) rfl rfl
set_option maxRecDepth 20000 in
theorem x212_407 {z : P0} : X z 212 407 = XI mT z (X z) (.ifCond .ne 7, 3, 414, 0, 0, [], 0, 0) 212 407 := X_at (r := mi212) rfl rfl
set_option maxRecDepth 20000 in
theorem x212_410 {z : P0} : X z 212 410 = XI mT z (X z) (.iconst 1, 1, 0, 0, 0, [], nI 1, 0) 212 410 := X_at (r := mi212) rfl rfl
set_option maxRecDepth 20000 in
theorem x212_411 {z : P0} : X z 212 411 = XI mT z (X z) (.goto 4, 3, 415, 0, 0, [], 0, 0) 212 411 := X_at (r := mi212) rfl rfl
set_option maxRecDepth 20000 in
theorem x212_414 {z : P0} : X z 212 414 = XI mT z (X z) (.iconst 0, 1, 0, 0, 0, [], nI 0, 0) 212 414 := X_at (r := mi212) rfl rfl
set_option maxRecDepth 20000 in
theorem x212_415 {z : P0} : X z 212 415 = XI mT z (X z) (.iastore, 1, 0, 0, 0, [], 0, 0) 212 415 := X_at (r := mi212) rfl rfl
set_option maxRecDepth 20000 in
theorem x212_416 {z : P0} : X z 212 416 = XI mT z (X z) (.iconst 0, 1, 0, 0, 0, [], nI 0, 0) 212 416 := X_at (r := mi212) rfl rfl
set_option maxRecDepth 20000 in
theorem x212_417 {z : P0} : X z 212 417 = XI mT z (X z) (.istore 15, 2, 15, 0, 0, [], 0, 0) 212 417 := X_at (r := mi212) rfl rfl
set_option maxRecDepth 20000 in
theorem x212_419 {z : P0} : X z 212 419 = XI mT z (X z) (.iconst 0, 1, 0, 0, 0, [], nI 0, 0) 212 419 := X_at (r := mi212) rfl rfl
set_option maxRecDepth 20000 in
theorem x212_420 {z : P0} : X z 212 420 = XI mT z (X z) (.istore 16, 2, 16, 0, 0, [], 0, 0) 212 420 := X_at (r := mi212) rfl rfl
set_option maxRecDepth 20000 in
theorem x212_422 {z : P0} : X z 212 422 = XI mT z (X z) (.iload 16, 2, 16, 0, 0, [], 0, 0) 212 422 := X_at (r := mi212) rfl rfl
set_option maxRecDepth 20000 in
theorem x212_424 {z : P0} : X z 212 424 = XI mT z (X z) (.aload_n 3, 1, 3, 0, 0, [], 0, 0) 212 424 := X_at (r := mi212) rfl rfl
set_option maxRecDepth 20000 in
theorem x212_425 {z : P0} : X z 212 425 = XI mT z (X z) (.iconst 0, 1, 0, 0, 0, [], nI 0, 0) 212 425 := X_at (r := mi212) rfl rfl
set_option maxRecDepth 20000 in
theorem x212_426 {z : P0} : X z 212 426 = XI mT z (X z) (.iaload, 1, 0, 0, 0, [], 0, 0) 212 426 := X_at (r := mi212) rfl rfl
set_option maxRecDepth 20000 in
theorem x212_427 {z : P0} : X z 212 427 = XI mT z (X z) (.if_icmp .ge 19, 3, 446, 0, 0, [], 0, 0) 212 427 := X_at (r := mi212) rfl rfl
set_option maxRecDepth 20000 in
theorem x212_430 {z : P0} : X z 212 430 = XI mT z (X z) (.iload 15, 2, 15, 0, 0, [], 0, 0) 212 430 := X_at (r := mi212) rfl rfl
set_option maxRecDepth 20000 in
theorem x212_432 {z : P0} : X z 212 432 = XI mT z (X z) (.aload 7, 2, 7, 0, 0, [], 0, 0) 212 432 := X_at (r := mi212) rfl rfl
set_option maxRecDepth 20000 in
theorem x212_434 {z : P0} : X z 212 434 = XI mT z (X z) (.iload 16, 2, 16, 0, 0, [], 0, 0) 212 434 := X_at (r := mi212) rfl rfl
set_option maxRecDepth 20000 in
theorem x212_436 {z : P0} : X z 212 436 = XI mT z (X z) (.iaload, 1, 0, 0, 0, [], 0, 0) 212 436 := X_at (r := mi212) rfl rfl
set_option maxRecDepth 20000 in
theorem x212_437 {z : P0} : X z 212 437 = XI mT z (X z) (.iadd, 1, 0, 0, 0, [], 0, 0) 212 437 := X_at (r := mi212) rfl rfl
set_option maxRecDepth 20000 in
theorem x212_438 {z : P0} : X z 212 438 = XI mT z (X z) (.istore 15, 2, 15, 0, 0, [], 0, 0) 212 438 := X_at (r := mi212) rfl rfl
set_option maxRecDepth 20000 in
theorem x212_440 {z : P0} : X z 212 440 = XI mT z (X z) (.iinc 16 1, 3, 16, 0, 0, [], nI 1, 0) 212 440 := X_at (r := mi212) rfl rfl
set_option maxRecDepth 20000 in
theorem x212_443 {z : P0} : X z 212 443 = XI mT z (X z) (.goto (-21), 3, 422, 0, 0, [], 0, 0) 212 443 := X_at (r := mi212) rfl rfl
set_option maxRecDepth 20000 in
theorem x212_446 {z : P0} : X z 212 446 = XI mT z (X z) (.aload_n 0, 1, 0, 0, 0, [], 0, 0) 212 446 := X_at (r := mi212) rfl rfl
set_option maxRecDepth 20000 in
theorem x212_447 {z : P0} : X z 212 447 = XI mT z (X z) (.iload 14, 2, 14, 0, 0, [], 0, 0) 212 447 := X_at (r := mi212) rfl rfl
set_option maxRecDepth 20000 in
theorem x212_449 {z : P0} : X z 212 449 = XI mT z (X z) (.aload 7, 2, 7, 0, 0, [], 0, 0) 212 449 := X_at (r := mi212) rfl rfl
set_option maxRecDepth 20000 in
theorem x212_451 {z : P0} : X z 212 451 = XI mT z (X z) (.iload 14, 2, 14, 0, 0, [], 0, 0) 212 451 := X_at (r := mi212) rfl rfl
set_option maxRecDepth 20000 in
theorem x212_453 {z : P0} : X z 212 453 = XI mT z (X z) (.iaload, 1, 0, 0, 0, [], 0, 0) 212 453 := X_at (r := mi212) rfl rfl
set_option maxRecDepth 20000 in
theorem x212_454 {z : P0} : X z 212 454 = XI mT z (X z) (.iconst 1, 1, 0, 0, 0, [], nI 1, 0) 212 454 := X_at (r := mi212) rfl rfl
set_option maxRecDepth 20000 in
theorem x212_455 {z : P0} : X z 212 455 = XI mT z (X z) (.if_icmp .ne 7, 3, 462, 0, 0, [], 0, 0) 212 455 := X_at (r := mi212) rfl rfl
set_option maxRecDepth 20000 in
theorem x212_458 {z : P0} : X z 212 458 = XI mT z (X z) (.iconst 1, 1, 0, 0, 0, [], nI 1, 0) 212 458 := X_at (r := mi212) rfl rfl
set_option maxRecDepth 20000 in
theorem x212_459 {z : P0} : X z 212 459 = XI mT z (X z) (.goto 4, 3, 463, 0, 0, [], 0, 0) 212 459 := X_at (r := mi212) rfl rfl
set_option maxRecDepth 20000 in
theorem x212_462 {z : P0} : X z 212 462 = XI mT z (X z) (.iconst 0, 1, 0, 0, 0, [], nI 0, 0) 212 462 := X_at (r := mi212) rfl rfl
set_option maxRecDepth 20000 in
theorem x212_463 {z : P0} : X z 212 463 = XI mT z (X z) (.invokevirtual 102, 3, 2, 63, 0, [115], 0, 0) 212 463 := X_at (r := mi212) rfl rfl
set_option maxRecDepth 20000 in
theorem x212_466 {z : P0} : X z 212 466 = XI mT z (X z) (.iload 15, 2, 15, 0, 0, [], 0, 0) 212 466 := X_at (r := mi212) rfl rfl
set_option maxRecDepth 20000 in
theorem x212_468 {z : P0} : X z 212 468 = XI mT z (X z) (.if_icmp .ne 7, 3, 475, 0, 0, [], 0, 0) 212 468 := X_at (r := mi212) rfl rfl
set_option maxRecDepth 20000 in
theorem x212_471 {z : P0} : X z 212 471 = XI mT z (X z) (.iconst 1, 1, 0, 0, 0, [], nI 1, 0) 212 471 := X_at (r := mi212) rfl rfl
set_option maxRecDepth 20000 in
theorem x212_472 {z : P0} : X z 212 472 = XI mT z (X z) (.goto 4, 3, 476, 0, 0, [], 0, 0) 212 472 := X_at (r := mi212) rfl rfl
set_option maxRecDepth 20000 in
theorem x212_475 {z : P0} : X z 212 475 = XI mT z (X z) (.iconst 0, 1, 0, 0, 0, [], nI 0, 0) 212 475 := X_at (r := mi212) rfl rfl
set_option maxRecDepth 20000 in
theorem x212_476 {z : P0} : X z 212 476 = XI mT z (X z) (.ireturn, 1, 0, 0, 0, [], 0, 0) 212 476 := X_at (r := mi212) rfl rfl
set_option maxRecDepth 20000 in
theorem x212_477 {z : P0} : X z 212 477 = XI mT z (X z) (.iload 13, 2, 13, 0, 0, [], 0, 0) 212 477 := X_at (r := mi212) rfl rfl
set_option maxRecDepth 20000 in
theorem x212_479 {z : P0} : X z 212 479 = XI mT z (X z) (.bipush 9, 2, 0, 0, 0, [], nI 9, 0) 212 479 := X_at (r := mi212) rfl rfl
set_option maxRecDepth 20000 in
theorem x212_481 {z : P0} : X z 212 481 = XI mT z (X z) (.if_icmp .ne 39, 3, 520, 0, 0, [], 0, 0) 212 481 := X_at (r := mi212) rfl rfl
set_option maxRecDepth 20000 in
theorem x212_484 {z : P0} : X z 212 484 = XI mT z (X z) (.iconst 1, 1, 0, 0, 0, [], nI 1, 0) 212 484 := X_at (r := mi212) rfl rfl
set_option maxRecDepth 20000 in
theorem x212_485 {z : P0} : X z 212 485 = XI mT z (X z) (.iload_n 2, 1, 2, 0, 0, [], 0, 0) 212 485 := X_at (r := mi212) rfl rfl
set_option maxRecDepth 20000 in
theorem x212_486 {z : P0} : X z 212 486 = XI mT z (X z) (.bipush 9, 2, 0, 0, 0, [], nI 9, 0) 212 486 := X_at (r := mi212) rfl rfl
set_option maxRecDepth 20000 in
theorem x212_488 {z : P0} : X z 212 488 = XI mT z (X z) (.invokestatic 34, 3, 2, 193, 0, [96], 0, 0) 212 488 := X_at (r := mi212) rfl rfl
set_option maxRecDepth 20000 in
theorem x212_491 {z : P0} : X z 212 491 = XI mT z (X z) (.iadd, 1, 0, 0, 0, [], 0, 0) 212 491 := X_at (r := mi212) rfl rfl
set_option maxRecDepth 20000 in
theorem x212_492 {z : P0} : X z 212 492 = XI mT z (X z) (.istore 15, 2, 15, 0, 0, [], 0, 0) 212 492 := X_at (r := mi212) rfl rfl
set_option maxRecDepth 20000 in
theorem x212_494 {z : P0} : X z 212 494 = XI mT z (X z) (.aload_n 3, 1, 3, 0, 0, [], 0, 0) 212 494 := X_at (r := mi212) rfl rfl
set_option maxRecDepth 20000 in
theorem x212_495 {z : P0} : X z 212 495 = XI mT z (X z) (.iconst 3, 1, 0, 0, 0, [], nI 3, 0) 212 495 := X_at (r := mi212) rfl rfl
set_option maxRecDepth 20000 in
theorem x212_496 {z : P0} : X z 212 496 = XI mT z (X z) (.dup2, 1, 0, 0, 0, [], 0, 0) 212 496 := X_at (r := mi212) rfl rfl
set_option maxRecDepth 20000 in
theorem x212_497 {z : P0} : X z 212 497 = XI mT z (X z) (.iaload, 1, 0, 0, 0, [], 0, 0) 212 497 := X_at (r := mi212) rfl rfl
set_option maxRecDepth 20000 in
theorem x212_498 {z : P0} : X z 212 498 = XI mT z (X z) (.iload 15, 2, 15, 0, 0, [], 0, 0) 212 498 := X_at (r := mi212) rfl rfl
set_option maxRecDepth 20000 in
theorem x212_500 {z : P0} : X z 212 500 = XI mT z (X z) (.iadd, 1, 0, 0, 0, [], 0, 0) 212 500 := X_at (r := mi212) rfl rfl
set_option maxRecDepth 20000 in
theorem x212_501 {z : P0} : X z 212 501 = XI mT z (X z) (.iastore, 1, 0, 0, 0, [], 0, 0) 212 501 := X_at (r := mi212) rfl rfl
set_option maxRecDepth 20000 in
theorem x212_502 {z : P0} : X z 212 502 = XI mT z (X z) (.aload_n 0, 1, 0, 0, 0, [], 0, 0) 212 502 := X_at (r := mi212) rfl rfl
set_option maxRecDepth 20000 in
theorem x212_503 {z : P0} : X z 212 503 = XI mT z (X z) (.iload 15, 2, 15, 0, 0, [], 0, 0) 212 503 := X_at (r := mi212) rfl rfl
set_option maxRecDepth 20000 in
theorem x212_505 {z : P0} : X z 212 505 = XI mT z (X z) (.invokevirtual 106, 3, 1, 66, 0, [116], 0, 0) 212 505 := X_at (r := mi212) rfl rfl
set_option maxRecDepth 20000 in
theorem x212_508 {z : P0} : X z 212 508 = XI mT z (X z) (.aload_n 3, 1, 3, 0, 0, [], 0, 0) 212 508 := X_at (r := mi212) rfl rfl
set_option maxRecDepth 20000 in
theorem x212_509 {z : P0} : X z 212 509 = XI mT z (X z) (.iconst 3, 1, 0, 0, 0, [], nI 3, 0) 212 509 := X_at (r := mi212) rfl rfl
set_option maxRecDepth 20000 in
theorem x212_510 {z : P0} : X z 212 510 = XI mT z (X z) (.iaload, 1, 0, 0, 0, [], 0, 0) 212 510 := X_at (r := mi212) rfl rfl
set_option maxRecDepth 20000 in
theorem x212_511 {z : P0} : X z 212 511 = XI mT z (X z) (.if_icmp .ne 7, 3, 518, 0, 0, [], 0, 0) 212 511 := X_at (r := mi212) rfl rfl
set_option maxRecDepth 20000 in
theorem x212_514 {z : P0} : X z 212 514 = XI mT z (X z) (.iconst 1, 1, 0, 0, 0, [], nI 1, 0) 212 514 := X_at (r := mi212) rfl rfl
set_option maxRecDepth 20000 in
theorem x212_515 {z : P0} : X z 212 515 = XI mT z (X z) (.goto 4, 3, 519, 0, 0, [], 0, 0) 212 515 := X_at (r := mi212) rfl rfl
set_option maxRecDepth 20000 in
theorem x212_518 {z : P0} : X z 212 518 = XI mT z (X z) (.iconst 0, 1, 0, 0, 0, [], nI 0, 0) 212 518 := X_at (r := mi212) rfl rfl
set_option maxRecDepth 20000 in
theorem x212_519 {z : P0} : X z 212 519 = XI mT z (X z) (.ireturn, 1, 0, 0, 0, [], 0, 0) 212 519 := X_at (r := mi212) rfl rfl
set_option maxRecDepth 20000 in
theorem x212_520 {z : P0} : X z 212 520 = XI mT z (X z) (.iload_n 2, 1, 2, 0, 0, [], 0, 0) 212 520 := X_at (r := mi212) rfl rfl
set_option maxRecDepth 20000 in
theorem x212_521 {z : P0} : X z 212 521 = XI mT z (X z) (.bipush 6, 2, 0, 0, 0, [], nI 6, 0) 212 521 := X_at (r := mi212) rfl rfl
set_option maxRecDepth 20000 in
theorem x212_523 {z : P0} : X z 212 523 = XI mT z (X z) (.invokestatic 34, 3, 2, 193, 0, [96], 0, 0) 212 523 := X_at (r := mi212) rfl rfl
set_option maxRecDepth 20000 in
theorem x212_526 {z : P0} : X z 212 526 = XI mT z (X z) (.istore 15, 2, 15, 0, 0, [], 0, 0) 212 526 := X_at (r := mi212) rfl rfl
set_option maxRecDepth 20000 in
theorem x212_528 {z : P0} : X z 212 528 = XI mT z (X z) (.aload_n 3, 1, 3, 0, 0, [], 0, 0) 212 528 := X_at (r := mi212) rfl rfl
set_option maxRecDepth 20000 in
theorem x212_529 {z : P0} : X z 212 529 = XI mT z (X z) (.bipush 8, 2, 0, 0, 0, [], nI 8, 0) 212 529 := X_at (r := mi212) rfl rfl
set_option maxRecDepth 20000 in
theorem x212_531 {z : P0} : X z 212 531 = XI mT z (X z) (.iload 15, 2, 15, 0, 0, [], 0, 0) 212 531 := X_at (r := mi212) rfl rfl
set_option maxRecDepth 20000 in
theorem x212_533 {z : P0} : X z 212 533 = XI mT z (X z) (.iadd, 1, 0, 0, 0, [], 0, 0) 212 533 := X_at (r := mi212) rfl rfl
set_option maxRecDepth 20000 in
theorem x212_534 {z : P0} : X z 212 534 = XI mT z (X z) (.iaload, 1, 0, 0, 0, [], 0, 0) 212 534 := X_at (r := mi212) rfl rfl
set_option maxRecDepth 20000 in
theorem x212_535 {z : P0} : X z 212 535 = XI mT z (X z) (.istore 16, 2, 16, 0, 0, [], 0, 0) 212 535 := X_at (r := mi212) rfl rfl
set_option maxRecDepth 20000 in
theorem x212_537 {z : P0} : X z 212 537 = XI mT z (X z) (.aload_n 3, 1, 3, 0, 0, [], 0, 0) 212 537 := X_at (r := mi212) rfl rfl
set_option maxRecDepth 20000 in
theorem x212_538 {z : P0} : X z 212 538 = XI mT z (X z) (.bipush 8, 2, 0, 0, 0, [], nI 8, 0) 212 538 := X_at (r := mi212) rfl rfl
set_option maxRecDepth 20000 in
theorem x212_540 {z : P0} : X z 212 540 = XI mT z (X z) (.iload 15, 2, 15, 0, 0, [], 0, 0) 212 540 := X_at (r := mi212) rfl rfl
set_option maxRecDepth 20000 in
theorem x212_542 {z : P0} : X z 212 542 = XI mT z (X z) (.iadd, 1, 0, 0, 0, [], 0, 0) 212 542 := X_at (r := mi212) rfl rfl
set_option maxRecDepth 20000 in
theorem x212_543 {z : P0} : X z 212 543 = XI mT z (X z) (.iload 15, 2, 15, 0, 0, [], 0, 0) 212 543 := X_at (r := mi212) rfl rfl
set_option maxRecDepth 20000 in
theorem x212_545 {z : P0} : X z 212 545 = XI mT z (X z) (.ifCond .ne 16, 3, 561, 0, 0, [], 0, 0) 212 545 := X_at (r := mi212) rfl rfl
set_option maxRecDepth 20000 in
theorem x212_548 {z : P0} : X z 212 548 = XI mT z (X z) (.iconst 5, 1, 0, 0, 0, [], nI 5, 0) 212 548 := X_at (r := mi212) rfl rfl
set_option maxRecDepth 20000 in
theorem x212_549 {z : P0} : X z 212 549 = XI mT z (X z) (.iload_n 2, 1, 2, 0, 0, [], 0, 0) 212 549 := X_at (r := mi212) rfl rfl
set_option maxRecDepth 20000 in
theorem x212_550 {z : P0} : X z 212 550 = XI mT z (X z) (.iconst 3, 1, 0, 0, 0, [], nI 3, 0) 212 550 := X_at (r := mi212) rfl rfl
set_option maxRecDepth 20000 in
theorem x212_551 {z : P0} : X z 212 551 = XI mT z (X z) (.ishr, 1, 0, 0, 0, [], 0, 0) 212 551 := X_at (r := mi212) rfl rfl
set_option maxRecDepth 20000 in
theorem x212_552 {z : P0} : X z 212 552 = XI mT z (X z) (.bipush 36, 2, 0, 0, 0, [], nI 36, 0) 212 552 := X_at (r := mi212) rfl rfl
set_option maxRecDepth 20000 in
theorem x212_554 {z : P0} : X z 212 554 = XI mT z (X z) (.invokestatic 34, 3, 2, 193, 0, [96], 0, 0) 212 554 := X_at (r := mi212) rfl rfl
set_option maxRecDepth 20000 in
theorem x212_557 {z : P0} : X z 212 557 = XI mT z (X z) (.iadd, 1, 0, 0, 0, [], 0, 0) 212 557 := X_at (r := mi212) rfl rfl
set_option maxRecDepth 20000 in
theorem x212_558 {z : P0} : X z 212 558 = XI mT z (X z) (.goto 68, 3, 626, 0, 0, [], 0, 0) 212 558 := X_at (r := mi212) rfl rfl
set_option maxRecDepth 20000 in
theorem x212_561 {z : P0} : X z 212 561 = XI mT z (X z) (.iload 15, 2, 15, 0, 0, [], 0, 0) 212 561 := X_at (r := mi212) rfl rfl
set_option maxRecDepth 20000 in
theorem x212_563 {z : P0} : X z 212 563 = XI mT z (X z) (.iconst 2, 1, 0, 0, 0, [], nI 2, 0) 212 563 := X_at (r := mi212) rfl rfl
set_option maxRecDepth 20000 in
theorem x212_564 {z : P0} : X z 212 564 = XI mT z (X z) (.if_icmp .ne 16, 3, 580, 0, 0, [], 0, 0) 212 564 := X_at (r := mi212) rfl rfl
set_option maxRecDepth 20000 in
theorem x212_567 {z : P0} : X z 212 567 = XI mT z (X z) (.iconst 1, 1, 0, 0, 0, [], nI 1, 0) 212 567 := X_at (r := mi212) rfl rfl
set_option maxRecDepth 20000 in
theorem x212_568 {z : P0} : X z 212 568 = XI mT z (X z) (.iload_n 2, 1, 2, 0, 0, [], 0, 0) 212 568 := X_at (r := mi212) rfl rfl
set_option maxRecDepth 20000 in
theorem x212_569 {z : P0} : X z 212 569 = XI mT z (X z) (.iconst 3, 1, 0, 0, 0, [], nI 3, 0) 212 569 := X_at (r := mi212) rfl rfl
set_option maxRecDepth 20000 in
theorem x212_570 {z : P0} : X z 212 570 = XI mT z (X z) (.ishr, 1, 0, 0, 0, [], 0, 0) 212 570 := X_at (r := mi212) rfl rfl
set_option maxRecDepth 20000 in
theorem x212_571 {z : P0} : X z 212 571 = XI mT z (X z) (.bipush 6, 2, 0, 0, 0, [], nI 6, 0) 212 571 := X_at (r := mi212) rfl rfl
set_option maxRecDepth 20000 in
theorem x212_573 {z : P0} : X z 212 573 = XI mT z (X z) (.invokestatic 34, 3, 2, 193, 0, [96], 0, 0) 212 573 := X_at (r := mi212) rfl rfl
set_option maxRecDepth 20000 in
theorem x212_576 {z : P0} : X z 212 576 = XI mT z (X z) (.iadd, 1, 0, 0, 0, [], 0, 0) 212 576 := X_at (r := mi212) rfl rfl
set_option maxRecDepth 20000 in
theorem x212_577 {z : P0} : X z 212 577 = XI mT z (X z) (.goto 49, 3, 626, 0, 0, [], 0, 0) 212 577 := X_at (r := mi212) rfl rfl
set_option maxRecDepth 20000 in
theorem x212_580 {z : P0} : X z 212 580 = XI mT z (X z) (.iload 15, 2, 15, 0, 0, [], 0, 0) 212 580 := X_at (r := mi212) rfl rfl
set_option maxRecDepth 20000 in
theorem x212_582 {z : P0} : X z 212 582 = XI mT z (X z) (.iconst 3, 1, 0, 0, 0, [], nI 3, 0) 212 582 := X_at (r := mi212) rfl rfl
set_option maxRecDepth 20000 in
theorem x212_583 {z : P0} : X z 212 583 = XI mT z (X z) (.if_icmp .ne 14, 3, 597, 0, 0, [], 0, 0) 212 583 := X_at (r := mi212) rfl rfl
set_option maxRecDepth 20000 in
theorem x212_586 {z : P0} : X z 212 586 = XI mT z (X z) (.iload_n 2, 1, 2, 0, 0, [], 0, 0) 212 586 := X_at (r := mi212) rfl rfl
set_option maxRecDepth 20000 in
theorem x212_587 {z : P0} : X z 212 587 = XI mT z (X z) (.iconst 3, 1, 0, 0, 0, [], nI 3, 0) 212 587 := X_at (r := mi212) rfl rfl
set_option maxRecDepth 20000 in
theorem x212_588 {z : P0} : X z 212 588 = XI mT z (X z) (.ishr, 1, 0, 0, 0, [], 0, 0) 212 588 := X_at (r := mi212) rfl rfl
set_option maxRecDepth 20000 in
theorem x212_589 {z : P0} : X z 212 589 = XI mT z (X z) (.bipush 12, 2, 0, 0, 0, [], nI 12, 0) 212 589 := X_at (r := mi212) rfl rfl
set_option maxRecDepth 20000 in
theorem x212_591 {z : P0} : X z 212 591 = XI mT z (X z) (.invokestatic 34, 3, 2, 193, 0, [96], 0, 0) 212 591 := X_at (r := mi212) rfl rfl
set_option maxRecDepth 20000 in
theorem x212_594 {z : P0} : X z 212 594 = XI mT z (X z) (.goto 32, 3, 626, 0, 0, [], 0, 0) 212 594 := X_at (r := mi212) rfl rfl
set_option maxRecDepth 20000 in
theorem x212_597 {z : P0} : X z 212 597 = XI mT z (X z) (.iload 15, 2, 15, 0, 0, [], 0, 0) 212 597 := X_at (r := mi212) rfl rfl
set_option maxRecDepth 20000 in
theorem x212_599 {z : P0} : X z 212 599 = XI mT z (X z) (.iconst 4, 1, 0, 0, 0, [], nI 4, 0) 212 599 := X_at (r := mi212) rfl rfl
set_option maxRecDepth 20000 in
theorem x212_600 {z : P0} : X z 212 600 = XI mT z (X z) (.if_icmp .ne 16, 3, 616, 0, 0, [], 0, 0) 212 600 := X_at (r := mi212) rfl rfl
set_option maxRecDepth 20000 in
theorem x212_603 {z : P0} : X z 212 603 = XI mT z (X z) (.iconst 1, 1, 0, 0, 0, [], nI 1, 0) 212 603 := X_at (r := mi212) rfl rfl
set_option maxRecDepth 20000 in
theorem x212_604 {z : P0} : X z 212 604 = XI mT z (X z) (.iload_n 2, 1, 2, 0, 0, [], 0, 0) 212 604 := X_at (r := mi212) rfl rfl
set_option maxRecDepth 20000 in
theorem x212_605 {z : P0} : X z 212 605 = XI mT z (X z) (.iconst 3, 1, 0, 0, 0, [], nI 3, 0) 212 605 := X_at (r := mi212) rfl rfl
set_option maxRecDepth 20000 in
theorem x212_606 {z : P0} : X z 212 606 = XI mT z (X z) (.ishr, 1, 0, 0, 0, [], 0, 0) 212 606 := X_at (r := mi212) rfl rfl
set_option maxRecDepth 20000 in
theorem x212_607 {z : P0} : X z 212 607 = XI mT z (X z) (.bipush 9, 2, 0, 0, 0, [], nI 9, 0) 212 607 := X_at (r := mi212) rfl rfl
set_option maxRecDepth 20000 in
theorem x212_609 {z : P0} : X z 212 609 = XI mT z (X z) (.invokestatic 34, 3, 2, 193, 0, [96], 0, 0) 212 609 := X_at (r := mi212) rfl rfl
set_option maxRecDepth 20000 in
theorem x212_612 {z : P0} : X z 212 612 = XI mT z (X z) (.iadd, 1, 0, 0, 0, [], 0, 0) 212 612 := X_at (r := mi212) rfl rfl
set_option maxRecDepth 20000 in
theorem x212_613 {z : P0} : X z 212 613 = XI mT z (X z) (.goto 13, 3, 626, 0, 0, [], 0, 0) 212 613 := X_at (r := mi212) rfl rfl
set_option maxRecDepth 20000 in
theorem x212_616 {z : P0} : X z 212 616 = XI mT z (X z) (.iconst 1, 1, 0, 0, 0, [], nI 1, 0) 212 616 := X_at (r := mi212) rfl rfl
set_option maxRecDepth 20000 in
theorem x212_617 {z : P0} : X z 212 617 = XI mT z (X z) (.iload_n 2, 1, 2, 0, 0, [], 0, 0) 212 617 := X_at (r := mi212) rfl rfl
set_option maxRecDepth 20000 in
theorem x212_618 {z : P0} : X z 212 618 = XI mT z (X z) (.iconst 3, 1, 0, 0, 0, [], nI 3, 0) 212 618 := X_at (r := mi212) rfl rfl
set_option maxRecDepth 20000 in
theorem x212_619 {z : P0} : X z 212 619 = XI mT z (X z) (.ishr, 1, 0, 0, 0, [], 0, 0) 212 619 := X_at (r := mi212) rfl rfl
set_option maxRecDepth 20000 in
theorem x212_620 {z : P0} : X z 212 620 = XI mT z (X z) (.bipush 20, 2, 0, 0, 0, [], nI 20, 0) 212 620 := X_at (r := mi212) rfl rfl
set_option maxRecDepth 20000 in
theorem x212_622 {z : P0} : X z 212 622 = XI mT z (X z) (.invokestatic 34, 3, 2, 193, 0, [96], 0, 0) 212 622 := X_at (r := mi212) rfl rfl
set_option maxRecDepth 20000 in
theorem x212_625 {z : P0} : X z 212 625 = XI mT z (X z) (.iadd, 1, 0, 0, 0, [], 0, 0) 212 625 := X_at (r := mi212) rfl rfl
set_option maxRecDepth 20000 in
theorem x212_626 {z : P0} : X z 212 626 = XI mT z (X z) (.iastore, 1, 0, 0, 0, [], 0, 0) 212 626 := X_at (r := mi212) rfl rfl
set_option maxRecDepth 20000 in
theorem x212_627 {z : P0} : X z 212 627 = XI mT z (X z) (.aload_n 0, 1, 0, 0, 0, [], 0, 0) 212 627 := X_at (r := mi212) rfl rfl
set_option maxRecDepth 20000 in
theorem x212_628 {z : P0} : X z 212 628 = XI mT z (X z) (.iload 15, 2, 15, 0, 0, [], 0, 0) 212 628 := X_at (r := mi212) rfl rfl
set_option maxRecDepth 20000 in
theorem x212_630 {z : P0} : X z 212 630 = XI mT z (X z) (.aload_n 3, 1, 3, 0, 0, [], 0, 0) 212 630 := X_at (r := mi212) rfl rfl
set_option maxRecDepth 20000 in
theorem x212_631 {z : P0} : X z 212 631 = XI mT z (X z) (.bipush 8, 2, 0, 0, 0, [], nI 8, 0) 212 631 := X_at (r := mi212) rfl rfl
set_option maxRecDepth 20000 in
theorem x212_633 {z : P0} : X z 212 633 = XI mT z (X z) (.iload 15, 2, 15, 0, 0, [], 0, 0) 212 633 := X_at (r := mi212) rfl rfl
set_option maxRecDepth 20000 in
theorem x212_635 {z : P0} : X z 212 635 = XI mT z (X z) (.iadd, 1, 0, 0, 0, [], 0, 0) 212 635 := X_at (r := mi212) rfl rfl
set_option maxRecDepth 20000 in
theorem x212_636 {z : P0} : X z 212 636 = XI mT z (X z) (.iaload, 1, 0, 0, 0, [], 0, 0) 212 636 := X_at (r := mi212) rfl rfl
set_option maxRecDepth 20000 in
theorem x212_637 {z : P0} : X z 212 637 = XI mT z (X z) (.invokevirtual 109, 3, 2, 64, 0, [117], 0, 0) 212 637 := X_at (r := mi212) rfl rfl
set_option maxRecDepth 20000 in
theorem x212_640 {z : P0} : X z 212 640 = XI mT z (X z) (.iload 16, 2, 16, 0, 0, [], 0, 0) 212 640 := X_at (r := mi212) rfl rfl
set_option maxRecDepth 20000 in
theorem x212_642 {z : P0} : X z 212 642 = XI mT z (X z) (.if_icmp .ne 7, 3, 649, 0, 0, [], 0, 0) 212 642 := X_at (r := mi212) rfl rfl
set_option maxRecDepth 20000 in
theorem x212_645 {z : P0} : X z 212 645 = XI mT z (X z) (.iconst 1, 1, 0, 0, 0, [], nI 1, 0) 212 645 := X_at (r := mi212) rfl rfl
set_option maxRecDepth 20000 in
theorem x212_646 {z : P0} : X z 212 646 = XI mT z (X z) (.goto 4, 3, 650, 0, 0, [], 0, 0) 212 646 := X_at (r := mi212) rfl rfl
set_option maxRecDepth 20000 in
theorem x212_649 {z : P0} : X z 212 649 = XI mT z (X z) (.iconst 0, 1, 0, 0, 0, [], nI 0, 0) 212 649 := X_at (r := mi212) rfl rfl
set_option maxRecDepth 20000 in
theorem x212_650 {z : P0} : X z 212 650 = XI mT z (X z) (.ireturn, 1, 0, 0, 0, [], 0, 0) 212 650 := X_at (r := mi212) rfl rfl
set_option maxRecDepth 20000 in
theorem x213_0 {z : P0} : X z 213 0 = XI mT z (X z) (.bipush 10, 2, 0, 0, 0, [], nI 10, 0) 213 0 := X_at (r := mi213) rfl rfl
set_option maxRecDepth 20000 in
theorem x213_2 {z : P0} : X z 213 2 = XI mT z (X z) (.newarray .int, 2, 20, 0, 0, [], 0, 0) 213 2 := X_at (r := mi213) rfl rfl
set_option maxRecDepth 20000 in
theorem x213_4 {z : P0} : X z 213 4 = XI mT z (X z) (.astore 13, 2, 13, 0, 0, [], 0, 0) 213 4 := X_at (r := mi213) rfl rfl
set_option maxRecDepth 20000 in
theorem x213_6 {z : P0} : X z 213 6 = XI mT z (X z) (.aload_n 2, 1, 2, 0, 0, [], 0, 0) 213 6 := X_at (r := mi213) rfl rfl
set_option maxRecDepth 20000 in
theorem x213_7 {z : P0} : X z 213 7 = XI mT z (X z) (.aload_n 3, 1, 3, 0, 0, [], 0, 0) 213 7 := X_at (r := mi213) rfl rfl
set_option maxRecDepth 20000 in
theorem x213_8 {z : P0} : X z 213 8 = XI mT z (X z) (.aload 5, 2, 5, 0, 0, [], 0, 0) 213 8 := X_at (r := mi213) rfl rfl
set_option maxRecDepth 20000 in
theorem x213_10 {z : P0} : X z 213 10 = XI mT z (X z) (.aload 6, 2, 6, 0, 0, [], 0, 0) 213 10 := X_at (r := mi213) rfl rfl
set_option maxRecDepth 20000 in
theorem x213_12 {z : P0} : X z 213 12 = XI mT z (X z) (.aload 7, 2, 7, 0, 0, [], 0, 0) 213 12 := X_at (r := mi213) rfl rfl
set_option maxRecDepth 20000 in
theorem x213_14 {z : P0} : X z 213 14 = XI mT z (X z) (.aload 11, 2, 11, 0, 0, [], 0, 0) 213 14 := X_at (r := mi213) rfl rfl
set_option maxRecDepth 20000 in
theorem x213_16 {z : P0} : X z 213 16 = XI mT z (X z) (.aload 12, 2, 12, 0, 0, [], 0, 0) 213 16 := X_at (r := mi213) rfl rfl
set_option maxRecDepth 20000 in
theorem x213_18 {z : P0} : X z 213 18 = XI mT z (X z) (.invokestatic 112, 3, 7, 207, 0, [118], 0, 0) 213 18 := X_at (r := mi213) rfl rfl
set_option maxRecDepth 20000 in
theorem x213_21 {z : P0} : X z 213 21 = XI mT z (X z) (.iconst 0, 1, 0, 0, 0, [], nI 0, 0) 213 21 := X_at (r := mi213) rfl rfl
set_option maxRecDepth 20000 in
theorem x213_22 {z : P0} : X z 213 22 = XI mT z (X z) (.istore 14, 2, 14, 0, 0, [], 0, 0) 213 22 := X_at (r := mi213) rfl rfl
set_option maxRecDepth 20000 in
theorem x213_24 {z : P0} : X z 213 24 = XI mT z (X z) (.iconst 0, 1, 0, 0, 0, [], nI 0, 0) 213 24 := X_at (r := mi213) rfl rfl
set_option maxRecDepth 20000 in
theorem x213_25 {z : P0} : X z 213 25 = XI mT z (X z) (.istore 15, 2, 15, 0, 0, [], 0, 0) 213 25 := X_at (r := mi213) rfl rfl
set_option maxRecDepth 20000 in
theorem x213_27 {z : P0} : X z 213 27 = XI mT z (X z) (.iconst 0, 1, 0, 0, 0, [], nI 0, 0) 213 27 := X_at (r := mi213) rfl rfl
set_option maxRecDepth 20000 in
theorem x213_28 {z : P0} : X z 213 28 = XI mT z (X z) (.istore 16, 2, 16, 0, 0, [], 0, 0) 213 28 := X_at (r := mi213) rfl rfl
set_option maxRecDepth 20000 in
theorem x213_30 {z : P0} : X z 213 30 = XI mT z (X z) (.iconst 0, 1, 0, 0, 0, [], nI 0, 0) 213 30 := X_at (r := mi213) rfl rfl
set_option maxRecDepth 20000 in
theorem x213_31 {z : P0} : X z 213 31 = XI mT z (X z) (.istore 17, 2, 17, 0, 0, [], 0, 0) 213 31 := X_at (r := mi213) rfl rfl
set_option maxRecDepth 20000 in
theorem x213_33 {z : P0} : X z 213 33 = XI mT z (X z) (.iconst 0, 1, 0, 0, 0, [], nI 0, 0) 213 33 := X_at (r := mi213) rfl rfl
set_option maxRecDepth 20000 in
theorem x213_34 {z : P0} : X z 213 34 = XI mT z (X z) (.istore 18, 2, 18, 0, 0, [], 0, 0) 213 34 := X_at (r := mi213) rfl rfl
set_option maxRecDepth 20000 in
theorem x213_36 {z : P0} : X z 213 36 = XI mT z (X z) (.iload 18, 2, 18, 0, 0, [], 0, 0) 213 36 := X_at (r := mi213) rfl rfl
set_option maxRecDepth 20000 in
theorem x213_38 {z : P0} : X z 213 38 = XI mT z (X z) (.aload_n 2, 1, 2, 0, 0, [], 0, 0) 213 38 := X_at (r := mi213) rfl rfl
set_option maxRecDepth 20000 in
theorem x213_39 {z : P0} : X z 213 39 = XI mT z (X z) (.bipush 14, 2, 0, 0, 0, [], nI 14, 0) 213 39 := X_at (r := mi213) rfl rfl
set_option maxRecDepth 20000 in
theorem x213_41 {z : P0} : X z 213 41 = XI mT z (X z) (.iaload, 1, 0, 0, 0, [], 0, 0) 213 41 := X_at (r := mi213) rfl rfl
set_option maxRecDepth 20000 in
theorem x213_42 {z : P0} : X z 213 42 = XI mT z (X z) (.if_icmp .ge 375, 3, 417, 0, 0, [], 0, 0) 213 42 := X_at (r := mi213) rfl rfl
set_option maxRecDepth 20000 in
theorem x213_45 {z : P0} : X z 213 45 = XI mT z (X z) (.aload 13, 2, 13, 0, 0, [], 0, 0) 213 45 := X_at (r := mi213) rfl rfl
set_option maxRecDepth 20000 in
theorem x213_47 {z : P0} : X z 213 47 = XI mT z (X z) (.aload_n 2, 1, 2, 0, 0, [], 0, 0) 213 47 := X_at (r := mi213) rfl rfl
set_option maxRecDepth 20000 in
theorem x213_48 {z : P0} : X z 213 48 = XI mT z (X z) (.aload 12, 2, 12, 0, 0, [], 0, 0) 213 48 := X_at (r := mi213) rfl rfl
set_option maxRecDepth 20000 in
theorem x213_50 {z : P0} : X z 213 50 = XI mT z (X z) (.iload 18, 2, 18, 0, 0, [], 0, 0) 213 50 := X_at (r := mi213) rfl rfl
set_option maxRecDepth 20000 in
theorem x213_52 {z : P0} : X z 213 52 = XI mT z (X z) (.iaload, 1, 0, 0, 0, [], 0, 0) 213 52 := X_at (r := mi213) rfl rfl
set_option maxRecDepth 20000 in
theorem x213_53 {z : P0} : X z 213 53 = XI mT z (X z) (.aload 11, 2, 11, 0, 0, [], 0, 0) 213 53 := X_at (r := mi213) rfl rfl
set_option maxRecDepth 20000 in
theorem x213_55 {z : P0} : X z 213 55 = XI mT z (X z) (.aload 5, 2, 5, 0, 0, [], 0, 0) 213 55 := X_at (r := mi213) rfl rfl
set_option maxRecDepth 20000 in
theorem x213_57 {z : P0} : X z 213 57 = XI mT z (X z) (.aload 4, 2, 4, 0, 0, [], 0, 0) 213 57 := X_at (r := mi213) rfl rfl
set_option maxRecDepth 20000 in
theorem x213_59 {z : P0} : X z 213 59 = XI mT z (X z) (.aload 9, 2, 9, 0, 0, [], 0, 0) 213 59 := X_at (r := mi213) rfl rfl
set_option maxRecDepth 20000 in
theorem x213_61 {z : P0} : X z 213 61 = XI mT z (X z) (.aload 10, 2, 10, 0, 0, [], 0, 0) 213 61 := X_at (r := mi213) rfl rfl
set_option maxRecDepth 20000 in
theorem x213_63 {z : P0} : X z 213 63 = XI mT z (X z) (.invokestatic 116, 3, 8, 211, 0, [119], 0, 0) 213 63 := X_at (r := mi213) rfl rfl
set_option maxRecDepth 20000 in
theorem x213_66 {z : P0} : X z 213 66 = XI mT z (X z) (.aload 13, 2, 13, 0, 0, [], 0, 0) 213 66 := X_at (r := mi213) rfl rfl
set_option maxRecDepth 20000 in
theorem x213_68 {z : P0} : X z 213 68 = XI mT z (X z) (.bipush 6, 2, 0, 0, 0, [], nI 6, 0) 213 68 := X_at (r := mi213) rfl rfl
set_option maxRecDepth 20000 in
theorem x213_70 {z : P0} : X z 213 70 = XI mT z (X z) (.iaload, 1, 0, 0, 0, [], 0, 0) 213 70 := X_at (r := mi213) rfl rfl
set_option maxRecDepth 20000 in
theorem x213_71 {z : P0} : X z 213 71 = XI mT z (X z) (.aload_n 2, 1, 2, 0, 0, [], 0, 0) 213 71 := X_at (r := mi213) rfl rfl
set_option maxRecDepth 20000 in
theorem x213_72 {z : P0} : X z 213 72 = XI mT z (X z) (.bipush 12, 2, 0, 0, 0, [], nI 12, 0) 213 72 := X_at (r := mi213) rfl rfl
set_option maxRecDepth 20000 in
theorem x213_74 {z : P0} : X z 213 74 = XI mT z (X z) (.iaload, 1, 0, 0, 0, [], 0, 0) 213 74 := X_at (r := mi213) rfl rfl
set_option maxRecDepth 20000 in
theorem x213_75 {z : P0} : X z 213 75 = XI mT z (X z) (.if_icmp .gt 7, 3, 82, 0, 0, [], 0, 0) 213 75 := X_at (r := mi213) rfl rfl
set_option maxRecDepth 20000 in
theorem x213_78 {z : P0} : X z 213 78 = XI mT z (X z) (.iconst 1, 1, 0, 0, 0, [], nI 1, 0) 213 78 := X_at (r := mi213) rfl rfl
set_option maxRecDepth 20000 in
theorem x213_79 {z : P0} : X z 213 79 = XI mT z (X z) (.goto 4, 3, 83, 0, 0, [], 0, 0) 213 79 := X_at (r := mi213) rfl rfl
set_option maxRecDepth 20000 in
theorem x213_82 {z : P0} : X z 213 82 = XI mT z (X z) (.iconst 0, 1, 0, 0, 0, [], nI 0, 0) 213 82 := X_at (r := mi213) rfl rfl
set_option maxRecDepth 20000 in
theorem x213_83 {z : P0} : X z 213 83 = XI mT z (X z) (.istore 19, 2, 19, 0, 0, [], 0, 0) 213 83 := X_at (r := mi213) rfl rfl
set_option maxRecDepth 20000 in
theorem x213_85 {z : P0} : X z 213 85 = XI mT z (X z) (.iconst 0, 1, 0, 0, 0, [], nI 0, 0) 213 85 := X_at (r := mi213) rfl rfl
set_option maxRecDepth 20000 in
theorem x213_86 {z : P0} : X z 213 86 = XI mT z (X z) (.istore 20, 2, 20, 0, 0, [], 0, 0) 213 86 := X_at (r := mi213) rfl rfl
set_option maxRecDepth 20000 in
theorem x213_88 {z : P0} : X z 213 88 = XI mT z (X z) (.iload 18, 2, 18, 0, 0, [], 0, 0) 213 88 := X_at (r := mi213) rfl rfl
set_option maxRecDepth 20000 in
theorem x213_90 {z : P0} : X z 213 90 = XI mT z (X z) (.aload_n 2, 1, 2, 0, 0, [], 0, 0) 213 90 := X_at (r := mi213) rfl rfl
set_option maxRecDepth 20000 in
theorem x213_91 {z : P0} : X z 213 91 = XI mT z (X z) (.iconst 3, 1, 0, 0, 0, [], nI 3, 0) 213 91 := X_at (r := mi213) rfl rfl
set_option maxRecDepth 20000 in
theorem x213_92 {z : P0} : X z 213 92 = XI mT z (X z) (.iaload, 1, 0, 0, 0, [], 0, 0) 213 92 := X_at (r := mi213) rfl rfl
set_option maxRecDepth 20000 in
theorem x213_93 {z : P0} : X z 213 93 = XI mT z (X z) (.aload_n 2, 1, 2, 0, 0, [], 0, 0) 213 93 := X_at (r := mi213) rfl rfl
set_option maxRecDepth 20000 in
theorem x213_94 {z : P0} : X z 213 94 = XI mT z (X z) (.iconst 0, 1, 0, 0, 0, [], nI 0, 0) 213 94 := X_at (r := mi213) rfl rfl
set_option maxRecDepth 20000 in
theorem x213_95 {z : P0} : X z 213 95 = XI mT z (X z) (.iaload, 1, 0, 0, 0, [], 0, 0) 213 95 := X_at (r := mi213) rfl rfl
set_option maxRecDepth 20000 in
theorem x213_96 {z : P0} : X z 213 96 = XI mT z (X z) (.iadd, 1, 0, 0, 0, [], 0, 0) 213 96 := X_at (r := mi213) rfl rfl
set_option maxRecDepth 20000 in
theorem x213_97 {z : P0} : X z 213 97 = XI mT z (X z) (.aload_n 2, 1, 2, 0, 0, [], 0, 0) 213 97 := X_at (r := mi213) rfl rfl
set_option maxRecDepth 20000 in
theorem x213_98 {z : P0} : X z 213 98 = XI mT z (X z) (.iconst 2, 1, 0, 0, 0, [], nI 2, 0) 213 98 := X_at (r := mi213) rfl rfl
set_option maxRecDepth 20000 in
theorem x213_99 {z : P0} : X z 213 99 = XI mT z (X z) (.iaload, 1, 0, 0, 0, [], 0, 0) 213 99 := X_at (r := mi213) rfl rfl
set_option maxRecDepth 20000 in
theorem x213_100 {z : P0} : X z 213 100 = XI mT z (X z) (.iadd, 1, 0, 0, 0, [], 0, 0) 213 100 := X_at (r := mi213) rfl rfl
set_option maxRecDepth 20000 in
theorem x213_101 {z : P0} : X z 213 101 = XI mT z (X z) (.aload_n 2, 1, 2, 0, 0, [], 0, 0) 213 101 := X_at (r := mi213) rfl rfl
set_option maxRecDepth 20000 in
theorem x213_102 {z : P0} : X z 213 102 = XI mT z (X z) (.bipush 14, 2, 0, 0, 0, [], nI 14, 0) 213 102 := X_at (r := mi213) rfl rfl
set_option maxRecDepth 20000 in
theorem x213_104 {z : P0} : X z 213 104 = XI mT z (X z) (.iaload, 1, 0, 0, 0, [], 0, 0) 213 104 := X_at (r := mi213) rfl rfl
set_option maxRecDepth 20000 in
theorem x213_105 {z : P0} : X z 213 105 = XI mT z (X z) (.irem, 1, 0, 0, 0, [], 0, 0) 213 105 := X_at (r := mi213) rfl rfl
set_option maxRecDepth 20000 in
theorem x213_106 {z : P0} : X z 213 106 = XI mT z (X z) (.if_icmp .ne 7, 3, 113, 0, 0, [], 0, 0) 213 106 := X_at (r := mi213) rfl rfl
set_option maxRecDepth 20000 in
theorem x213_109 {z : P0} : X z 213 109 = XI mT z (X z) (.iconst 1, 1, 0, 0, 0, [], nI 1, 0) 213 109 := X_at (r := mi213) rfl rfl
set_option maxRecDepth 20000 in
theorem x213_110 {z : P0} : X z 213 110 = XI mT z (X z) (.goto 4, 3, 114, 0, 0, [], 0, 0) 213 110 := X_at (r := mi213) rfl rfl
set_option maxRecDepth 20000 in
theorem x213_113 {z : P0} : X z 213 113 = XI mT z (X z) (.iconst 0, 1, 0, 0, 0, [], nI 0, 0) 213 113 := X_at (r := mi213) rfl rfl
set_option maxRecDepth 20000 in
theorem x213_114 {z : P0} : X z 213 114 = XI mT z (X z) (.istore 21, 2, 21, 0, 0, [], 0, 0) 213 114 := X_at (r := mi213) rfl rfl
set_option maxRecDepth 20000 in
theorem x213_116 {z : P0} : X z 213 116 = XI mT z (X z) (.iconst 0, 1, 0, 0, 0, [], nI 0, 0) 213 116 := X_at (r := mi213) rfl rfl
set_option maxRecDepth 20000 in
theorem x213_117 {z : P0} : X z 213 117 = XI mT z (X z) (.istore 22, 2, 22, 0, 0, [], 0, 0) 213 117 := X_at (r := mi213) rfl rfl
set_option maxRecDepth 20000 in
theorem x213_119 {z : P0} : X z 213 119 = XI mT z (X z) (.iload 22, 2, 22, 0, 0, [], 0, 0) 213 119 := X_at (r := mi213) rfl rfl
set_option maxRecDepth 20000 in
theorem x213_121 {z : P0} : X z 213 121 = XI mT z (X z) (.aload 13, 2, 13, 0, 0, [], 0, 0) 213 121 := X_at (r := mi213) rfl rfl
set_option maxRecDepth 20000 in
theorem x213_123 {z : P0} : X z 213 123 = XI mT z (X z) (.iconst 0, 1, 0, 0, 0, [], nI 0, 0) 213 123 := X_at (r := mi213) rfl rfl
set_option maxRecDepth 20000 in
theorem x213_124 {z : P0} : X z 213 124 = XI mT z (X z) (.iaload, 1, 0, 0, 0, [], 0, 0) 213 124 := X_at (r := mi213) rfl rfl
set_option maxRecDepth 20000 in
theorem x213_125 {z : P0} : X z 213 125 = XI mT z (X z) (.if_icmp .ge 30, 3, 155, 0, 0, [], 0, 0) 213 125 := X_at (r := mi213) rfl rfl
set_option maxRecDepth 20000 in
theorem x213_128 {z : P0} : X z 213 128 = XI mT z (X z) (.iload 21, 2, 21, 0, 0, [], 0, 0) 213 128 := X_at (r := mi213) rfl rfl
set_option maxRecDepth 20000 in
theorem x213_130 {z : P0} : X z 213 130 = XI mT z (X z) (.ifCond .eq 25, 3, 155, 0, 0, [], 0, 0) 213 130 := X_at (r := mi213) rfl rfl
set_option maxRecDepth 20000 in
theorem x213_133 {z : P0} : X z 213 133 = XI mT z (X z) (.bipush 31, 2, 0, 0, 0, [], nI 31, 0) 213 133 := X_at (r := mi213) rfl rfl
set_option maxRecDepth 20000 in
theorem x213_135 {z : P0} : X z 213 135 = XI mT z (X z) (.iload 20, 2, 20, 0, 0, [], 0, 0) 213 135 := X_at (r := mi213) rfl rfl
set_option maxRecDepth 20000 in
theorem x213_137 {z : P0} : X z 213 137 = XI mT z (X z) (.imul, 1, 0, 0, 0, [], 0, 0) 213 137 := X_at (r := mi213) rfl rfl
set_option maxRecDepth 20000 in
theorem x213_138 {z : P0} : X z 213 138 = XI mT z (X z) (.aload_n 0, 1, 0, 0, 0, [], 0, 0) 213 138 := X_at (r := mi213) rfl rfl
set_option maxRecDepth 20000 in
theorem x213_139 {z : P0} : X z 213 139 = XI mT z (X z) (.iload 18, 2, 18, 0, 0, [], 0, 0) 213 139 := X_at (r := mi213) rfl rfl
set_option maxRecDepth 20000 in
theorem x213_141 {z : P0} : X z 213 141 = XI mT z (X z) (.iload 22, 2, 22, 0, 0, [], 0, 0) 213 141 := X_at (r := mi213) rfl rfl
set_option maxRecDepth 20000 in
theorem x213_143 {z : P0} : X z 213 143 = XI mT z (X z) (.invokevirtual 120, 3, 2, 75, 0, [120], 0, 0) 213 143 := X_at (r := mi213) rfl rfl
set_option maxRecDepth 20000 in
theorem x213_146 {z : P0} : X z 213 146 = XI mT z (X z) (.iadd, 1, 0, 0, 0, [], 0, 0) 213 146 := X_at (r := mi213) rfl rfl
set_option maxRecDepth 20000 in
theorem x213_147 {z : P0} : X z 213 147 = XI mT z (X z) (.istore 20, 2, 20, 0, 0, [], 0, 0) 213 147 := X_at (r := mi213) rfl rfl
set_option maxRecDepth 20000 in
theorem x213_149 {z : P0} : X z 213 149 = XI mT z (X z) (.iinc 22 1, 3, 22, 0, 0, [], nI 1, 0) 213 149 := X_at (r := mi213) rfl rfl
set_option maxRecDepth 20000 in
theorem x213_152 {z : P0} : X z 213 152 = XI mT z (X z) (.goto (-33), 3, 119, 0, 0, [], 0, 0) 213 152 := X_at (r := mi213) rfl rfl
set_option maxRecDepth 20000 in
theorem x213_155 {z : P0} : X z 213 155 = XI mT z (X z) (.iload 21, 2, 21, 0, 0, [], 0, 0) 213 155 := X_at (r := mi213) rfl rfl
set_option maxRecDepth 20000 in
theorem x213_157 {z : P0} : X z 213 157 = XI mT z (X z) (.ifCond .eq 13, 3, 170, 0, 0, [], 0, 0) 213 157 := X_at (r := mi213) rfl rfl
set_option maxRecDepth 20000 in
theorem x213_160 {z : P0} : X z 213 160 = XI mT z (X z) (.iload 20, 2, 20, 0, 0, [], 0, 0) 213 160 := X_at (r := mi213) rfl rfl
set_option maxRecDepth 20000 in
theorem x213_162 {z : P0} : X z 213 162 = XI mT z (X z) (.aload 13, 2, 13, 0, 0, [], 0, 0) 213 162 := X_at (r := mi213) rfl rfl
set_option maxRecDepth 20000 in
theorem x213_164 {z : P0} : X z 213 164 = XI mT z (X z) (.bipush 9, 2, 0, 0, 0, [], nI 9, 0) 213 164 := X_at (r := mi213) rfl rfl
set_option maxRecDepth 20000 in
theorem x213_166 {z : P0} : X z 213 166 = XI mT z (X z) (.iaload, 1, 0, 0, 0, [], 0, 0) 213 166 := X_at (r := mi213) rfl rfl
set_option maxRecDepth 20000 in
theorem x213_167 {z : P0} : X z 213 167 = XI mT z (X z) (.if_icmp .ne 120, 3, 287, 0, 0, [], 0, 0) 213 167 := X_at (r := mi213) rfl rfl
set_option maxRecDepth 20000 in
theorem x213_170 {z : P0} : X z 213 170 = XI mT z (X z) (.aload_n 0, 1, 0, 0, 0, [], 0, 0) 213 170 := X_at (r := mi213) rfl rfl
set_option maxRecDepth 20000 in
theorem x213_171 {z : P0} : X z 213 171 = XI mT z (X z) (.iload 18, 2, 18, 0, 0, [], 0, 0) 213 171 := X_at (r := mi213) rfl rfl
set_option maxRecDepth 20000 in
theorem x213_173 {z : P0} : X z 213 173 = XI mT z (X z) (.invokevirtual 123, 3, 1, 76, 0, [121], 0, 0) 213 173 := X_at (r := mi213) rfl rfl
set_option maxRecDepth 20000 in
theorem x213_176 {z : P0} : X z 213 176 = XI mT z (X z) (.aload 12, 2, 12, 0, 0, [], 0, 0) 213 176 := X_at (r := mi213) rfl rfl
set_option maxRecDepth 20000 in
theorem x213_178 {z : P0} : X z 213 178 = XI mT z (X z) (.iload 18, 2, 18, 0, 0, [], 0, 0) 213 178 := X_at (r := mi213) rfl rfl
set_option maxRecDepth 20000 in
theorem x213_180 {z : P0} : X z 213 180 = XI mT z (X z) (.iaload, 1, 0, 0, 0, [], 0, 0) 213 180 := X_at (r := mi213) rfl rfl
set_option maxRecDepth 20000 in
theorem x213_181 {z : P0} : X z 213 181 = XI mT z (X z) (.if_icmp .ne 106, 3, 287, 0, 0, [], 0, 0) 213 181 := X_at (r := mi213) rfl rfl
set_option maxRecDepth 20000 in
theorem x213_184 {z : P0} : X z 213 184 = XI mT z (X z) (.aload_n 0, 1, 0, 0, 0, [], 0, 0) 213 184 := X_at (r := mi213) rfl rfl
set_option maxRecDepth 20000 in
theorem x213_185 {z : P0} : X z 213 185 = XI mT z (X z) (.iload 18, 2, 18, 0, 0, [], 0, 0) 213 185 := X_at (r := mi213) rfl rfl
set_option maxRecDepth 20000 in
theorem x213_187 {z : P0} : X z 213 187 = XI mT z (X z) (.iconst 1, 1, 0, 0, 0, [], nI 1, 0) 213 187 := X_at (r := mi213) rfl rfl
set_option maxRecDepth 20000 in
theorem x213_188 {z : P0} : X z 213 188 = XI mT z (X z) (.invokevirtual 126, 3, 2, 74, 0, [122], 0, 0) 213 188 := X_at (r := mi213) rfl rfl
set_option maxRecDepth 20000 in
theorem x213_191 {z : P0} : X z 213 191 = XI mT z (X z) (.aload 12, 2, 12, 0, 0, [], 0, 0) 213 191 := X_at (r := mi213) rfl rfl
set_option maxRecDepth 20000 in
theorem x213_193 {z : P0} : X z 213 193 = XI mT z (X z) (.iload 18, 2, 18, 0, 0, [], 0, 0) 213 193 := X_at (r := mi213) rfl rfl
set_option maxRecDepth 20000 in
theorem x213_195 {z : P0} : X z 213 195 = XI mT z (X z) (.iaload, 1, 0, 0, 0, [], 0, 0) 213 195 := X_at (r := mi213) rfl rfl
set_option maxRecDepth 20000 in
theorem x213_196 {z : P0} : X z 213 196 = XI mT z (X z) (.invokestatic 56, 3, 1, 206, 0, [102], 0, 0) 213 196 := X_at (r := mi213) rfl rfl
set_option maxRecDepth 20000 in
theorem x213_199 {z : P0} : X z 213 199 = XI mT z (X z) (.if_icmp .ne 88, 3, 287, 0, 0, [], 0, 0) 213 199 := X_at (r := mi213) rfl rfl
set_option maxRecDepth 20000 in
theorem x213_202 {z : P0} : X z 213 202 = XI mT z (X z) (.aload_n 0, 1, 0, 0, 0, [], 0, 0) 213 202 := X_at (r := mi213) rfl rfl
set_option maxRecDepth 20000 in
theorem x213_203 {z : P0} : X z 213 203 = XI mT z (X z) (.iload 18, 2, 18, 0, 0, [], 0, 0) 213 203 := X_at (r := mi213) rfl rfl
set_option maxRecDepth 20000 in
theorem x213_205 {z : P0} : X z 213 205 = XI mT z (X z) (.iconst 3, 1, 0, 0, 0, [], nI 3, 0) 213 205 := X_at (r := mi213) rfl rfl
set_option maxRecDepth 20000 in
theorem x213_206 {z : P0} : X z 213 206 = XI mT z (X z) (.invokevirtual 126, 3, 2, 74, 0, [122], 0, 0) 213 206 := X_at (r := mi213) rfl rfl
set_option maxRecDepth 20000 in
theorem x213_209 {z : P0} : X z 213 209 = XI mT z (X z) (.aload 13, 2, 13, 0, 0, [], 0, 0) 213 209 := X_at (r := mi213) rfl rfl
set_option maxRecDepth 20000 in
theorem x213_211 {z : P0} : X z 213 211 = XI mT z (X z) (.iconst 0, 1, 0, 0, 0, [], nI 0, 0) 213 211 := X_at (r := mi213) rfl rfl
set_option maxRecDepth 20000 in
theorem x213_212 {z : P0} : X z 213 212 = XI mT z (X z) (.iaload, 1, 0, 0, 0, [], 0, 0) 213 212 := X_at (r := mi213) rfl rfl
set_option maxRecDepth 20000 in
theorem x213_213 {z : P0} : X z 213 213 = XI mT z (X z) (.if_icmp .ne 74, 3, 287, 0, 0, [], 0, 0) 213 213 := X_at (r := mi213) rfl rfl
set_option maxRecDepth 20000 in
theorem x213_216 {z : P0} : X z 213 216 = XI mT z (X z) (.aload_n 0, 1, 0, 0, 0, [], 0, 0) 213 216 := X_at (r := mi213) rfl rfl
set_option maxRecDepth 20000 in
theorem x213_217 {z : P0} : X z 213 217 = XI mT z (X z) (.iload 18, 2, 18, 0, 0, [], 0, 0) 213 217 := X_at (r := mi213) rfl rfl
set_option maxRecDepth 20000 in
theorem x213_219 {z : P0} : X z 213 219 = XI mT z (X z) (.iconst 4, 1, 0, 0, 0, [], nI 4, 0) 213 219 := X_at (r := mi213) rfl rfl
set_option maxRecDepth 20000 in
theorem x213_220 {z : P0} : X z 213 220 = XI mT z (X z) (.invokevirtual 126, 3, 2, 74, 0, [122], 0, 0) 213 220 := X_at (r := mi213) rfl rfl
set_option maxRecDepth 20000 in
theorem x213_223 {z : P0} : X z 213 223 = XI mT z (X z) (.aload 13, 2, 13, 0, 0, [], 0, 0) 213 223 := X_at (r := mi213) rfl rfl
set_option maxRecDepth 20000 in
theorem x213_225 {z : P0} : X z 213 225 = XI mT z (X z) (.iconst 4, 1, 0, 0, 0, [], nI 4, 0) 213 225 := X_at (r := mi213) rfl rfl
set_option maxRecDepth 20000 in
theorem x213_226 {z : P0} : X z 213 226 = XI mT z (X z) (.iaload, 1, 0, 0, 0, [], 0, 0) 213 226 := X_at (r := mi213) rfl rfl
set_option maxRecDepth 20000 in
theorem x213_227 {z : P0} : X z 213 227 = XI mT z (X z) (.if_icmp .ne 60, 3, 287, 0, 0, [], 0, 0) 213 227 := X_at (r := mi213) rfl rfl
set_option maxRecDepth 20000 in
theorem x213_230 {z : P0} : X z 213 230 = XI mT z (X z) (.aload_n 0, 1, 0, 0, 0, [], 0, 0) 213 230 := X_at (r := mi213) rfl rfl
set_option maxRecDepth 20000 in
theorem x213_231 {z : P0} : X z 213 231 = XI mT z (X z) (.iload 18, 2, 18, 0, 0, [], 0, 0) 213 231 := X_at (r := mi213) rfl rfl
set_option maxRecDepth 20000 in
theorem x213_233 {z : P0} : X z 213 233 = XI mT z (X z) (.iconst 5, 1, 0, 0, 0, [], nI 5, 0) 213 233 := X_at (r := mi213) rfl rfl
set_option maxRecDepth 20000 in
theorem x213_234 {z : P0} : X z 213 234 = XI mT z (X z) (.invokevirtual 126, 3, 2, 74, 0, [122], 0, 0) 213 234 := X_at (r := mi213) rfl rfl
set_option maxRecDepth 20000 in
theorem x213_237 {z : P0} : X z 213 237 = XI mT z (X z) (.aload 13, 2, 13, 0, 0, [], 0, 0) 213 237 := X_at (r := mi213) rfl rfl
set_option maxRecDepth 20000 in
theorem x213_239 {z : P0} : X z 213 239 = XI mT z (X z) (.bipush 6, 2, 0, 0, 0, [], nI 6, 0) 213 239 := X_at (r := mi213) rfl rfl
set_option maxRecDepth 20000 in
theorem x213_241 {z : P0} : X z 213 241 = XI mT z (X z) (.iaload, 1, 0, 0, 0, [], 0, 0) 213 241 := X_at (r := mi213) rfl rfl
set_option maxRecDepth 20000 in
theorem x213_242 {z : P0} : X z 213 242 = XI mT z (X z) (.if_icmp .ne 45, 3, 287, 0, 0, [], 0, 0) 213 242 := X_at (r := mi213) rfl rfl
set_option maxRecDepth 20000 in
theorem x213_245 {z : P0} : X z 213 245 = XI mT z (X z) (.aload_n 0, 1, 0, 0, 0, [], 0, 0) 213 245 := X_at (r := mi213) rfl rfl
set_option maxRecDepth 20000 in
theorem x213_246 {z : P0} : X z 213 246 = XI mT z (X z) (.iload 18, 2, 18, 0, 0, [], 0, 0) 213 246 := X_at (r := mi213) rfl rfl
set_option maxRecDepth 20000 in
theorem x213_248 {z : P0} : X z 213 248 = XI mT z (X z) (.bipush 6, 2, 0, 0, 0, [], nI 6, 0) 213 248 := X_at (r := mi213) rfl rfl
set_option maxRecDepth 20000 in
theorem x213_250 {z : P0} : X z 213 250 = XI mT z (X z) (.invokevirtual 126, 3, 2, 74, 0, [122], 0, 0) 213 250 := X_at (r := mi213) rfl rfl
set_option maxRecDepth 20000 in
theorem x213_253 {z : P0} : X z 213 253 = XI mT z (X z) (.aload 13, 2, 13, 0, 0, [], 0, 0) 213 253 := X_at (r := mi213) rfl rfl
set_option maxRecDepth 20000 in
theorem x213_255 {z : P0} : X z 213 255 = XI mT z (X z) (.bipush 6, 2, 0, 0, 0, [], nI 6, 0) 213 255 := X_at (r := mi213) rfl rfl
set_option maxRecDepth 20000 in
theorem x213_257 {z : P0} : X z 213 257 = XI mT z (X z) (.iaload, 1, 0, 0, 0, [], 0, 0) 213 257 := X_at (r := mi213) rfl rfl
set_option maxRecDepth 20000 in
theorem x213_258 {z : P0} : X z 213 258 = XI mT z (X z) (.aload_n 2, 1, 2, 0, 0, [], 0, 0) 213 258 := X_at (r := mi213) rfl rfl
set_option maxRecDepth 20000 in
theorem x213_259 {z : P0} : X z 213 259 = XI mT z (X z) (.bipush 13, 2, 0, 0, 0, [], nI 13, 0) 213 259 := X_at (r := mi213) rfl rfl
set_option maxRecDepth 20000 in
theorem x213_261 {z : P0} : X z 213 261 = XI mT z (X z) (.iaload, 1, 0, 0, 0, [], 0, 0) 213 261 := X_at (r := mi213) rfl rfl
set_option maxRecDepth 20000 in
theorem x213_262 {z : P0} : X z 213 262 = XI mT z (X z) (.imul, 1, 0, 0, 0, [], 0, 0) 213 262 := X_at (r := mi213) rfl rfl
set_option maxRecDepth 20000 in
theorem x213_263 {z : P0} : X z 213 263 = XI mT z (X z) (.if_icmp .ne 24, 3, 287, 0, 0, [], 0, 0) 213 263 := X_at (r := mi213) rfl rfl
set_option maxRecDepth 20000 in
theorem x213_266 {z : P0} : X z 213 266 = XI mT z (X z) (.aload_n 0, 1, 0, 0, 0, [], 0, 0) 213 266 := X_at (r := mi213) rfl rfl
set_option maxRecDepth 20000 in
theorem x213_267 {z : P0} : X z 213 267 = XI mT z (X z) (.iload 18, 2, 18, 0, 0, [], 0, 0) 213 267 := X_at (r := mi213) rfl rfl
set_option maxRecDepth 20000 in
theorem x213_269 {z : P0} : X z 213 269 = XI mT z (X z) (.bipush 7, 2, 0, 0, 0, [], nI 7, 0) 213 269 := X_at (r := mi213) rfl rfl
set_option maxRecDepth 20000 in
theorem x213_271 {z : P0} : X z 213 271 = XI mT z (X z) (.invokevirtual 126, 3, 2, 74, 0, [122], 0, 0) 213 271 := X_at (r := mi213) rfl rfl
set_option maxRecDepth 20000 in
theorem x213_274 {z : P0} : X z 213 274 = XI mT z (X z) (.iload 19, 2, 19, 0, 0, [], 0, 0) 213 274 := X_at (r := mi213) rfl rfl
set_option maxRecDepth 20000 in
theorem x213_276 {z : P0} : X z 213 276 = XI mT z (X z) (.ifCond .eq 7, 3, 283, 0, 0, [], 0, 0) 213 276 := X_at (r := mi213) rfl rfl
set_option maxRecDepth 20000 in
theorem x213_279 {z : P0} : X z 213 279 = XI mT z (X z) (.iconst 1, 1, 0, 0, 0, [], nI 1, 0) 213 279 := X_at (r := mi213) rfl rfl
set_option maxRecDepth 20000 in
theorem x213_280 {z : P0} : X z 213 280 = XI mT z (X z) (.goto 4, 3, 284, 0, 0, [], 0, 0) 213 280 := X_at (r := mi213) rfl rfl
set_option maxRecDepth 20000 in
theorem x213_283 {z : P0} : X z 213 283 = XI mT z (X z) (.iconst 0, 1, 0, 0, 0, [], nI 0, 0) 213 283 := X_at (r := mi213) rfl rfl
set_option maxRecDepth 20000 in
theorem x213_284 {z : P0} : X z 213 284 = XI mT z (X z) (.if_icmp .eq 5, 3, 289, 0, 0, [], 0, 0) 213 284 := X_at (r := mi213) rfl rfl
set_option maxRecDepth 20000 in
theorem x213_287 {z : P0} : X z 213 287 = XI mT z (X z) (.iconst 0, 1, 0, 0, 0, [], nI 0, 0) 213 287 := X_at (r := mi213) rfl rfl
set_option maxRecDepth 20000 in
theorem x213_288 {z : P0} : X z 213 288 = XI mT z (X z) (.ireturn, 1, 0, 0, 0, [], 0, 0) 213 288 := X_at (r := mi213) rfl rfl
set_option maxRecDepth 20000 in
theorem x213_289 {z : P0} : X z 213 289 = XI mT z (X z) (.iconst 0, 1, 0, 0, 0, [], nI 0, 0) 213 289 := X_at (r := mi213) rfl rfl
set_option maxRecDepth 20000 in
theorem x213_290 {z : P0} : X z 213 290 = XI mT z (X z) (.istore 22, 2, 22, 0, 0, [], 0, 0) 213 290 := X_at (r := mi213) rfl rfl
set_option maxRecDepth 20000 in
theorem x213_292 {z : P0} : X z 213 292 = XI mT z (X z) (.iload 22, 2, 22, 0, 0, [], 0, 0) 213 292 := X_at (r := mi213) rfl rfl
set_option maxRecDepth 20000 in
theorem x213_294 {z : P0} : X z 213 294 = XI mT z (X z) (.aload_n 2, 1, 2, 0, 0, [], 0, 0) 213 294 := X_at (r := mi213) rfl rfl
set_option maxRecDepth 20000 in
theorem x213_295 {z : P0} : X z 213 295 = XI mT z (X z) (.iconst 0, 1, 0, 0, 0, [], nI 0, 0) 213 295 := X_at (r := mi213) rfl rfl
set_option maxRecDepth 20000 in
theorem x213_296 {z : P0} : X z 213 296 = XI mT z (X z) (.iaload, 1, 0, 0, 0, [], 0, 0) 213 296 := X_at (r := mi213) rfl rfl
set_option maxRecDepth 20000 in
theorem x213_297 {z : P0} : X z 213 297 = XI mT z (X z) (.if_icmp .ge 73, 3, 370, 0, 0, [], 0, 0) 213 297 := X_at (r := mi213) rfl rfl
set_option maxRecDepth 20000 in
theorem x213_300 {z : P0} : X z 213 300 = XI mT z (X z) (.aload 12, 2, 12, 0, 0, [], 0, 0) 213 300 := X_at (r := mi213) rfl rfl
set_option maxRecDepth 20000 in
theorem x213_302 {z : P0} : X z 213 302 = XI mT z (X z) (.iload 18, 2, 18, 0, 0, [], 0, 0) 213 302 := X_at (r := mi213) rfl rfl
set_option maxRecDepth 20000 in
theorem x213_304 {z : P0} : X z 213 304 = XI mT z (X z) (.iaload, 1, 0, 0, 0, [], 0, 0) 213 304 := X_at (r := mi213) rfl rfl
set_option maxRecDepth 20000 in
theorem x213_305 {z : P0} : X z 213 305 = XI mT z (X z) (.iload 22, 2, 22, 0, 0, [], 0, 0) 213 305 := X_at (r := mi213) rfl rfl
set_option maxRecDepth 20000 in
theorem x213_307 {z : P0} : X z 213 307 = XI mT z (X z) (.ishr, 1, 0, 0, 0, [], 0, 0) 213 307 := X_at (r := mi213) rfl rfl
set_option maxRecDepth 20000 in
theorem x213_308 {z : P0} : X z 213 308 = XI mT z (X z) (.iconst 1, 1, 0, 0, 0, [], nI 1, 0) 213 308 := X_at (r := mi213) rfl rfl
set_option maxRecDepth 20000 in
theorem x213_309 {z : P0} : X z 213 309 = XI mT z (X z) (.iand, 1, 0, 0, 0, [], 0, 0) 213 309 := X_at (r := mi213) rfl rfl
set_option maxRecDepth 20000 in
theorem x213_310 {z : P0} : X z 213 310 = XI mT z (X z) (.iconst 1, 1, 0, 0, 0, [], nI 1, 0) 213 310 := X_at (r := mi213) rfl rfl
set_option maxRecDepth 20000 in
theorem x213_311 {z : P0} : X z 213 311 = XI mT z (X z) (.if_icmp .ne 53, 3, 364, 0, 0, [], 0, 0) 213 311 := X_at (r := mi213) rfl rfl
set_option maxRecDepth 20000 in
theorem x213_314 {z : P0} : X z 213 314 = XI mT z (X z) (.aload_n 0, 1, 0, 0, 0, [], 0, 0) 213 314 := X_at (r := mi213) rfl rfl
set_option maxRecDepth 20000 in
theorem x213_315 {z : P0} : X z 213 315 = XI mT z (X z) (.iload 22, 2, 22, 0, 0, [], 0, 0) 213 315 := X_at (r := mi213) rfl rfl
set_option maxRecDepth 20000 in
theorem x213_317 {z : P0} : X z 213 317 = XI mT z (X z) (.bipush 7, 2, 0, 0, 0, [], nI 7, 0) 213 317 := X_at (r := mi213) rfl rfl
set_option maxRecDepth 20000 in
theorem x213_319 {z : P0} : X z 213 319 = XI mT z (X z) (.invokevirtual 128, 3, 2, 71, 0, [123], 0, 0) 213 319 := X_at (r := mi213) rfl rfl
set_option maxRecDepth 20000 in
theorem x213_322 {z : P0} : X z 213 322 = XI mT z (X z) (.iload 18, 2, 18, 0, 0, [], 0, 0) 213 322 := X_at (r := mi213) rfl rfl
set_option maxRecDepth 20000 in
theorem x213_324 {z : P0} : X z 213 324 = XI mT z (X z) (.if_icmp .ne 38, 3, 362, 0, 0, [], 0, 0) 213 324 := X_at (r := mi213) rfl rfl
set_option maxRecDepth 20000 in
theorem x213_327 {z : P0} : X z 213 327 = XI mT z (X z) (.aload_n 0, 1, 0, 0, 0, [], 0, 0) 213 327 := X_at (r := mi213) rfl rfl
set_option maxRecDepth 20000 in
theorem x213_328 {z : P0} : X z 213 328 = XI mT z (X z) (.iload 22, 2, 22, 0, 0, [], 0, 0) 213 328 := X_at (r := mi213) rfl rfl
set_option maxRecDepth 20000 in
theorem x213_330 {z : P0} : X z 213 330 = XI mT z (X z) (.bipush 8, 2, 0, 0, 0, [], nI 8, 0) 213 330 := X_at (r := mi213) rfl rfl
set_option maxRecDepth 20000 in
theorem x213_332 {z : P0} : X z 213 332 = XI mT z (X z) (.invokevirtual 128, 3, 2, 71, 0, [123], 0, 0) 213 332 := X_at (r := mi213) rfl rfl
set_option maxRecDepth 20000 in
theorem x213_335 {z : P0} : X z 213 335 = XI mT z (X z) (.iload 19, 2, 19, 0, 0, [], 0, 0) 213 335 := X_at (r := mi213) rfl rfl
set_option maxRecDepth 20000 in
theorem x213_337 {z : P0} : X z 213 337 = XI mT z (X z) (.ifCond .eq 7, 3, 344, 0, 0, [], 0, 0) 213 337 := X_at (r := mi213) rfl rfl
set_option maxRecDepth 20000 in
theorem x213_340 {z : P0} : X z 213 340 = XI mT z (X z) (.iconst 0, 1, 0, 0, 0, [], nI 0, 0) 213 340 := X_at (r := mi213) rfl rfl
set_option maxRecDepth 20000 in
theorem x213_341 {z : P0} : X z 213 341 = XI mT z (X z) (.goto 4, 3, 345, 0, 0, [], 0, 0) 213 341 := X_at (r := mi213) rfl rfl
set_option maxRecDepth 20000 in
theorem x213_344 {z : P0} : X z 213 344 = XI mT z (X z) (.iconst 4, 1, 0, 0, 0, [], nI 4, 0) 213 344 := X_at (r := mi213) rfl rfl
set_option maxRecDepth 20000 in
theorem x213_345 {z : P0} : X z 213 345 = XI mT z (X z) (.if_icmp .ne 17, 3, 362, 0, 0, [], 0, 0) 213 345 := X_at (r := mi213) rfl rfl
set_option maxRecDepth 20000 in
theorem x213_348 {z : P0} : X z 213 348 = XI mT z (X z) (.aload_n 0, 1, 0, 0, 0, [], 0, 0) 213 348 := X_at (r := mi213) rfl rfl
set_option maxRecDepth 20000 in
theorem x213_349 {z : P0} : X z 213 349 = XI mT z (X z) (.iload 18, 2, 18, 0, 0, [], 0, 0) 213 349 := X_at (r := mi213) rfl rfl
set_option maxRecDepth 20000 in
theorem x213_351 {z : P0} : X z 213 351 = XI mT z (X z) (.iconst 2, 1, 0, 0, 0, [], nI 2, 0) 213 351 := X_at (r := mi213) rfl rfl
set_option maxRecDepth 20000 in
theorem x213_352 {z : P0} : X z 213 352 = XI mT z (X z) (.invokevirtual 126, 3, 2, 74, 0, [122], 0, 0) 213 352 := X_at (r := mi213) rfl rfl
set_option maxRecDepth 20000 in
theorem x213_355 {z : P0} : X z 213 355 = XI mT z (X z) (.aload_n 3, 1, 3, 0, 0, [], 0, 0) 213 355 := X_at (r := mi213) rfl rfl
set_option maxRecDepth 20000 in
theorem x213_356 {z : P0} : X z 213 356 = XI mT z (X z) (.iload 22, 2, 22, 0, 0, [], 0, 0) 213 356 := X_at (r := mi213) rfl rfl
set_option maxRecDepth 20000 in
theorem x213_358 {z : P0} : X z 213 358 = XI mT z (X z) (.iaload, 1, 0, 0, 0, [], 0, 0) 213 358 := X_at (r := mi213) rfl rfl
set_option maxRecDepth 20000 in
theorem x213_359 {z : P0} : X z 213 359 = XI mT z (X z) (.if_icmp .eq 5, 3, 364, 0, 0, [], 0, 0) 213 359 := X_at (r := mi213) rfl rfl
set_option maxRecDepth 20000 in
theorem x213_362 {z : P0} : X z 213 362 = XI mT z (X z) (.iconst 0, 1, 0, 0, 0, [], nI 0, 0) 213 362 := X_at (r := mi213) rfl rfl
set_option maxRecDepth 20000 in
theorem x213_363 {z : P0} : X z 213 363 = XI mT z (X z) (.ireturn, 1, 0, 0, 0, [], 0, 0) 213 363 := X_at (r := mi213) rfl rfl
set_option maxRecDepth 20000 in
theorem x213_364 {z : P0} : X z 213 364 = XI mT z (X z) (.iinc 22 1, 3, 22, 0, 0, [], nI 1, 0) 213 364 := X_at (r := mi213) rfl rfl
set_option maxRecDepth 20000 in
theorem x213_367 {z : P0} : X z 213 367 = XI mT z (X z) (.goto (-75), 3, 292, 0, 0, [], 0, 0) 213 367 := X_at (r := mi213) rfl rfl
set_option maxRecDepth 20000 in
theorem x213_370 {z : P0} : X z 213 370 = XI mT z (X z) (.iload 19, 2, 19, 0, 0, [], 0, 0) 213 370 := X_at (r := mi213) rfl rfl
set_option maxRecDepth 20000 in
theorem x213_372 {z : P0} : X z 213 372 = XI mT z (X z) (.ifCond .eq 39, 3, 411, 0, 0, [], 0, 0) 213 372 := X_at (r := mi213) rfl rfl
set_option maxRecDepth 20000 in
theorem x213_375 {z : P0} : X z 213 375 = XI mT z (X z) (.iinc 14 1, 3, 14, 0, 0, [], nI 1, 0) 213 375 := X_at (r := mi213) rfl rfl
set_option maxRecDepth 20000 in
theorem x213_378 {z : P0} : X z 213 378 = XI mT z (X z) (.iload 15, 2, 15, 0, 0, [], 0, 0) 213 378 := X_at (r := mi213) rfl rfl
set_option maxRecDepth 20000 in
theorem x213_380 {z : P0} : X z 213 380 = XI mT z (X z) (.aload 12, 2, 12, 0, 0, [], 0, 0) 213 380 := X_at (r := mi213) rfl rfl
set_option maxRecDepth 20000 in
theorem x213_382 {z : P0} : X z 213 382 = XI mT z (X z) (.iload 18, 2, 18, 0, 0, [], 0, 0) 213 382 := X_at (r := mi213) rfl rfl
set_option maxRecDepth 20000 in
theorem x213_384 {z : P0} : X z 213 384 = XI mT z (X z) (.iaload, 1, 0, 0, 0, [], 0, 0) 213 384 := X_at (r := mi213) rfl rfl
set_option maxRecDepth 20000 in
theorem x213_385 {z : P0} : X z 213 385 = XI mT z (X z) (.invokestatic 56, 3, 1, 206, 0, [102], 0, 0) 213 385 := X_at (r := mi213) rfl rfl
set_option maxRecDepth 20000 in
theorem x213_388 {z : P0} : X z 213 388 = XI mT z (X z) (.iadd, 1, 0, 0, 0, [], 0, 0) 213 388 := X_at (r := mi213) rfl rfl
set_option maxRecDepth 20000 in
theorem x213_389 {z : P0} : X z 213 389 = XI mT z (X z) (.istore 15, 2, 15, 0, 0, [], 0, 0) 213 389 := X_at (r := mi213) rfl rfl
set_option maxRecDepth 20000 in
theorem x213_391 {z : P0} : X z 213 391 = XI mT z (X z) (.iload 16, 2, 16, 0, 0, [], 0, 0) 213 391 := X_at (r := mi213) rfl rfl
set_option maxRecDepth 20000 in
theorem x213_393 {z : P0} : X z 213 393 = XI mT z (X z) (.aload 13, 2, 13, 0, 0, [], 0, 0) 213 393 := X_at (r := mi213) rfl rfl
set_option maxRecDepth 20000 in
theorem x213_395 {z : P0} : X z 213 395 = XI mT z (X z) (.bipush 6, 2, 0, 0, 0, [], nI 6, 0) 213 395 := X_at (r := mi213) rfl rfl
set_option maxRecDepth 20000 in
theorem x213_397 {z : P0} : X z 213 397 = XI mT z (X z) (.iaload, 1, 0, 0, 0, [], 0, 0) 213 397 := X_at (r := mi213) rfl rfl
set_option maxRecDepth 20000 in
theorem x213_398 {z : P0} : X z 213 398 = XI mT z (X z) (.iadd, 1, 0, 0, 0, [], 0, 0) 213 398 := X_at (r := mi213) rfl rfl
set_option maxRecDepth 20000 in
theorem x213_399 {z : P0} : X z 213 399 = XI mT z (X z) (.istore 16, 2, 16, 0, 0, [], 0, 0) 213 399 := X_at (r := mi213) rfl rfl
set_option maxRecDepth 20000 in
theorem x213_401 {z : P0} : X z 213 401 = XI mT z (X z) (.iload 17, 2, 17, 0, 0, [], 0, 0) 213 401 := X_at (r := mi213) rfl rfl
set_option maxRecDepth 20000 in
theorem x213_403 {z : P0} : X z 213 403 = XI mT z (X z) (.aload 12, 2, 12, 0, 0, [], 0, 0) 213 403 := X_at (r := mi213) rfl rfl
set_option maxRecDepth 20000 in
theorem x213_405 {z : P0} : X z 213 405 = XI mT z (X z) (.iload 18, 2, 18, 0, 0, [], 0, 0) 213 405 := X_at (r := mi213) rfl rfl
set_option maxRecDepth 20000 in
theorem x213_407 {z : P0} : X z 213 407 = XI mT z (X z) (.iaload, 1, 0, 0, 0, [], 0, 0) 213 407 := X_at (r := mi213) rfl rfl
set_option maxRecDepth 20000 in
theorem x213_408 {z : P0} : X z 213 408 = XI mT z (X z) (.ior, 1, 0, 0, 0, [], 0, 0) 213 408 := X_at (r := mi213) rfl rfl
set_option maxRecDepth 20000 in
theorem x213_409 {z : P0} : X z 213 409 = XI mT z (X z) (.istore 17, 2, 17, 0, 0, [], 0, 0) 213 409 := X_at (r := mi213) rfl rfl
set_option maxRecDepth 20000 in
theorem x213_411 {z : P0} : X z 213 411 = XI mT z (X z) (.iinc 18 1, 3, 18, 0, 0, [], nI 1, 0) 213 411 := X_at (r := mi213) rfl rfl
set_option maxRecDepth 20000 in
theorem x213_414 {z : P0} : X z 213 414 = XI mT z (X z) (.goto (-378), 3, 36, 0, 0, [], 0, 0) 213 414 := X_at (r := mi213) rfl rfl
set_option maxRecDepth 20000 in
theorem x213_417 {z : P0} : X z 213 417 = XI mT z (X z) (.iconst 0, 1, 0, 0, 0, [], nI 0, 0) 213 417 := X_at (r := mi213) rfl rfl
set_option maxRecDepth 20000 in
theorem x213_418 {z : P0} : X z 213 418 = XI mT z (X z) (.istore 18, 2, 18, 0, 0, [], 0, 0) 213 418 := X_at (r := mi213) rfl rfl
set_option maxRecDepth 20000 in
theorem x213_420 {z : P0} : X z 213 420 = XI mT z (X z) (.iload 18, 2, 18, 0, 0, [], 0, 0) 213 420 := X_at (r := mi213) rfl rfl
set_option maxRecDepth 20000 in
theorem x213_422 {z : P0} : X z 213 422 = XI mT z (X z) (.aload_n 2, 1, 2, 0, 0, [], 0, 0) 213 422 := X_at (r := mi213) rfl rfl
set_option maxRecDepth 20000 in
theorem x213_423 {z : P0} : X z 213 423 = XI mT z (X z) (.iconst 0, 1, 0, 0, 0, [], nI 0, 0) 213 423 := X_at (r := mi213) rfl rfl
set_option maxRecDepth 20000 in
theorem x213_424 {z : P0} : X z 213 424 = XI mT z (X z) (.iaload, 1, 0, 0, 0, [], 0, 0) 213 424 := X_at (r := mi213) rfl rfl
set_option maxRecDepth 20000 in
theorem x213_425 {z : P0} : X z 213 425 = XI mT z (X z) (.if_icmp .ge 88, 3, 513, 0, 0, [], 0, 0) 213 425 := X_at (r := mi213) rfl rfl
set_option maxRecDepth 20000 in
theorem x213_428 {z : P0} : X z 213 428 = XI mT z (X z) (.aload_n 2, 1, 2, 0, 0, [], 0, 0) 213 428 := X_at (r := mi213) rfl rfl
set_option maxRecDepth 20000 in
theorem x213_429 {z : P0} : X z 213 429 = XI mT z (X z) (.aload 5, 2, 5, 0, 0, [], 0, 0) 213 429 := X_at (r := mi213) rfl rfl
set_option maxRecDepth 20000 in
theorem x213_431 {z : P0} : X z 213 431 = XI mT z (X z) (.aload 6, 2, 6, 0, 0, [], 0, 0) 213 431 := X_at (r := mi213) rfl rfl
set_option maxRecDepth 20000 in
theorem x213_433 {z : P0} : X z 213 433 = XI mT z (X z) (.aload 7, 2, 7, 0, 0, [], 0, 0) 213 433 := X_at (r := mi213) rfl rfl
set_option maxRecDepth 20000 in
theorem x213_435 {z : P0} : X z 213 435 = XI mT z (X z) (.aload 11, 2, 11, 0, 0, [], 0, 0) 213 435 := X_at (r := mi213) rfl rfl
set_option maxRecDepth 20000 in
theorem x213_437 {z : P0} : X z 213 437 = XI mT z (X z) (.iload 18, 2, 18, 0, 0, [], 0, 0) 213 437 := X_at (r := mi213) rfl rfl
set_option maxRecDepth 20000 in
theorem x213_439 {z : P0} : X z 213 439 = XI mT z (X z) (.invokestatic 52, 3, 6, 205, 0, [101], 0, 0) 213 439 := X_at (r := mi213) rfl rfl
set_option maxRecDepth 20000 in
theorem x213_442 {z : P0} : X z 213 442 = XI mT z (X z) (.istore 19, 2, 19, 0, 0, [], 0, 0) 213 442 := X_at (r := mi213) rfl rfl
set_option maxRecDepth 20000 in
theorem x213_444 {z : P0} : X z 213 444 = XI mT z (X z) (.iload 19, 2, 19, 0, 0, [], 0, 0) 213 444 := X_at (r := mi213) rfl rfl
set_option maxRecDepth 20000 in
theorem x213_446 {z : P0} : X z 213 446 = XI mT z (X z) (.ifCond .le 28, 3, 474, 0, 0, [], 0, 0) 213 446 := X_at (r := mi213) rfl rfl
set_option maxRecDepth 20000 in
theorem x213_449 {z : P0} : X z 213 449 = XI mT z (X z) (.aload_n 0, 1, 0, 0, 0, [], 0, 0) 213 449 := X_at (r := mi213) rfl rfl
set_option maxRecDepth 20000 in
theorem x213_450 {z : P0} : X z 213 450 = XI mT z (X z) (.iload 18, 2, 18, 0, 0, [], 0, 0) 213 450 := X_at (r := mi213) rfl rfl
set_option maxRecDepth 20000 in
theorem x213_452 {z : P0} : X z 213 452 = XI mT z (X z) (.bipush 7, 2, 0, 0, 0, [], nI 7, 0) 213 452 := X_at (r := mi213) rfl rfl
set_option maxRecDepth 20000 in
theorem x213_454 {z : P0} : X z 213 454 = XI mT z (X z) (.invokevirtual 128, 3, 2, 71, 0, [123], 0, 0) 213 454 := X_at (r := mi213) rfl rfl
set_option maxRecDepth 20000 in
theorem x213_457 {z : P0} : X z 213 457 = XI mT z (X z) (.iconst (-1), 1, 0, 0, 0, [], (-1), 0) 213 457 := X_at (r := mi213) rfl rfl
set_option maxRecDepth 20000 in
theorem x213_458 {z : P0} : X z 213 458 = XI mT z (X z) (.if_icmp .ne 47, 3, 505, 0, 0, [], 0, 0) 213 458 := X_at (r := mi213) rfl rfl
set_option maxRecDepth 20000 in
theorem x213_461 {z : P0} : X z 213 461 = XI mT z (X z) (.aload_n 0, 1, 0, 0, 0, [], 0, 0) 213 461 := X_at (r := mi213) rfl rfl
set_option maxRecDepth 20000 in
theorem x213_462 {z : P0} : X z 213 462 = XI mT z (X z) (.iload 18, 2, 18, 0, 0, [], 0, 0) 213 462 := X_at (r := mi213) rfl rfl
set_option maxRecDepth 20000 in
theorem x213_464 {z : P0} : X z 213 464 = XI mT z (X z) (.bipush 8, 2, 0, 0, 0, [], nI 8, 0) 213 464 := X_at (r := mi213) rfl rfl
set_option maxRecDepth 20000 in
theorem x213_466 {z : P0} : X z 213 466 = XI mT z (X z) (.invokevirtual 128, 3, 2, 71, 0, [123], 0, 0) 213 466 := X_at (r := mi213) rfl rfl
set_option maxRecDepth 20000 in
theorem x213_469 {z : P0} : X z 213 469 = XI mT z (X z) (.iload 19, 2, 19, 0, 0, [], 0, 0) 213 469 := X_at (r := mi213) rfl rfl
set_option maxRecDepth 20000 in
theorem x213_471 {z : P0} : X z 213 471 = XI mT z (X z) (.if_icmp .ne 34, 3, 505, 0, 0, [], 0, 0) 213 471 := X_at (r := mi213) rfl rfl
set_option maxRecDepth 20000 in
theorem x213_474 {z : P0} : X z 213 474 = XI mT z (X z) (.aload_n 0, 1, 0, 0, 0, [], 0, 0) 213 474 := X_at (r := mi213) rfl rfl
set_option maxRecDepth 20000 in
theorem x213_475 {z : P0} : X z 213 475 = XI mT z (X z) (.iload 18, 2, 18, 0, 0, [], 0, 0) 213 475 := X_at (r := mi213) rfl rfl
set_option maxRecDepth 20000 in
theorem x213_477 {z : P0} : X z 213 477 = XI mT z (X z) (.iconst 5, 1, 0, 0, 0, [], nI 5, 0) 213 477 := X_at (r := mi213) rfl rfl
set_option maxRecDepth 20000 in
theorem x213_478 {z : P0} : X z 213 478 = XI mT z (X z) (.invokevirtual 128, 3, 2, 71, 0, [123], 0, 0) 213 478 := X_at (r := mi213) rfl rfl
set_option maxRecDepth 20000 in
theorem x213_481 {z : P0} : X z 213 481 = XI mT z (X z) (.aload 7, 2, 7, 0, 0, [], 0, 0) 213 481 := X_at (r := mi213) rfl rfl
set_option maxRecDepth 20000 in
theorem x213_483 {z : P0} : X z 213 483 = XI mT z (X z) (.iload 18, 2, 18, 0, 0, [], 0, 0) 213 483 := X_at (r := mi213) rfl rfl
set_option maxRecDepth 20000 in
theorem x213_485 {z : P0} : X z 213 485 = XI mT z (X z) (.iaload, 1, 0, 0, 0, [], 0, 0) 213 485 := X_at (r := mi213) rfl rfl
set_option maxRecDepth 20000 in
theorem x213_486 {z : P0} : X z 213 486 = XI mT z (X z) (.if_icmp .ne 19, 3, 505, 0, 0, [], 0, 0) 213 486 := X_at (r := mi213) rfl rfl
set_option maxRecDepth 20000 in
theorem x213_489 {z : P0} : X z 213 489 = XI mT z (X z) (.aload_n 0, 1, 0, 0, 0, [], 0, 0) 213 489 := X_at (r := mi213) rfl rfl
set_option maxRecDepth 20000 in
theorem x213_490 {z : P0} : X z 213 490 = XI mT z (X z) (.iload 18, 2, 18, 0, 0, [], 0, 0) 213 490 := X_at (r := mi213) rfl rfl
set_option maxRecDepth 20000 in
theorem x213_492 {z : P0} : X z 213 492 = XI mT z (X z) (.bipush 6, 2, 0, 0, 0, [], nI 6, 0) 213 492 := X_at (r := mi213) rfl rfl
set_option maxRecDepth 20000 in
theorem x213_494 {z : P0} : X z 213 494 = XI mT z (X z) (.invokevirtual 128, 3, 2, 71, 0, [123], 0, 0) 213 494 := X_at (r := mi213) rfl rfl
set_option maxRecDepth 20000 in
theorem x213_497 {z : P0} : X z 213 497 = XI mT z (X z) (.aload 8, 2, 8, 0, 0, [], 0, 0) 213 497 := X_at (r := mi213) rfl rfl
set_option maxRecDepth 20000 in
theorem x213_499 {z : P0} : X z 213 499 = XI mT z (X z) (.iload 18, 2, 18, 0, 0, [], 0, 0) 213 499 := X_at (r := mi213) rfl rfl
set_option maxRecDepth 20000 in
theorem x213_501 {z : P0} : X z 213 501 = XI mT z (X z) (.iaload, 1, 0, 0, 0, [], 0, 0) 213 501 := X_at (r := mi213) rfl rfl
set_option maxRecDepth 20000 in
theorem x213_502 {z : P0} : X z 213 502 = XI mT z (X z) (.if_icmp .eq 5, 3, 507, 0, 0, [], 0, 0) 213 502 := X_at (r := mi213) rfl rfl
set_option maxRecDepth 20000 in
theorem x213_505 {z : P0} : X z 213 505 = XI mT z (X z) (.iconst 0, 1, 0, 0, 0, [], nI 0, 0) 213 505 := X_at (r := mi213) rfl rfl
set_option maxRecDepth 20000 in
theorem x213_506 {z : P0} : X z 213 506 = XI mT z (X z) (.ireturn, 1, 0, 0, 0, [], 0, 0) 213 506 := X_at (r := mi213) rfl rfl
set_option maxRecDepth 20000 in
theorem x213_507 {z : P0} : X z 213 507 = XI mT z (X z) (.iinc 18 1, 3, 18, 0, 0, [], nI 1, 0) 213 507 := X_at (r := mi213) rfl rfl
set_option maxRecDepth 20000 in
theorem x213_510 {z : P0} : X z 213 510 = XI mT z (X z) (.goto (-90), 3, 420, 0, 0, [], 0, 0) 213 510 := X_at (r := mi213) rfl rfl
set_option maxRecDepth 20000 in
theorem x213_513 {z : P0} : X z 213 513 = XI mT z (X z) (.aload_n 0, 1, 0, 0, 0, [], 0, 0) 213 513 := X_at (r := mi213) rfl rfl
set_option maxRecDepth 20000 in
theorem x213_514 {z : P0} : X z 213 514 = XI mT z (X z) (.iconst 4, 1, 0, 0, 0, [], nI 4, 0) 213 514 := X_at (r := mi213) rfl rfl
set_option maxRecDepth 20000 in
theorem x213_515 {z : P0} : X z 213 515 = XI mT z (X z) (.invokevirtual 131, 3, 1, 77, 0, [124], 0, 0) 213 515 := X_at (r := mi213) rfl rfl
set_option maxRecDepth 20000 in
theorem x213_518 {z : P0} : X z 213 518 = XI mT z (X z) (.aload_n 2, 1, 2, 0, 0, [], 0, 0) 213 518 := X_at (r := mi213) rfl rfl
set_option maxRecDepth 20000 in
theorem x213_519 {z : P0} : X z 213 519 = XI mT z (X z) (.bipush 14, 2, 0, 0, 0, [], nI 14, 0) 213 519 := X_at (r := mi213) rfl rfl
set_option maxRecDepth 20000 in
theorem x213_521 {z : P0} : X z 213 521 = XI mT z (X z) (.iaload, 1, 0, 0, 0, [], 0, 0) 213 521 := X_at (r := mi213) rfl rfl
set_option maxRecDepth 20000 in
theorem x213_522 {z : P0} : X z 213 522 = XI mT z (X z) (.if_icmp .ne 101, 3, 623, 0, 0, [], 0, 0) 213 522 := X_at (r := mi213) rfl rfl
set_option maxRecDepth 20000 in
theorem x213_525 {z : P0} : X z 213 525 = XI mT z (X z) (.aload_n 0, 1, 0, 0, 0, [], 0, 0) 213 525 := X_at (r := mi213) rfl rfl
set_option maxRecDepth 20000 in
theorem x213_526 {z : P0} : X z 213 526 = XI mT z (X z) (.iconst 5, 1, 0, 0, 0, [], nI 5, 0) 213 526 := X_at (r := mi213) rfl rfl
set_option maxRecDepth 20000 in
theorem x213_527 {z : P0} : X z 213 527 = XI mT z (X z) (.invokevirtual 131, 3, 1, 77, 0, [124], 0, 0) 213 527 := X_at (r := mi213) rfl rfl
set_option maxRecDepth 20000 in
theorem x213_530 {z : P0} : X z 213 530 = XI mT z (X z) (.iload 14, 2, 14, 0, 0, [], 0, 0) 213 530 := X_at (r := mi213) rfl rfl
set_option maxRecDepth 20000 in
theorem x213_532 {z : P0} : X z 213 532 = XI mT z (X z) (.if_icmp .ne 91, 3, 623, 0, 0, [], 0, 0) 213 532 := X_at (r := mi213) rfl rfl
set_option maxRecDepth 20000 in
theorem x213_535 {z : P0} : X z 213 535 = XI mT z (X z) (.aload_n 0, 1, 0, 0, 0, [], 0, 0) 213 535 := X_at (r := mi213) rfl rfl
set_option maxRecDepth 20000 in
theorem x213_536 {z : P0} : X z 213 536 = XI mT z (X z) (.bipush 6, 2, 0, 0, 0, [], nI 6, 0) 213 536 := X_at (r := mi213) rfl rfl
set_option maxRecDepth 20000 in
theorem x213_538 {z : P0} : X z 213 538 = XI mT z (X z) (.invokevirtual 131, 3, 1, 77, 0, [124], 0, 0) 213 538 := X_at (r := mi213) rfl rfl
set_option maxRecDepth 20000 in
theorem x213_541 {z : P0} : X z 213 541 = XI mT z (X z) (.iload 15, 2, 15, 0, 0, [], 0, 0) 213 541 := X_at (r := mi213) rfl rfl
set_option maxRecDepth 20000 in
theorem x213_543 {z : P0} : X z 213 543 = XI mT z (X z) (.if_icmp .ne 80, 3, 623, 0, 0, [], 0, 0) 213 543 := X_at (r := mi213) rfl rfl
set_option maxRecDepth 20000 in
theorem x213_546 {z : P0} : X z 213 546 = XI mT z (X z) (.aload_n 0, 1, 0, 0, 0, [], 0, 0) 213 546 := X_at (r := mi213) rfl rfl
set_option maxRecDepth 20000 in
theorem x213_547 {z : P0} : X z 213 547 = XI mT z (X z) (.bipush 7, 2, 0, 0, 0, [], nI 7, 0) 213 547 := X_at (r := mi213) rfl rfl
set_option maxRecDepth 20000 in
theorem x213_549 {z : P0} : X z 213 549 = XI mT z (X z) (.invokevirtual 131, 3, 1, 77, 0, [124], 0, 0) 213 549 := X_at (r := mi213) rfl rfl
set_option maxRecDepth 20000 in
theorem x213_552 {z : P0} : X z 213 552 = XI mT z (X z) (.iload 16, 2, 16, 0, 0, [], 0, 0) 213 552 := X_at (r := mi213) rfl rfl
set_option maxRecDepth 20000 in
theorem x213_554 {z : P0} : X z 213 554 = XI mT z (X z) (.if_icmp .ne 69, 3, 623, 0, 0, [], 0, 0) 213 554 := X_at (r := mi213) rfl rfl
set_option maxRecDepth 20000 in
theorem x213_557 {z : P0} : X z 213 557 = XI mT z (X z) (.aload_n 0, 1, 0, 0, 0, [], 0, 0) 213 557 := X_at (r := mi213) rfl rfl
set_option maxRecDepth 20000 in
theorem x213_558 {z : P0} : X z 213 558 = XI mT z (X z) (.bipush 8, 2, 0, 0, 0, [], nI 8, 0) 213 558 := X_at (r := mi213) rfl rfl
set_option maxRecDepth 20000 in
theorem x213_560 {z : P0} : X z 213 560 = XI mT z (X z) (.invokevirtual 131, 3, 1, 77, 0, [124], 0, 0) 213 560 := X_at (r := mi213) rfl rfl
set_option maxRecDepth 20000 in
theorem x213_563 {z : P0} : X z 213 563 = XI mT z (X z) (.iload 16, 2, 16, 0, 0, [], 0, 0) 213 563 := X_at (r := mi213) rfl rfl
set_option maxRecDepth 20000 in
theorem x213_565 {z : P0} : X z 213 565 = XI mT z (X z) (.aload_n 2, 1, 2, 0, 0, [], 0, 0) 213 565 := X_at (r := mi213) rfl rfl
set_option maxRecDepth 20000 in
theorem x213_566 {z : P0} : X z 213 566 = XI mT z (X z) (.bipush 13, 2, 0, 0, 0, [], nI 13, 0) 213 566 := X_at (r := mi213) rfl rfl
set_option maxRecDepth 20000 in
theorem x213_568 {z : P0} : X z 213 568 = XI mT z (X z) (.iaload, 1, 0, 0, 0, [], 0, 0) 213 568 := X_at (r := mi213) rfl rfl
set_option maxRecDepth 20000 in
theorem x213_569 {z : P0} : X z 213 569 = XI mT z (X z) (.imul, 1, 0, 0, 0, [], 0, 0) 213 569 := X_at (r := mi213) rfl rfl
set_option maxRecDepth 20000 in
theorem x213_570 {z : P0} : X z 213 570 = XI mT z (X z) (.if_icmp .ne 53, 3, 623, 0, 0, [], 0, 0) 213 570 := X_at (r := mi213) rfl rfl
set_option maxRecDepth 20000 in
theorem x213_573 {z : P0} : X z 213 573 = XI mT z (X z) (.aload_n 0, 1, 0, 0, 0, [], 0, 0) 213 573 := X_at (r := mi213) rfl rfl
set_option maxRecDepth 20000 in
theorem x213_574 {z : P0} : X z 213 574 = XI mT z (X z) (.bipush 9, 2, 0, 0, 0, [], nI 9, 0) 213 574 := X_at (r := mi213) rfl rfl
set_option maxRecDepth 20000 in
theorem x213_576 {z : P0} : X z 213 576 = XI mT z (X z) (.invokevirtual 131, 3, 1, 77, 0, [124], 0, 0) 213 576 := X_at (r := mi213) rfl rfl
set_option maxRecDepth 20000 in
theorem x213_579 {z : P0} : X z 213 579 = XI mT z (X z) (.aload_n 2, 1, 2, 0, 0, [], 0, 0) 213 579 := X_at (r := mi213) rfl rfl
set_option maxRecDepth 20000 in
theorem x213_580 {z : P0} : X z 213 580 = XI mT z (X z) (.iconst 4, 1, 0, 0, 0, [], nI 4, 0) 213 580 := X_at (r := mi213) rfl rfl
set_option maxRecDepth 20000 in
theorem x213_581 {z : P0} : X z 213 581 = XI mT z (X z) (.iaload, 1, 0, 0, 0, [], 0, 0) 213 581 := X_at (r := mi213) rfl rfl
set_option maxRecDepth 20000 in
theorem x213_582 {z : P0} : X z 213 582 = XI mT z (X z) (.if_icmp .ne 41, 3, 623, 0, 0, [], 0, 0) 213 582 := X_at (r := mi213) rfl rfl
set_option maxRecDepth 20000 in
theorem x213_585 {z : P0} : X z 213 585 = XI mT z (X z) (.aload_n 0, 1, 0, 0, 0, [], 0, 0) 213 585 := X_at (r := mi213) rfl rfl
set_option maxRecDepth 20000 in
theorem x213_586 {z : P0} : X z 213 586 = XI mT z (X z) (.bipush 10, 2, 0, 0, 0, [], nI 10, 0) 213 586 := X_at (r := mi213) rfl rfl
set_option maxRecDepth 20000 in
theorem x213_588 {z : P0} : X z 213 588 = XI mT z (X z) (.invokevirtual 131, 3, 1, 77, 0, [124], 0, 0) 213 588 := X_at (r := mi213) rfl rfl
set_option maxRecDepth 20000 in
theorem x213_591 {z : P0} : X z 213 591 = XI mT z (X z) (.aload_n 2, 1, 2, 0, 0, [], 0, 0) 213 591 := X_at (r := mi213) rfl rfl
set_option maxRecDepth 20000 in
theorem x213_592 {z : P0} : X z 213 592 = XI mT z (X z) (.iconst 5, 1, 0, 0, 0, [], nI 5, 0) 213 592 := X_at (r := mi213) rfl rfl
set_option maxRecDepth 20000 in
theorem x213_593 {z : P0} : X z 213 593 = XI mT z (X z) (.iaload, 1, 0, 0, 0, [], 0, 0) 213 593 := X_at (r := mi213) rfl rfl
set_option maxRecDepth 20000 in
theorem x213_594 {z : P0} : X z 213 594 = XI mT z (X z) (.if_icmp .ne 29, 3, 623, 0, 0, [], 0, 0) 213 594 := X_at (r := mi213) rfl rfl
set_option maxRecDepth 20000 in
theorem x213_597 {z : P0} : X z 213 597 = XI mT z (X z) (.aload_n 0, 1, 0, 0, 0, [], 0, 0) 213 597 := X_at (r := mi213) rfl rfl
set_option maxRecDepth 20000 in
theorem x213_598 {z : P0} : X z 213 598 = XI mT z (X z) (.bipush 11, 2, 0, 0, 0, [], nI 11, 0) 213 598 := X_at (r := mi213) rfl rfl
set_option maxRecDepth 20000 in
theorem x213_600 {z : P0} : X z 213 600 = XI mT z (X z) (.invokevirtual 131, 3, 1, 77, 0, [124], 0, 0) 213 600 := X_at (r := mi213) rfl rfl
set_option maxRecDepth 20000 in
theorem x213_603 {z : P0} : X z 213 603 = XI mT z (X z) (.aload_n 2, 1, 2, 0, 0, [], 0, 0) 213 603 := X_at (r := mi213) rfl rfl
set_option maxRecDepth 20000 in
theorem x213_604 {z : P0} : X z 213 604 = XI mT z (X z) (.bipush 6, 2, 0, 0, 0, [], nI 6, 0) 213 604 := X_at (r := mi213) rfl rfl
set_option maxRecDepth 20000 in
theorem x213_606 {z : P0} : X z 213 606 = XI mT z (X z) (.iaload, 1, 0, 0, 0, [], 0, 0) 213 606 := X_at (r := mi213) rfl rfl
set_option maxRecDepth 20000 in
theorem x213_607 {z : P0} : X z 213 607 = XI mT z (X z) (.if_icmp .ne 16, 3, 623, 0, 0, [], 0, 0) 213 607 := X_at (r := mi213) rfl rfl
set_option maxRecDepth 20000 in
theorem x213_610 {z : P0} : X z 213 610 = XI mT z (X z) (.aload_n 0, 1, 0, 0, 0, [], 0, 0) 213 610 := X_at (r := mi213) rfl rfl
set_option maxRecDepth 20000 in
theorem x213_611 {z : P0} : X z 213 611 = XI mT z (X z) (.bipush 14, 2, 0, 0, 0, [], nI 14, 0) 213 611 := X_at (r := mi213) rfl rfl
set_option maxRecDepth 20000 in
theorem x213_613 {z : P0} : X z 213 613 = XI mT z (X z) (.invokevirtual 131, 3, 1, 77, 0, [124], 0, 0) 213 613 := X_at (r := mi213) rfl rfl
set_option maxRecDepth 20000 in
theorem x213_616 {z : P0} : X z 213 616 = XI mT z (X z) (.aload_n 2, 1, 2, 0, 0, [], 0, 0) 213 616 := X_at (r := mi213) rfl rfl
set_option maxRecDepth 20000 in
theorem x213_617 {z : P0} : X z 213 617 = XI mT z (X z) (.bipush 7, 2, 0, 0, 0, [], nI 7, 0) 213 617 := X_at (r := mi213) rfl rfl
set_option maxRecDepth 20000 in
theorem x213_619 {z : P0} : X z 213 619 = XI mT z (X z) (.iaload, 1, 0, 0, 0, [], 0, 0) 213 619 := X_at (r := mi213) rfl rfl
set_option maxRecDepth 20000 in
theorem x213_620 {z : P0} : X z 213 620 = XI mT z (X z) (.if_icmp .eq 5, 3, 625, 0, 0, [], 0, 0) 213 620 := X_at (r := mi213) rfl rfl
set_option maxRecDepth 20000 in
theorem x213_623 {z : P0} : X z 213 623 = XI mT z (X z) (.iconst 0, 1, 0, 0, 0, [], nI 0, 0) 213 623 := X_at (r := mi213) rfl rfl
set_option maxRecDepth 20000 in
theorem x213_624 {z : P0} : X z 213 624 = XI mT z (X z) (.ireturn, 1, 0, 0, 0, [], 0, 0) 213 624 := X_at (r := mi213) rfl rfl
set_option maxRecDepth 20000 in
theorem x213_625 {z : P0} : X z 213 625 = XI mT z (X z) (.iload_n 1, 1, 1, 0, 0, [], 0, 0) 213 625 := X_at (r := mi213) rfl rfl
set_option maxRecDepth 20000 in
theorem x213_626 {z : P0} : X z 213 626 = XI mT z (X z) (.ifCond .eq 14, 3, 640, 0, 0, [], 0, 0) 213 626 := X_at (r := mi213) rfl rfl
set_option maxRecDepth 20000 in
theorem x213_629 {z : P0} : X z 213 629 = XI mT z (X z) (.iload 14, 2, 14, 0, 0, [], 0, 0) 213 629 := X_at (r := mi213) rfl rfl
set_option maxRecDepth 20000 in
theorem x213_631 {z : P0} : X z 213 631 = XI mT z (X z) (.ifCond .eq 9, 3, 640, 0, 0, [], 0, 0) 213 631 := X_at (r := mi213) rfl rfl
set_option maxRecDepth 20000 in
theorem x213_634 {z : P0} : X z 213 634 = XI mT z (X z) (.aload_n 2, 1, 2, 0, 0, [], 0, 0) 213 634 := X_at (r := mi213) rfl rfl
set_option maxRecDepth 20000 in
theorem x213_635 {z : P0} : X z 213 635 = XI mT z (X z) (.iconst 2, 1, 0, 0, 0, [], nI 2, 0) 213 635 := X_at (r := mi213) rfl rfl
set_option maxRecDepth 20000 in
theorem x213_636 {z : P0} : X z 213 636 = XI mT z (X z) (.iaload, 1, 0, 0, 0, [], 0, 0) 213 636 := X_at (r := mi213) rfl rfl
set_option maxRecDepth 20000 in
theorem x213_637 {z : P0} : X z 213 637 = XI mT z (X z) (.ifCond .ne 5, 3, 642, 0, 0, [], 0, 0) 213 637 := X_at (r := mi213) rfl rfl
set_option maxRecDepth 20000 in
theorem x213_640 {z : P0} : X z 213 640 = XI mT z (X z) (.iconst 1, 1, 0, 0, 0, [], nI 1, 0) 213 640 := X_at (r := mi213) rfl rfl
set_option maxRecDepth 20000 in
theorem x213_641 {z : P0} : X z 213 641 = XI mT z (X z) (.ireturn, 1, 0, 0, 0, [], 0, 0) 213 641 := X_at (r := mi213) rfl rfl
set_option maxRecDepth 20000 in
theorem x213_642 {z : P0} : X z 213 642 = XI mT z (X z) (.iconst 0, 1, 0, 0, 0, [], nI 0, 0) 213 642 := X_at (r := mi213) rfl rfl
set_option maxRecDepth 20000 in
theorem x213_643 {z : P0} : X z 213 643 = XI mT z (X z) (.istore 18, 2, 18, 0, 0, [], 0, 0) 213 643 := X_at (r := mi213) rfl rfl
set_option maxRecDepth 20000 in
theorem x213_645 {z : P0} : X z 213 645 = XI mT z (X z) (.iload 18, 2, 18, 0, 0, [], 0, 0) 213 645 := X_at (r := mi213) rfl rfl
set_option maxRecDepth 20000 in
theorem x213_647 {z : P0} : X z 213 647 = XI mT z (X z) (.aload_n 2, 1, 2, 0, 0, [], 0, 0) 213 647 := X_at (r := mi213) rfl rfl
set_option maxRecDepth 20000 in
theorem x213_648 {z : P0} : X z 213 648 = XI mT z (X z) (.iconst 0, 1, 0, 0, 0, [], nI 0, 0) 213 648 := X_at (r := mi213) rfl rfl
set_option maxRecDepth 20000 in
theorem x213_649 {z : P0} : X z 213 649 = XI mT z (X z) (.iaload, 1, 0, 0, 0, [], 0, 0) 213 649 := X_at (r := mi213) rfl rfl
set_option maxRecDepth 20000 in
theorem x213_650 {z : P0} : X z 213 650 = XI mT z (X z) (.if_icmp .ge 37, 3, 687, 0, 0, [], 0, 0) 213 650 := X_at (r := mi213) rfl rfl
set_option maxRecDepth 20000 in
theorem x213_653 {z : P0} : X z 213 653 = XI mT z (X z) (.iload 17, 2, 17, 0, 0, [], 0, 0) 213 653 := X_at (r := mi213) rfl rfl
set_option maxRecDepth 20000 in
theorem x213_655 {z : P0} : X z 213 655 = XI mT z (X z) (.iload 18, 2, 18, 0, 0, [], 0, 0) 213 655 := X_at (r := mi213) rfl rfl
set_option maxRecDepth 20000 in
theorem x213_657 {z : P0} : X z 213 657 = XI mT z (X z) (.ishr, 1, 0, 0, 0, [], 0, 0) 213 657 := X_at (r := mi213) rfl rfl
set_option maxRecDepth 20000 in
theorem x213_658 {z : P0} : X z 213 658 = XI mT z (X z) (.iconst 1, 1, 0, 0, 0, [], nI 1, 0) 213 658 := X_at (r := mi213) rfl rfl
set_option maxRecDepth 20000 in
theorem x213_659 {z : P0} : X z 213 659 = XI mT z (X z) (.iand, 1, 0, 0, 0, [], 0, 0) 213 659 := X_at (r := mi213) rfl rfl
set_option maxRecDepth 20000 in
theorem x213_660 {z : P0} : X z 213 660 = XI mT z (X z) (.iconst 1, 1, 0, 0, 0, [], nI 1, 0) 213 660 := X_at (r := mi213) rfl rfl
set_option maxRecDepth 20000 in
theorem x213_661 {z : P0} : X z 213 661 = XI mT z (X z) (.if_icmp .ne 20, 3, 681, 0, 0, [], 0, 0) 213 661 := X_at (r := mi213) rfl rfl
set_option maxRecDepth 20000 in
theorem x213_664 {z : P0} : X z 213 664 = XI mT z (X z) (.aload 7, 2, 7, 0, 0, [], 0, 0) 213 664 := X_at (r := mi213) rfl rfl
set_option maxRecDepth 20000 in
theorem x213_666 {z : P0} : X z 213 666 = XI mT z (X z) (.iload 18, 2, 18, 0, 0, [], 0, 0) 213 666 := X_at (r := mi213) rfl rfl
set_option maxRecDepth 20000 in
theorem x213_668 {z : P0} : X z 213 668 = XI mT z (X z) (.aload_n 2, 1, 2, 0, 0, [], 0, 0) 213 668 := X_at (r := mi213) rfl rfl
set_option maxRecDepth 20000 in
theorem x213_669 {z : P0} : X z 213 669 = XI mT z (X z) (.iconst 3, 1, 0, 0, 0, [], nI 3, 0) 213 669 := X_at (r := mi213) rfl rfl
set_option maxRecDepth 20000 in
theorem x213_670 {z : P0} : X z 213 670 = XI mT z (X z) (.iaload, 1, 0, 0, 0, [], 0, 0) 213 670 := X_at (r := mi213) rfl rfl
set_option maxRecDepth 20000 in
theorem x213_671 {z : P0} : X z 213 671 = XI mT z (X z) (.iastore, 1, 0, 0, 0, [], 0, 0) 213 671 := X_at (r := mi213) rfl rfl
set_option maxRecDepth 20000 in
theorem x213_672 {z : P0} : X z 213 672 = XI mT z (X z) (.aload 8, 2, 8, 0, 0, [], 0, 0) 213 672 := X_at (r := mi213) rfl rfl
set_option maxRecDepth 20000 in
theorem x213_674 {z : P0} : X z 213 674 = XI mT z (X z) (.iload 18, 2, 18, 0, 0, [], 0, 0) 213 674 := X_at (r := mi213) rfl rfl
set_option maxRecDepth 20000 in
theorem x213_676 {z : P0} : X z 213 676 = XI mT z (X z) (.dup2, 1, 0, 0, 0, [], 0, 0) 213 676 := X_at (r := mi213) rfl rfl
set_option maxRecDepth 20000 in
theorem x213_677 {z : P0} : X z 213 677 = XI mT z (X z) (.iaload, 1, 0, 0, 0, [], 0, 0) 213 677 := X_at (r := mi213) rfl rfl
set_option maxRecDepth 20000 in
theorem x213_678 {z : P0} : X z 213 678 = XI mT z (X z) (.iconst 1, 1, 0, 0, 0, [], nI 1, 0) 213 678 := X_at (r := mi213) rfl rfl
set_option maxRecDepth 20000 in
theorem x213_679 {z : P0} : X z 213 679 = XI mT z (X z) (.iadd, 1, 0, 0, 0, [], 0, 0) 213 679 := X_at (r := mi213) rfl rfl
set_option maxRecDepth 20000 in
theorem x213_680 {z : P0} : X z 213 680 = XI mT z (X z) (.iastore, 1, 0, 0, 0, [], 0, 0) 213 680 := X_at (r := mi213) rfl rfl
set_option maxRecDepth 20000 in
theorem x213_681 {z : P0} : X z 213 681 = XI mT z (X z) (.iinc 18 1, 3, 18, 0, 0, [], nI 1, 0) 213 681 := X_at (r := mi213) rfl rfl
set_option maxRecDepth 20000 in
theorem x213_684 {z : P0} : X z 213 684 = XI mT z (X z) (.goto (-39), 3, 645, 0, 0, [], 0, 0) 213 684 := X_at (r := mi213) rfl rfl
set_option maxRecDepth 20000 in
theorem x213_687 {z : P0} : X z 213 687 = XI mT z (X z) (.aload_n 2, 1, 2, 0, 0, [], 0, 0) 213 687 := X_at (r := mi213) rfl rfl
set_option maxRecDepth 20000 in
theorem x213_688 {z : P0} : X z 213 688 = XI mT z (X z) (.iconst 4, 1, 0, 0, 0, [], nI 4, 0) 213 688 := X_at (r := mi213) rfl rfl
set_option maxRecDepth 20000 in
theorem x213_689 {z : P0} : X z 213 689 = XI mT z (X z) (.dup2, 1, 0, 0, 0, [], 0, 0) 213 689 := X_at (r := mi213) rfl rfl
set_option maxRecDepth 20000 in
theorem x213_690 {z : P0} : X z 213 690 = XI mT z (X z) (.iaload, 1, 0, 0, 0, [], 0, 0) 213 690 := X_at (r := mi213) rfl rfl
set_option maxRecDepth 20000 in
theorem x213_691 {z : P0} : X z 213 691 = XI mT z (X z) (.iload 14, 2, 14, 0, 0, [], 0, 0) 213 691 := X_at (r := mi213) rfl rfl
set_option maxRecDepth 20000 in
theorem x213_693 {z : P0} : X z 213 693 = XI mT z (X z) (.iadd, 1, 0, 0, 0, [], 0, 0) 213 693 := X_at (r := mi213) rfl rfl
set_option maxRecDepth 20000 in
theorem x213_694 {z : P0} : X z 213 694 = XI mT z (X z) (.iastore, 1, 0, 0, 0, [], 0, 0) 213 694 := X_at (r := mi213) rfl rfl
set_option maxRecDepth 20000 in
theorem x213_695 {z : P0} : X z 213 695 = XI mT z (X z) (.aload_n 2, 1, 2, 0, 0, [], 0, 0) 213 695 := X_at (r := mi213) rfl rfl
set_option maxRecDepth 20000 in
theorem x213_696 {z : P0} : X z 213 696 = XI mT z (X z) (.iconst 5, 1, 0, 0, 0, [], nI 5, 0) 213 696 := X_at (r := mi213) rfl rfl
set_option maxRecDepth 20000 in
theorem x213_697 {z : P0} : X z 213 697 = XI mT z (X z) (.dup2, 1, 0, 0, 0, [], 0, 0) 213 697 := X_at (r := mi213) rfl rfl
set_option maxRecDepth 20000 in
theorem x213_698 {z : P0} : X z 213 698 = XI mT z (X z) (.iaload, 1, 0, 0, 0, [], 0, 0) 213 698 := X_at (r := mi213) rfl rfl
set_option maxRecDepth 20000 in
theorem x213_699 {z : P0} : X z 213 699 = XI mT z (X z) (.iload 16, 2, 16, 0, 0, [], 0, 0) 213 699 := X_at (r := mi213) rfl rfl
set_option maxRecDepth 20000 in
theorem x213_701 {z : P0} : X z 213 701 = XI mT z (X z) (.iadd, 1, 0, 0, 0, [], 0, 0) 213 701 := X_at (r := mi213) rfl rfl
set_option maxRecDepth 20000 in
theorem x213_702 {z : P0} : X z 213 702 = XI mT z (X z) (.iastore, 1, 0, 0, 0, [], 0, 0) 213 702 := X_at (r := mi213) rfl rfl
set_option maxRecDepth 20000 in
theorem x213_703 {z : P0} : X z 213 703 = XI mT z (X z) (.aload_n 2, 1, 2, 0, 0, [], 0, 0) 213 703 := X_at (r := mi213) rfl rfl
set_option maxRecDepth 20000 in
theorem x213_704 {z : P0} : X z 213 704 = XI mT z (X z) (.bipush 6, 2, 0, 0, 0, [], nI 6, 0) 213 704 := X_at (r := mi213) rfl rfl
set_option maxRecDepth 20000 in
theorem x213_706 {z : P0} : X z 213 706 = XI mT z (X z) (.dup2, 1, 0, 0, 0, [], 0, 0) 213 706 := X_at (r := mi213) rfl rfl
set_option maxRecDepth 20000 in
theorem x213_707 {z : P0} : X z 213 707 = XI mT z (X z) (.iaload, 1, 0, 0, 0, [], 0, 0) 213 707 := X_at (r := mi213) rfl rfl
set_option maxRecDepth 20000 in
theorem x213_708 {z : P0} : X z 213 708 = XI mT z (X z) (.iload 16, 2, 16, 0, 0, [], 0, 0) 213 708 := X_at (r := mi213) rfl rfl
set_option maxRecDepth 20000 in
theorem x213_710 {z : P0} : X z 213 710 = XI mT z (X z) (.aload_n 2, 1, 2, 0, 0, [], 0, 0) 213 710 := X_at (r := mi213) rfl rfl
set_option maxRecDepth 20000 in
theorem x213_711 {z : P0} : X z 213 711 = XI mT z (X z) (.bipush 13, 2, 0, 0, 0, [], nI 13, 0) 213 711 := X_at (r := mi213) rfl rfl
set_option maxRecDepth 20000 in
theorem x213_713 {z : P0} : X z 213 713 = XI mT z (X z) (.iaload, 1, 0, 0, 0, [], 0, 0) 213 713 := X_at (r := mi213) rfl rfl
set_option maxRecDepth 20000 in
theorem x213_714 {z : P0} : X z 213 714 = XI mT z (X z) (.imul, 1, 0, 0, 0, [], 0, 0) 213 714 := X_at (r := mi213) rfl rfl
set_option maxRecDepth 20000 in
theorem x213_715 {z : P0} : X z 213 715 = XI mT z (X z) (.iadd, 1, 0, 0, 0, [], 0, 0) 213 715 := X_at (r := mi213) rfl rfl
set_option maxRecDepth 20000 in
theorem x213_716 {z : P0} : X z 213 716 = XI mT z (X z) (.iastore, 1, 0, 0, 0, [], 0, 0) 213 716 := X_at (r := mi213) rfl rfl
set_option maxRecDepth 20000 in
theorem x213_717 {z : P0} : X z 213 717 = XI mT z (X z) (.aload_n 2, 1, 2, 0, 0, [], 0, 0) 213 717 := X_at (r := mi213) rfl rfl
set_option maxRecDepth 20000 in
theorem x213_718 {z : P0} : X z 213 718 = XI mT z (X z) (.bipush 7, 2, 0, 0, 0, [], nI 7, 0) 213 718 := X_at (r := mi213) rfl rfl
set_option maxRecDepth 20000 in
theorem x213_720 {z : P0} : X z 213 720 = XI mT z (X z) (.iaload, 1, 0, 0, 0, [], 0, 0) 213 720 := X_at (r := mi213) rfl rfl
set_option maxRecDepth 20000 in
theorem x213_721 {z : P0} : X z 213 721 = XI mT z (X z) (.bipush 6, 2, 0, 0, 0, [], nI 6, 0) 213 721 := X_at (r := mi213) rfl rfl
set_option maxRecDepth 20000 in
theorem x213_723 {z : P0} : X z 213 723 = XI mT z (X z) (.if_icmp .ge 11, 3, 734, 0, 0, [], 0, 0) 213 723 := X_at (r := mi213) rfl rfl
set_option maxRecDepth 20000 in
theorem x213_726 {z : P0} : X z 213 726 = XI mT z (X z) (.aload_n 2, 1, 2, 0, 0, [], 0, 0) 213 726 := X_at (r := mi213) rfl rfl
set_option maxRecDepth 20000 in
theorem x213_727 {z : P0} : X z 213 727 = XI mT z (X z) (.bipush 7, 2, 0, 0, 0, [], nI 7, 0) 213 727 := X_at (r := mi213) rfl rfl
set_option maxRecDepth 20000 in
theorem x213_729 {z : P0} : X z 213 729 = XI mT z (X z) (.dup2, 1, 0, 0, 0, [], 0, 0) 213 729 := X_at (r := mi213) rfl rfl
set_option maxRecDepth 20000 in
theorem x213_730 {z : P0} : X z 213 730 = XI mT z (X z) (.iaload, 1, 0, 0, 0, [], 0, 0) 213 730 := X_at (r := mi213) rfl rfl
set_option maxRecDepth 20000 in
theorem x213_731 {z : P0} : X z 213 731 = XI mT z (X z) (.iconst 1, 1, 0, 0, 0, [], nI 1, 0) 213 731 := X_at (r := mi213) rfl rfl
set_option maxRecDepth 20000 in
theorem x213_732 {z : P0} : X z 213 732 = XI mT z (X z) (.iadd, 1, 0, 0, 0, [], 0, 0) 213 732 := X_at (r := mi213) rfl rfl
set_option maxRecDepth 20000 in
theorem x213_733 {z : P0} : X z 213 733 = XI mT z (X z) (.iastore, 1, 0, 0, 0, [], 0, 0) 213 733 := X_at (r := mi213) rfl rfl
set_option maxRecDepth 20000 in
theorem x213_734 {z : P0} : X z 213 734 = XI mT z (X z) (.aload_n 0, 1, 0, 0, 0, [], 0, 0) 213 734 := X_at (r := mi213) rfl rfl
set_option maxRecDepth 20000 in
theorem x213_735 {z : P0} : X z 213 735 = XI mT z (X z) (.invokevirtual 134, 3, 0, 65, 0, [125], 0, 0) 213 735 := X_at (r := mi213) rfl rfl
set_option maxRecDepth 20000 in
theorem x213_738 {z : P0} : X z 213 738 = XI mT z (X z) (.iload 14, 2, 14, 0, 0, [], 0, 0) 213 738 := X_at (r := mi213) rfl rfl
set_option maxRecDepth 20000 in
theorem x213_740 {z : P0} : X z 213 740 = XI mT z (X z) (.if_icmp .ne 7, 3, 747, 0, 0, [], 0, 0) 213 740 := X_at (r := mi213) rfl rfl
set_option maxRecDepth 20000 in
theorem x213_743 {z : P0} : X z 213 743 = XI mT z (X z) (.iconst 1, 1, 0, 0, 0, [], nI 1, 0) 213 743 := X_at (r := mi213) rfl rfl
set_option maxRecDepth 20000 in
theorem x213_744 {z : P0} : X z 213 744 = XI mT z (X z) (.goto 4, 3, 748, 0, 0, [], 0, 0) 213 744 := X_at (r := mi213) rfl rfl
set_option maxRecDepth 20000 in
theorem x213_747 {z : P0} : X z 213 747 = XI mT z (X z) (.iconst 0, 1, 0, 0, 0, [], nI 0, 0) 213 747 := X_at (r := mi213) rfl rfl
set_option maxRecDepth 20000 in
theorem x213_748 {z : P0} : X z 213 748 = XI mT z (X z) (.ireturn, 1, 0, 0, 0, [], 0, 0) 213 748 := X_at (r := mi213) rfl rfl
theorem x214_0 {z : P0} : X z 214 0 = XI mT z (X z) (.new 9, 3, 10, 6, 0, [24], 0, 0) 214 0 := X_at (r := mi214) rfl rfl
theorem x214_3 {z : P0} : X z 214 3 = XI mT z (X z) (.dup, 1, 0, 0, 0, [], 0, 0) 214 3 := X_at (r := mi214) rfl rfl
theorem x214_4 {z : P0} : X z 214 4 = XI mT z (X z) (.invokespecial 137, 3, 0, 57, 0, [126], 0, 0) 214 4 := X_at (r := mi214) rfl rfl
theorem x214_7 {z : P0} : X z 214 7 = XI mT z (X z) (.astore_n 1, 1, 1, 0, 0, [], 0, 0) 214 7 := X_at (r := mi214) rfl rfl
theorem x214_8 {z : P0} : X z 214 8 = XI mT z (X z) (.bipush 15, 2, 0, 0, 0, [], nI 15, 0) 214 8 := X_at (r := mi214) rfl rfl
theorem x214_10 {z : P0} : X z 214 10 = XI mT z (X z) (.newarray .int, 2, 20, 0, 0, [], 0, 0) 214 10 := X_at (r := mi214) rfl rfl
theorem x214_12 {z : P0} : X z 214 12 = XI mT z (X z) (.astore_n 2, 1, 2, 0, 0, [], 0, 0) 214 12 := X_at (r := mi214) rfl rfl
theorem x214_13 {z : P0} : X z 214 13 = XI mT z (X z) (.bipush 20, 2, 0, 0, 0, [], nI 20, 0) 214 13 := X_at (r := mi214) rfl rfl
theorem x214_15 {z : P0} : X z 214 15 = XI mT z (X z) (.newarray .int, 2, 20, 0, 0, [], 0, 0) 214 15 := X_at (r := mi214) rfl rfl
theorem x214_17 {z : P0} : X z 214 17 = XI mT z (X z) (.astore_n 3, 1, 3, 0, 0, [], 0, 0) 214 17 := X_at (r := mi214) rfl rfl
theorem x214_18 {z : P0} : X z 214 18 = XI mT z (X z) (.bipush 20, 2, 0, 0, 0, [], nI 20, 0) 214 18 := X_at (r := mi214) rfl rfl
theorem x214_20 {z : P0} : X z 214 20 = XI mT z (X z) (.newarray .int, 2, 20, 0, 0, [], 0, 0) 214 20 := X_at (r := mi214) rfl rfl
theorem x214_22 {z : P0} : X z 214 22 = XI mT z (X z) (.astore 4, 2, 4, 0, 0, [], 0, 0) 214 22 := X_at (r := mi214) rfl rfl
theorem x214_24 {z : P0} : X z 214 24 = XI mT z (X z) (.bipush 20, 2, 0, 0, 0, [], nI 20, 0) 214 24 := X_at (r := mi214) rfl rfl
theorem x214_26 {z : P0} : X z 214 26 = XI mT z (X z) (.newarray .int, 2, 20, 0, 0, [], 0, 0) 214 26 := X_at (r := mi214) rfl rfl
theorem x214_28 {z : P0} : X z 214 28 = XI mT z (X z) (.astore 5, 2, 5, 0, 0, [], 0, 0) 214 28 := X_at (r := mi214) rfl rfl
theorem x214_30 {z : P0} : X z 214 30 = XI mT z (X z) (.bipush 20, 2, 0, 0, 0, [], nI 20, 0) 214 30 := X_at (r := mi214) rfl rfl
theorem x214_32 {z : P0} : X z 214 32 = XI mT z (X z) (.newarray .int, 2, 20, 0, 0, [], 0, 0) 214 32 := X_at (r := mi214) rfl rfl
theorem x214_34 {z : P0} : X z 214 34 = XI mT z (X z) (.astore 6, 2, 6, 0, 0, [], 0, 0) 214 34 := X_at (r := mi214) rfl rfl
theorem x214_36 {z : P0} : X z 214 36 = XI mT z (X z) (.bipush 20, 2, 0, 0, 0, [], nI 20, 0) 214 36 := X_at (r := mi214) rfl rfl
theorem x214_38 {z : P0} : X z 214 38 = XI mT z (X z) (.newarray .int, 2, 20, 0, 0, [], 0, 0) 214 38 := X_at (r := mi214) rfl rfl
theorem x214_40 {z : P0} : X z 214 40 = XI mT z (X z) (.astore 7, 2, 7, 0, 0, [], 0, 0) 214 40 := X_at (r := mi214) rfl rfl
theorem x214_42 {z : P0} : X z 214 42 = XI mT z (X z) (.bipush 20, 2, 0, 0, 0, [], nI 20, 0) 214 42 := X_at (r := mi214) rfl rfl
theorem x214_44 {z : P0} : X z 214 44 = XI mT z (X z) (.newarray .int, 2, 20, 0, 0, [], 0, 0) 214 44 := X_at (r := mi214) rfl rfl
theorem x214_46 {z : P0} : X z 214 46 = XI mT z (X z) (.astore 8, 2, 8, 0, 0, [], 0, 0) 214 46 := X_at (r := mi214) rfl rfl
theorem x214_48 {z : P0} : X z 214 48 = XI mT z (X z) (.bipush 20, 2, 0, 0, 0, [], nI 20, 0) 214 48 := X_at (r := mi214) rfl rfl
theorem x214_50 {z : P0} : X z 214 50 = XI mT z (X z) (.newarray .int, 2, 20, 0, 0, [], 0, 0) 214 50 := X_at (r := mi214) rfl rfl
theorem x214_52 {z : P0} : X z 214 52 = XI mT z (X z) (.astore 9, 2, 9, 0, 0, [], 0, 0) 214 52 := X_at (r := mi214) rfl rfl
theorem x214_54 {z : P0} : X z 214 54 = XI mT z (X z) (.bipush 10, 2, 0, 0, 0, [], nI 10, 0) 214 54 := X_at (r := mi214) rfl rfl
theorem x214_56 {z : P0} : X z 214 56 = XI mT z (X z) (.newarray .int, 2, 20, 0, 0, [], 0, 0) 214 56 := X_at (r := mi214) rfl rfl
theorem x214_58 {z : P0} : X z 214 58 = XI mT z (X z) (.astore 10, 2, 10, 0, 0, [], 0, 0) 214 58 := X_at (r := mi214) rfl rfl
theorem x214_60 {z : P0} : X z 214 60 = XI mT z (X z) (.bipush 24, 2, 0, 0, 0, [], nI 24, 0) 214 60 := X_at (r := mi214) rfl rfl
theorem x214_62 {z : P0} : X z 214 62 = XI mT z (X z) (.newarray .int, 2, 20, 0, 0, [], 0, 0) 214 62 := X_at (r := mi214) rfl rfl
theorem x214_64 {z : P0} : X z 214 64 = XI mT z (X z) (.astore 11, 2, 11, 0, 0, [], 0, 0) 214 64 := X_at (r := mi214) rfl rfl
theorem x214_66 {z : P0} : X z 214 66 = XI mT z (X z) (.bipush 20, 2, 0, 0, 0, [], nI 20, 0) 214 66 := X_at (r := mi214) rfl rfl
theorem x214_68 {z : P0} : X z 214 68 = XI mT z (X z) (.newarray .int, 2, 20, 0, 0, [], 0, 0) 214 68 := X_at (r := mi214) rfl rfl
theorem x214_70 {z : P0} : X z 214 70 = XI mT z (X z) (.astore 12, 2, 12, 0, 0, [], 0, 0) 214 70 := X_at (r := mi214) rfl rfl
theorem x214_72 {z : P0} : X z 214 72 = XI mT z (X z) (.aload_n 2, 1, 2, 0, 0, [], 0, 0) 214 72 := X_at (r := mi214) rfl rfl
theorem x214_73 {z : P0} : X z 214 73 = XI mT z (X z) (.bipush 8, 2, 0, 0, 0, [], nI 8, 0) 214 73 := X_at (r := mi214) rfl rfl
theorem x214_75 {z : P0} : X z 214 75 = XI mT z (X z) (.bipush 20, 2, 0, 0, 0, [], nI 20, 0) 214 75 := X_at (r := mi214) rfl rfl
theorem x214_77 {z : P0} : X z 214 77 = XI mT z (X z) (.iastore, 1, 0, 0, 0, [], 0, 0) 214 77 := X_at (r := mi214) rfl rfl
theorem x214_78 {z : P0} : X z 214 78 = XI mT z (X z) (.aload_n 2, 1, 2, 0, 0, [], 0, 0) 214 78 := X_at (r := mi214) rfl rfl
theorem x214_79 {z : P0} : X z 214 79 = XI mT z (X z) (.bipush 9, 2, 0, 0, 0, [], nI 9, 0) 214 79 := X_at (r := mi214) rfl rfl
theorem x214_81 {z : P0} : X z 214 81 = XI mT z (X z) (.iconst 5, 1, 0, 0, 0, [], nI 5, 0) 214 81 := X_at (r := mi214) rfl rfl
theorem x214_82 {z : P0} : X z 214 82 = XI mT z (X z) (.iastore, 1, 0, 0, 0, [], 0, 0) 214 82 := X_at (r := mi214) rfl rfl
theorem x214_83 {z : P0} : X z 214 83 = XI mT z (X z) (.aload_n 2, 1, 2, 0, 0, [], 0, 0) 214 83 := X_at (r := mi214) rfl rfl
theorem x214_84 {z : P0} : X z 214 84 = XI mT z (X z) (.bipush 10, 2, 0, 0, 0, [], nI 10, 0) 214 84 := X_at (r := mi214) rfl rfl
theorem x214_86 {z : P0} : X z 214 86 = XI mT z (X z) (.iconst 4, 1, 0, 0, 0, [], nI 4, 0) 214 86 := X_at (r := mi214) rfl rfl
theorem x214_87 {z : P0} : X z 214 87 = XI mT z (X z) (.iastore, 1, 0, 0, 0, [], 0, 0) 214 87 := X_at (r := mi214) rfl rfl
theorem x214_88 {z : P0} : X z 214 88 = XI mT z (X z) (.aload_n 2, 1, 2, 0, 0, [], 0, 0) 214 88 := X_at (r := mi214) rfl rfl
theorem x214_89 {z : P0} : X z 214 89 = XI mT z (X z) (.bipush 11, 2, 0, 0, 0, [], nI 11, 0) 214 89 := X_at (r := mi214) rfl rfl
theorem x214_91 {z : P0} : X z 214 91 = XI mT z (X z) (.bipush 7, 2, 0, 0, 0, [], nI 7, 0) 214 91 := X_at (r := mi214) rfl rfl
theorem x214_93 {z : P0} : X z 214 93 = XI mT z (X z) (.iastore, 1, 0, 0, 0, [], 0, 0) 214 93 := X_at (r := mi214) rfl rfl
theorem x214_94 {z : P0} : X z 214 94 = XI mT z (X z) (.aload_n 2, 1, 2, 0, 0, [], 0, 0) 214 94 := X_at (r := mi214) rfl rfl
theorem x214_95 {z : P0} : X z 214 95 = XI mT z (X z) (.bipush 12, 2, 0, 0, 0, [], nI 12, 0) 214 95 := X_at (r := mi214) rfl rfl
theorem x214_97 {z : P0} : X z 214 97 = XI mT z (X z) (.iconst 3, 1, 0, 0, 0, [], nI 3, 0) 214 97 := X_at (r := mi214) rfl rfl
theorem x214_98 {z : P0} : X z 214 98 = XI mT z (X z) (.iastore, 1, 0, 0, 0, [], 0, 0) 214 98 := X_at (r := mi214) rfl rfl
theorem x214_99 {z : P0} : X z 214 99 = XI mT z (X z) (.aload_n 2, 1, 2, 0, 0, [], 0, 0) 214 99 := X_at (r := mi214) rfl rfl
theorem x214_100 {z : P0} : X z 214 100 = XI mT z (X z) (.bipush 13, 2, 0, 0, 0, [], nI 13, 0) 214 100 := X_at (r := mi214) rfl rfl
theorem x214_102 {z : P0} : X z 214 102 = XI mT z (X z) (.iconst 4, 1, 0, 0, 0, [], nI 4, 0) 214 102 := X_at (r := mi214) rfl rfl
theorem x214_103 {z : P0} : X z 214 103 = XI mT z (X z) (.iastore, 1, 0, 0, 0, [], 0, 0) 214 103 := X_at (r := mi214) rfl rfl
theorem x214_104 {z : P0} : X z 214 104 = XI mT z (X z) (.iconst 0, 1, 0, 0, 0, [], nI 0, 0) 214 104 := X_at (r := mi214) rfl rfl
theorem x214_105 {z : P0} : X z 214 105 = XI mT z (X z) (.istore 13, 2, 13, 0, 0, [], 0, 0) 214 105 := X_at (r := mi214) rfl rfl
theorem x214_107 {z : P0} : X z 214 107 = XI mT z (X z) (.iload 13, 2, 13, 0, 0, [], 0, 0) 214 107 := X_at (r := mi214) rfl rfl
theorem x214_109 {z : P0} : X z 214 109 = XI mT z (X z) (.bipush 30, 2, 0, 0, 0, [], nI 30, 0) 214 109 := X_at (r := mi214) rfl rfl
theorem x214_111 {z : P0} : X z 214 111 = XI mT z (X z) (.if_icmp .ge 131, 3, 242, 0, 0, [], 0, 0) 214 111 := X_at (r := mi214) rfl rfl
theorem x214_114 {z : P0} : X z 214 114 = XI mT z (X z) (.aload_n 0, 1, 0, 0, 0, [], 0, 0) 214 114 := X_at (r := mi214) rfl rfl
theorem x214_115 {z : P0} : X z 214 115 = XI mT z (X z) (.iconst 2, 1, 0, 0, 0, [], nI 2, 0) 214 115 := X_at (r := mi214) rfl rfl
theorem x214_116 {z : P0} : X z 214 116 = XI mT z (X z) (.iload 13, 2, 13, 0, 0, [], 0, 0) 214 116 := X_at (r := mi214) rfl rfl
theorem x214_118 {z : P0} : X z 214 118 = XI mT z (X z) (.imul, 1, 0, 0, 0, [], 0, 0) 214 118 := X_at (r := mi214) rfl rfl
theorem x214_119 {z : P0} : X z 214 119 = XI mT z (X z) (.invokestatic 138, 3, 2, 192, 0, [127], 0, 0) 214 119 := X_at (r := mi214) rfl rfl
theorem x214_122 {z : P0} : X z 214 122 = XI mT z (X z) (.istore 14, 2, 14, 0, 0, [], 0, 0) 214 122 := X_at (r := mi214) rfl rfl
theorem x214_124 {z : P0} : X z 214 124 = XI mT z (X z) (.aload_n 0, 1, 0, 0, 0, [], 0, 0) 214 124 := X_at (r := mi214) rfl rfl
theorem x214_125 {z : P0} : X z 214 125 = XI mT z (X z) (.iconst 2, 1, 0, 0, 0, [], nI 2, 0) 214 125 := X_at (r := mi214) rfl rfl
theorem x214_126 {z : P0} : X z 214 126 = XI mT z (X z) (.iload 13, 2, 13, 0, 0, [], 0, 0) 214 126 := X_at (r := mi214) rfl rfl
theorem x214_128 {z : P0} : X z 214 128 = XI mT z (X z) (.imul, 1, 0, 0, 0, [], 0, 0) 214 128 := X_at (r := mi214) rfl rfl
theorem x214_129 {z : P0} : X z 214 129 = XI mT z (X z) (.iconst 1, 1, 0, 0, 0, [], nI 1, 0) 214 129 := X_at (r := mi214) rfl rfl
theorem x214_130 {z : P0} : X z 214 130 = XI mT z (X z) (.iadd, 1, 0, 0, 0, [], 0, 0) 214 130 := X_at (r := mi214) rfl rfl
theorem x214_131 {z : P0} : X z 214 131 = XI mT z (X z) (.invokestatic 138, 3, 2, 192, 0, [127], 0, 0) 214 131 := X_at (r := mi214) rfl rfl
theorem x214_134 {z : P0} : X z 214 134 = XI mT z (X z) (.istore 15, 2, 15, 0, 0, [], 0, 0) 214 134 := X_at (r := mi214) rfl rfl
theorem x214_136 {z : P0} : X z 214 136 = XI mT z (X z) (.aload_n 1, 1, 1, 0, 0, [], 0, 0) 214 136 := X_at (r := mi214) rfl rfl
theorem x214_137 {z : P0} : X z 214 137 = XI mT z (X z) (.iload 13, 2, 13, 0, 0, [], 0, 0) 214 137 := X_at (r := mi214) rfl rfl
theorem x214_139 {z : P0} : X z 214 139 = XI mT z (X z) (.iconst 5, 1, 0, 0, 0, [], nI 5, 0) 214 139 := X_at (r := mi214) rfl rfl
theorem x214_140 {z : P0} : X z 214 140 = XI mT z (X z) (.if_icmp .ge 7, 3, 147, 0, 0, [], 0, 0) 214 140 := X_at (r := mi214) rfl rfl
theorem x214_143 {z : P0} : X z 214 143 = XI mT z (X z) (.iconst 0, 1, 0, 0, 0, [], nI 0, 0) 214 143 := X_at (r := mi214) rfl rfl
theorem x214_144 {z : P0} : X z 214 144 = XI mT z (X z) (.goto 5, 3, 149, 0, 0, [], 0, 0) 214 144 := X_at (r := mi214) rfl rfl
theorem x214_147 {z : P0} : X z 214 147 = XI mT z (X z) (.iload 14, 2, 14, 0, 0, [], 0, 0) 214 147 := X_at (r := mi214) rfl rfl
theorem x214_149 {z : P0} : X z 214 149 = XI mT z (X z) (.iload 15, 2, 15, 0, 0, [], 0, 0) 214 149 := X_at (r := mi214) rfl rfl
theorem x214_151 {z : P0} : X z 214 151 = XI mT z (X z) (.aload_n 2, 1, 2, 0, 0, [], 0, 0) 214 151 := X_at (r := mi214) rfl rfl
theorem x214_152 {z : P0} : X z 214 152 = XI mT z (X z) (.aload_n 3, 1, 3, 0, 0, [], 0, 0) 214 152 := X_at (r := mi214) rfl rfl
theorem x214_153 {z : P0} : X z 214 153 = XI mT z (X z) (.aload 4, 2, 4, 0, 0, [], 0, 0) 214 153 := X_at (r := mi214) rfl rfl
theorem x214_155 {z : P0} : X z 214 155 = XI mT z (X z) (.aload 5, 2, 5, 0, 0, [], 0, 0) 214 155 := X_at (r := mi214) rfl rfl
theorem x214_157 {z : P0} : X z 214 157 = XI mT z (X z) (.aload 6, 2, 6, 0, 0, [], 0, 0) 214 157 := X_at (r := mi214) rfl rfl
theorem x214_159 {z : P0} : X z 214 159 = XI mT z (X z) (.aload 7, 2, 7, 0, 0, [], 0, 0) 214 159 := X_at (r := mi214) rfl rfl
theorem x214_161 {z : P0} : X z 214 161 = XI mT z (X z) (.aload 8, 2, 8, 0, 0, [], 0, 0) 214 161 := X_at (r := mi214) rfl rfl
theorem x214_163 {z : P0} : X z 214 163 = XI mT z (X z) (.aload 9, 2, 9, 0, 0, [], 0, 0) 214 163 := X_at (r := mi214) rfl rfl
theorem x214_165 {z : P0} : X z 214 165 = XI mT z (X z) (.aload 10, 2, 10, 0, 0, [], 0, 0) 214 165 := X_at (r := mi214) rfl rfl
theorem x214_167 {z : P0} : X z 214 167 = XI mT z (X z) (.aload 11, 2, 11, 0, 0, [], 0, 0) 214 167 := X_at (r := mi214) rfl rfl
theorem x214_169 {z : P0} : X z 214 169 = XI mT z (X z) (.invokestatic 142, 3, 13, 212, 0, [128], 0, 0) 214 169 := X_at (r := mi214) rfl rfl
theorem x214_172 {z : P0} : X z 214 172 = XI mT z (X z) (.ifCond .ne 5, 3, 177, 0, 0, [], 0, 0) 214 172 := X_at (r := mi214) rfl rfl
theorem x214_175 {z : P0} : X z 214 175 = XI mT z (X z) (.iconst 0, 1, 0, 0, 0, [], nI 0, 0) 214 175 := X_at (r := mi214) rfl rfl
theorem x214_176 {z : P0} : X z 214 176 = XI mT z (X z) (.ireturn, 1, 0, 0, 0, [], 0, 0) 214 176 := X_at (r := mi214) rfl rfl
theorem x214_177 {z : P0} : X z 214 177 = XI mT z (X z) (.aload_n 2, 1, 2, 0, 0, [], 0, 0) 214 177 := X_at (r := mi214) rfl rfl
theorem x214_178 {z : P0} : X z 214 178 = XI mT z (X z) (.bipush 7, 2, 0, 0, 0, [], nI 7, 0) 214 178 := X_at (r := mi214) rfl rfl
theorem x214_180 {z : P0} : X z 214 180 = XI mT z (X z) (.iaload, 1, 0, 0, 0, [], 0, 0) 214 180 := X_at (r := mi214) rfl rfl
theorem x214_181 {z : P0} : X z 214 181 = XI mT z (X z) (.bipush 6, 2, 0, 0, 0, [], nI 6, 0) 214 181 := X_at (r := mi214) rfl rfl
theorem x214_183 {z : P0} : X z 214 183 = XI mT z (X z) (.if_icmp .ge 11, 3, 194, 0, 0, [], 0, 0) 214 183 := X_at (r := mi214) rfl rfl
theorem x214_186 {z : P0} : X z 214 186 = XI mT z (X z) (.aload_n 2, 1, 2, 0, 0, [], 0, 0) 214 186 := X_at (r := mi214) rfl rfl
theorem x214_187 {z : P0} : X z 214 187 = XI mT z (X z) (.bipush 7, 2, 0, 0, 0, [], nI 7, 0) 214 187 := X_at (r := mi214) rfl rfl
theorem x214_189 {z : P0} : X z 214 189 = XI mT z (X z) (.dup2, 1, 0, 0, 0, [], 0, 0) 214 189 := X_at (r := mi214) rfl rfl
theorem x214_190 {z : P0} : X z 214 190 = XI mT z (X z) (.iaload, 1, 0, 0, 0, [], 0, 0) 214 190 := X_at (r := mi214) rfl rfl
theorem x214_191 {z : P0} : X z 214 191 = XI mT z (X z) (.iconst 1, 1, 0, 0, 0, [], nI 1, 0) 214 191 := X_at (r := mi214) rfl rfl
theorem x214_192 {z : P0} : X z 214 192 = XI mT z (X z) (.iadd, 1, 0, 0, 0, [], 0, 0) 214 192 := X_at (r := mi214) rfl rfl
theorem x214_193 {z : P0} : X z 214 193 = XI mT z (X z) (.iastore, 1, 0, 0, 0, [], 0, 0) 214 193 := X_at (r := mi214) rfl rfl
theorem x214_194 {z : P0} : X z 214 194 = XI mT z (X z) (.aload_n 1, 1, 1, 0, 0, [], 0, 0) 214 194 := X_at (r := mi214) rfl rfl
theorem x214_195 {z : P0} : X z 214 195 = XI mT z (X z) (.iload 13, 2, 13, 0, 0, [], 0, 0) 214 195 := X_at (r := mi214) rfl rfl
theorem x214_197 {z : P0} : X z 214 197 = XI mT z (X z) (.iconst 5, 1, 0, 0, 0, [], nI 5, 0) 214 197 := X_at (r := mi214) rfl rfl
theorem x214_198 {z : P0} : X z 214 198 = XI mT z (X z) (.irem, 1, 0, 0, 0, [], 0, 0) 214 198 := X_at (r := mi214) rfl rfl
theorem x214_199 {z : P0} : X z 214 199 = XI mT z (X z) (.iconst 4, 1, 0, 0, 0, [], nI 4, 0) 214 199 := X_at (r := mi214) rfl rfl
theorem x214_200 {z : P0} : X z 214 200 = XI mT z (X z) (.if_icmp .ne 7, 3, 207, 0, 0, [], 0, 0) 214 200 := X_at (r := mi214) rfl rfl
theorem x214_203 {z : P0} : X z 214 203 = XI mT z (X z) (.iconst 1, 1, 0, 0, 0, [], nI 1, 0) 214 203 := X_at (r := mi214) rfl rfl
theorem x214_204 {z : P0} : X z 214 204 = XI mT z (X z) (.goto 4, 3, 208, 0, 0, [], 0, 0) 214 204 := X_at (r := mi214) rfl rfl
theorem x214_207 {z : P0} : X z 214 207 = XI mT z (X z) (.iconst 0, 1, 0, 0, 0, [], nI 0, 0) 214 207 := X_at (r := mi214) rfl rfl
theorem x214_208 {z : P0} : X z 214 208 = XI mT z (X z) (.aload_n 2, 1, 2, 0, 0, [], 0, 0) 214 208 := X_at (r := mi214) rfl rfl
theorem x214_209 {z : P0} : X z 214 209 = XI mT z (X z) (.aload_n 3, 1, 3, 0, 0, [], 0, 0) 214 209 := X_at (r := mi214) rfl rfl
theorem x214_210 {z : P0} : X z 214 210 = XI mT z (X z) (.aload 4, 2, 4, 0, 0, [], 0, 0) 214 210 := X_at (r := mi214) rfl rfl
theorem x214_212 {z : P0} : X z 214 212 = XI mT z (X z) (.aload 5, 2, 5, 0, 0, [], 0, 0) 214 212 := X_at (r := mi214) rfl rfl
theorem x214_214 {z : P0} : X z 214 214 = XI mT z (X z) (.aload 6, 2, 6, 0, 0, [], 0, 0) 214 214 := X_at (r := mi214) rfl rfl
theorem x214_216 {z : P0} : X z 214 216 = XI mT z (X z) (.aload 7, 2, 7, 0, 0, [], 0, 0) 214 216 := X_at (r := mi214) rfl rfl
theorem x214_218 {z : P0} : X z 214 218 = XI mT z (X z) (.aload 8, 2, 8, 0, 0, [], 0, 0) 214 218 := X_at (r := mi214) rfl rfl
theorem x214_220 {z : P0} : X z 214 220 = XI mT z (X z) (.aload 9, 2, 9, 0, 0, [], 0, 0) 214 220 := X_at (r := mi214) rfl rfl
theorem x214_222 {z : P0} : X z 214 222 = XI mT z (X z) (.aload 10, 2, 10, 0, 0, [], 0, 0) 214 222 := X_at (r := mi214) rfl rfl
theorem x214_224 {z : P0} : X z 214 224 = XI mT z (X z) (.aload 11, 2, 11, 0, 0, [], 0, 0) 214 224 := X_at (r := mi214) rfl rfl
theorem x214_226 {z : P0} : X z 214 226 = XI mT z (X z) (.aload 12, 2, 12, 0, 0, [], 0, 0) 214 226 := X_at (r := mi214) rfl rfl
theorem x214_228 {z : P0} : X z 214 228 = XI mT z (X z) (.invokestatic 146, 3, 13, 213, 0, [129], 0, 0) 214 228 := X_at (r := mi214) rfl rfl
theorem x214_231 {z : P0} : X z 214 231 = XI mT z (X z) (.ifCond .ne 5, 3, 236, 0, 0, [], 0, 0) 214 231 := X_at (r := mi214) rfl rfl
theorem x214_234 {z : P0} : X z 214 234 = XI mT z (X z) (.iconst 0, 1, 0, 0, 0, [], nI 0, 0) 214 234 := X_at (r := mi214) rfl rfl
theorem x214_235 {z : P0} : X z 214 235 = XI mT z (X z) (.ireturn, 1, 0, 0, 0, [], 0, 0) 214 235 := X_at (r := mi214) rfl rfl
theorem x214_236 {z : P0} : X z 214 236 = XI mT z (X z) (.iinc 13 1, 3, 13, 0, 0, [], nI 1, 0) 214 236 := X_at (r := mi214) rfl rfl
theorem x214_239 {z : P0} : X z 214 239 = XI mT z (X z) (.goto (-132), 3, 107, 0, 0, [], 0, 0) 214 239 := X_at (r := mi214) rfl rfl
theorem x214_242 {z : P0} : X z 214 242 = XI mT z (X z) (.iconst 1, 1, 0, 0, 0, [], nI 1, 0) 214 242 := X_at (r := mi214) rfl rfl
theorem x214_243 {z : P0} : X z 214 243 = XI mT z (X z) (.ireturn, 1, 0, 0, 0, [], 0, 0) 214 243 := X_at (r := mi214) rfl rfl
