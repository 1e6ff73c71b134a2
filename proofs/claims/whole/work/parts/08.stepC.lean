theorem x104_0 {z : P0} : X z 104 0 = XI mT z (X z) (.aload_n 0, 1, 0, 0, 0, [], 0, 0) 104 0 := X_at (r := mi104) rfl rfl
theorem x104_1 {z : P0} : X z 104 1 = XI mT z (X z) (.invokespecial 1, 3, 0, 9003, 0, [106], 0, 0) 104 1 := X_at (r := mi104) rfl rfl
theorem x104_4 {z : P0} : X z 104 4 = XI mT z (X z) (.aload_n 0, 1, 0, 0, 0, [], 0, 0) 104 4 := X_at (r := mi104) rfl rfl
theorem x104_5 {z : P0} : X z 104 5 = XI mT z (X z) (.sipush 473, 3, 0, 0, 0, [], nI 473, 0) 104 5 := X_at (r := mi104) rfl rfl
theorem x104_8 {z : P0} : X z 104 8 = XI mT z (X z) (.newarray .int, 2, 20, 0, 0, [], 0, 0) 104 8 := X_at (r := mi104) rfl rfl
theorem x104_10 {z : P0} : X z 104 10 = XI mT z (X z) (.putfield 7, 3, 11, 0, 3, [134], 0, 0) 104 10 := X_at (r := mi104) rfl rfl
theorem x104_13 {z : P0} : X z 104 13 = XI mT z (X z) (.aload_n 0, 1, 0, 0, 0, [], 0, 0) 104 13 := X_at (r := mi104) rfl rfl
theorem x104_14 {z : P0} : X z 104 14 = XI mT z (X z) (.sipush 2838, 3, 0, 0, 0, [], nI 2838, 0) 104 14 := X_at (r := mi104) rfl rfl
theorem x104_17 {z : P0} : X z 104 17 = XI mT z (X z) (.newarray .int, 2, 20, 0, 0, [], 0, 0) 104 17 := X_at (r := mi104) rfl rfl
theorem x104_19 {z : P0} : X z 104 19 = XI mT z (X z) (.putfield 13, 3, 11, 2, 3, [135], 0, 0) 104 19 := X_at (r := mi104) rfl rfl
theorem x104_22 {z : P0} : X z 104 22 = XI mT z (X z) (.aload_n 0, 1, 0, 0, 0, [], 0, 0) 104 22 := X_at (r := mi104) rfl rfl
theorem x104_23 {z : P0} : X z 104 23 = XI mT z (X z) (.bipush 60, 2, 0, 0, 0, [], nI 60, 0) 104 23 := X_at (r := mi104) rfl rfl
theorem x104_25 {z : P0} : X z 104 25 = XI mT z (X z) (.newarray .int, 2, 20, 0, 0, [], 0, 0) 104 25 := X_at (r := mi104) rfl rfl
theorem x104_27 {z : P0} : X z 104 27 = XI mT z (X z) (.putfield 16, 3, 11, 4, 3, [136], 0, 0) 104 27 := X_at (r := mi104) rfl rfl
theorem x104_30 {z : P0} : X z 104 30 = XI mT z (X z) (.aload_n 0, 1, 0, 0, 0, [], 0, 0) 104 30 := X_at (r := mi104) rfl rfl
theorem x104_31 {z : P0} : X z 104 31 = XI mT z (X z) (.bipush 20, 2, 0, 0, 0, [], nI 20, 0) 104 31 := X_at (r := mi104) rfl rfl
theorem x104_33 {z : P0} : X z 104 33 = XI mT z (X z) (.newarray .int, 2, 20, 0, 0, [], 0, 0) 104 33 := X_at (r := mi104) rfl rfl
theorem x104_35 {z : P0} : X z 104 35 = XI mT z (X z) (.putfield 19, 3, 11, 6, 3, [137], 0, 0) 104 35 := X_at (r := mi104) rfl rfl
theorem x104_38 {z : P0} : X z 104 38 = XI mT z (X z) (.aload_n 0, 1, 0, 0, 0, [], 0, 0) 104 38 := X_at (r := mi104) rfl rfl
theorem x104_39 {z : P0} : X z 104 39 = XI mT z (X z) (.bipush 20, 2, 0, 0, 0, [], nI 20, 0) 104 39 := X_at (r := mi104) rfl rfl
theorem x104_41 {z : P0} : X z 104 41 = XI mT z (X z) (.newarray .int, 2, 20, 0, 0, [], 0, 0) 104 41 := X_at (r := mi104) rfl rfl
theorem x104_43 {z : P0} : X z 104 43 = XI mT z (X z) (.putfield 22, 3, 11, 7, 3, [138], 0, 0) 104 43 := X_at (r := mi104) rfl rfl
theorem x104_46 {z : P0} : X z 104 46 = XI mT z (X z) (.aload_n 0, 1, 0, 0, 0, [], 0, 0) 104 46 := X_at (r := mi104) rfl rfl
theorem x104_47 {z : P0} : X z 104 47 = XI mT z (X z) (.bipush 20, 2, 0, 0, 0, [], nI 20, 0) 104 47 := X_at (r := mi104) rfl rfl
theorem x104_49 {z : P0} : X z 104 49 = XI mT z (X z) (.newarray .int, 2, 20, 0, 0, [], 0, 0) 104 49 := X_at (r := mi104) rfl rfl
theorem x104_51 {z : P0} : X z 104 51 = XI mT z (X z) (.putfield 25, 3, 11, 8, 3, [139], 0, 0) 104 51 := X_at (r := mi104) rfl rfl
theorem x104_54 {z : P0} : X z 104 54 = XI mT z (X z) (.aload_n 0, 1, 0, 0, 0, [], 0, 0) 104 54 := X_at (r := mi104) rfl rfl
theorem x104_55 {z : P0} : X z 104 55 = XI mT z (X z) (.bipush 20, 2, 0, 0, 0, [], nI 20, 0) 104 55 := X_at (r := mi104) rfl rfl
theorem x104_57 {z : P0} : X z 104 57 = XI mT z (X z) (.newarray .int, 2, 20, 0, 0, [], 0, 0) 104 57 := X_at (r := mi104) rfl rfl
theorem x104_59 {z : P0} : X z 104 59 = XI mT z (X z) (.putfield 28, 3, 11, 9, 3, [140], 0, 0) 104 59 := X_at (r := mi104) rfl rfl
theorem x104_62 {z : P0} : X z 104 62 = XI mT z (X z) (.aload_n 0, 1, 0, 0, 0, [], 0, 0) 104 62 := X_at (r := mi104) rfl rfl
theorem x104_63 {z : P0} : X z 104 63 = XI mT z (X z) (.bipush 20, 2, 0, 0, 0, [], nI 20, 0) 104 63 := X_at (r := mi104) rfl rfl
theorem x104_65 {z : P0} : X z 104 65 = XI mT z (X z) (.newarray .int, 2, 20, 0, 0, [], 0, 0) 104 65 := X_at (r := mi104) rfl rfl
theorem x104_67 {z : P0} : X z 104 67 = XI mT z (X z) (.putfield 31, 3, 11, 10, 3, [141], 0, 0) 104 67 := X_at (r := mi104) rfl rfl
theorem x104_70 {z : P0} : X z 104 70 = XI mT z (X z) (.aload_n 0, 1, 0, 0, 0, [], 0, 0) 104 70 := X_at (r := mi104) rfl rfl
theorem x104_71 {z : P0} : X z 104 71 = XI mT z (X z) (.bipush 20, 2, 0, 0, 0, [], nI 20, 0) 104 71 := X_at (r := mi104) rfl rfl
theorem x104_73 {z : P0} : X z 104 73 = XI mT z (X z) (.newarray .int, 2, 20, 0, 0, [], 0, 0) 104 73 := X_at (r := mi104) rfl rfl
theorem x104_75 {z : P0} : X z 104 75 = XI mT z (X z) (.putfield 34, 3, 11, 11, 3, [142], 0, 0) 104 75 := X_at (r := mi104) rfl rfl
theorem x104_78 {z : P0} : X z 104 78 = XI mT z (X z) (.aload_n 0, 1, 0, 0, 0, [], 0, 0) 104 78 := X_at (r := mi104) rfl rfl
theorem x104_79 {z : P0} : X z 104 79 = XI mT z (X z) (.sipush 2400, 3, 0, 0, 0, [], nI 2400, 0) 104 79 := X_at (r := mi104) rfl rfl
theorem x104_82 {z : P0} : X z 104 82 = XI mT z (X z) (.newarray .int, 2, 20, 0, 0, [], 0, 0) 104 82 := X_at (r := mi104) rfl rfl
theorem x104_84 {z : P0} : X z 104 84 = XI mT z (X z) (.putfield 37, 3, 11, 13, 3, [143], 0, 0) 104 84 := X_at (r := mi104) rfl rfl
theorem x104_87 {z : P0} : X z 104 87 = XI mT z (X z) (.aload_n 0, 1, 0, 0, 0, [], 0, 0) 104 87 := X_at (r := mi104) rfl rfl
theorem x104_88 {z : P0} : X z 104 88 = XI mT z (X z) (.getfield 7, 3, 11, 0, 3, [134], 0, 0) 104 88 := X_at (r := mi104) rfl rfl
theorem x104_91 {z : P0} : X z 104 91 = XI mT z (X z) (.iconst 0, 1, 0, 0, 0, [], nI 0, 0) 104 91 := X_at (r := mi104) rfl rfl
theorem x104_92 {z : P0} : X z 104 92 = XI mT z (X z) (.bipush 20, 2, 0, 0, 0, [], nI 20, 0) 104 92 := X_at (r := mi104) rfl rfl
theorem x104_94 {z : P0} : X z 104 94 = XI mT z (X z) (.iastore, 1, 0, 0, 0, [], 0, 0) 104 94 := X_at (r := mi104) rfl rfl
theorem x104_95 {z : P0} : X z 104 95 = XI mT z (X z) (.aload_n 0, 1, 0, 0, 0, [], 0, 0) 104 95 := X_at (r := mi104) rfl rfl
theorem x104_96 {z : P0} : X z 104 96 = XI mT z (X z) (.getfield 7, 3, 11, 0, 3, [134], 0, 0) 104 96 := X_at (r := mi104) rfl rfl
theorem x104_99 {z : P0} : X z 104 99 = XI mT z (X z) (.iconst 1, 1, 0, 0, 0, [], nI 1, 0) 104 99 := X_at (r := mi104) rfl rfl
theorem x104_100 {z : P0} : X z 104 100 = XI mT z (X z) (.iconst 5, 1, 0, 0, 0, [], nI 5, 0) 104 100 := X_at (r := mi104) rfl rfl
theorem x104_101 {z : P0} : X z 104 101 = XI mT z (X z) (.iastore, 1, 0, 0, 0, [], 0, 0) 104 101 := X_at (r := mi104) rfl rfl
theorem x104_102 {z : P0} : X z 104 102 = XI mT z (X z) (.aload_n 0, 1, 0, 0, 0, [], 0, 0) 104 102 := X_at (r := mi104) rfl rfl
theorem x104_103 {z : P0} : X z 104 103 = XI mT z (X z) (.getfield 7, 3, 11, 0, 3, [134], 0, 0) 104 103 := X_at (r := mi104) rfl rfl
theorem x104_106 {z : P0} : X z 104 106 = XI mT z (X z) (.iconst 2, 1, 0, 0, 0, [], nI 2, 0) 104 106 := X_at (r := mi104) rfl rfl
theorem x104_107 {z : P0} : X z 104 107 = XI mT z (X z) (.iconst 4, 1, 0, 0, 0, [], nI 4, 0) 104 107 := X_at (r := mi104) rfl rfl
theorem x104_108 {z : P0} : X z 104 108 = XI mT z (X z) (.iastore, 1, 0, 0, 0, [], 0, 0) 104 108 := X_at (r := mi104) rfl rfl
theorem x104_109 {z : P0} : X z 104 109 = XI mT z (X z) (.aload_n 0, 1, 0, 0, 0, [], 0, 0) 104 109 := X_at (r := mi104) rfl rfl
theorem x104_110 {z : P0} : X z 104 110 = XI mT z (X z) (.getfield 7, 3, 11, 0, 3, [134], 0, 0) 104 110 := X_at (r := mi104) rfl rfl
theorem x104_113 {z : P0} : X z 104 113 = XI mT z (X z) (.iconst 3, 1, 0, 0, 0, [], nI 3, 0) 104 113 := X_at (r := mi104) rfl rfl
theorem x104_114 {z : P0} : X z 104 114 = XI mT z (X z) (.bipush 7, 2, 0, 0, 0, [], nI 7, 0) 104 114 := X_at (r := mi104) rfl rfl
theorem x104_116 {z : P0} : X z 104 116 = XI mT z (X z) (.iastore, 1, 0, 0, 0, [], 0, 0) 104 116 := X_at (r := mi104) rfl rfl
theorem x104_117 {z : P0} : X z 104 117 = XI mT z (X z) (.aload_n 0, 1, 0, 0, 0, [], 0, 0) 104 117 := X_at (r := mi104) rfl rfl
theorem x104_118 {z : P0} : X z 104 118 = XI mT z (X z) (.getfield 7, 3, 11, 0, 3, [134], 0, 0) 104 118 := X_at (r := mi104) rfl rfl
theorem x104_121 {z : P0} : X z 104 121 = XI mT z (X z) (.iconst 4, 1, 0, 0, 0, [], nI 4, 0) 104 121 := X_at (r := mi104) rfl rfl
theorem x104_122 {z : P0} : X z 104 122 = XI mT z (X z) (.iconst 3, 1, 0, 0, 0, [], nI 3, 0) 104 122 := X_at (r := mi104) rfl rfl
theorem x104_123 {z : P0} : X z 104 123 = XI mT z (X z) (.iastore, 1, 0, 0, 0, [], 0, 0) 104 123 := X_at (r := mi104) rfl rfl
theorem x104_124 {z : P0} : X z 104 124 = XI mT z (X z) (.aload_n 0, 1, 0, 0, 0, [], 0, 0) 104 124 := X_at (r := mi104) rfl rfl
theorem x104_125 {z : P0} : X z 104 125 = XI mT z (X z) (.getfield 7, 3, 11, 0, 3, [134], 0, 0) 104 125 := X_at (r := mi104) rfl rfl
theorem x104_128 {z : P0} : X z 104 128 = XI mT z (X z) (.iconst 5, 1, 0, 0, 0, [], nI 5, 0) 104 128 := X_at (r := mi104) rfl rfl
theorem x104_129 {z : P0} : X z 104 129 = XI mT z (X z) (.iconst 4, 1, 0, 0, 0, [], nI 4, 0) 104 129 := X_at (r := mi104) rfl rfl
theorem x104_130 {z : P0} : X z 104 130 = XI mT z (X z) (.iastore, 1, 0, 0, 0, [], 0, 0) 104 130 := X_at (r := mi104) rfl rfl
theorem x104_131 {z : P0} : X z 104 131 = XI mT z (X z) (.return_, 1, 0, 0, 0, [], 0, 0) 104 131 := X_at (r := mi104) rfl rfl
theorem x105_0 {z : P0} : X z 105 0 = XI mT z (X z) (.aload_n 0, 1, 0, 0, 0, [], 0, 0) 105 0 := X_at (r := mi105) rfl rfl
theorem x105_1 {z : P0} : X z 105 1 = XI mT z (X z) (.getfield 40, 3, 11, 5, 0, [144], 0, 0) 105 1 := X_at (r := mi105) rfl rfl
theorem x105_4 {z : P0} : X z 105 4 = XI mT z (X z) (.ireturn, 1, 0, 0, 0, [], 0, 0) 105 4 := X_at (r := mi105) rfl rfl
theorem x106_0 {z : P0} : X z 106 0 = XI mT z (X z) (.iload_n 0, 1, 0, 0, 0, [], 0, 0) 106 0 := X_at (r := mi106) rfl rfl
theorem x106_1 {z : P0} : X z 106 1 = XI mT z (X z) (.iload_n 1, 1, 1, 0, 0, [], 0, 0) 106 1 := X_at (r := mi106) rfl rfl
theorem x106_2 {z : P0} : X z 106 2 = XI mT z (X z) (.if_icmp .lt 12, 3, 14, 0, 0, [], 0, 0) 106 2 := X_at (r := mi106) rfl rfl
theorem x106_5 {z : P0} : X z 106 5 = XI mT z (X z) (.iload_n 0, 1, 0, 0, 0, [], 0, 0) 106 5 := X_at (r := mi106) rfl rfl
theorem x106_6 {z : P0} : X z 106 6 = XI mT z (X z) (.iload_n 2, 1, 2, 0, 0, [], 0, 0) 106 6 := X_at (r := mi106) rfl rfl
theorem x106_7 {z : P0} : X z 106 7 = XI mT z (X z) (.if_icmp .gt 7, 3, 14, 0, 0, [], 0, 0) 106 7 := X_at (r := mi106) rfl rfl
theorem x106_10 {z : P0} : X z 106 10 = XI mT z (X z) (.iconst 1, 1, 0, 0, 0, [], nI 1, 0) 106 10 := X_at (r := mi106) rfl rfl
theorem x106_11 {z : P0} : X z 106 11 = XI mT z (X z) (.goto 4, 3, 15, 0, 0, [], 0, 0) 106 11 := X_at (r := mi106) rfl rfl
theorem x106_14 {z : P0} : X z 106 14 = XI mT z (X z) (.iconst 0, 1, 0, 0, 0, [], nI 0, 0) 106 14 := X_at (r := mi106) rfl rfl
theorem x106_15 {z : P0} : X z 106 15 = XI mT z (X z) (.ireturn, 1, 0, 0, 0, [], 0, 0) 106 15 := X_at (r := mi106) rfl rfl
theorem x107_0 {z : P0} : X z 107 0 = XI mT z (X z) (.aload_n 0, 1, 0, 0, 0, [], 0, 0) 107 0 := X_at (r := mi107) rfl rfl
theorem x107_1 {z : P0} : X z 107 1 = XI mT z (X z) (.getfield 44, 3, 11, 1, 0, [145], 0, 0) 107 1 := X_at (r := mi107) rfl rfl
theorem x107_4 {z : P0} : X z 107 4 = XI mT z (X z) (.bipush 6, 2, 0, 0, 0, [], nI 6, 0) 107 4 := X_at (r := mi107) rfl rfl
theorem x107_6 {z : P0} : X z 107 6 = XI mT z (X z) (.if_icmp .ne 46, 3, 52, 0, 0, [], 0, 0) 107 6 := X_at (r := mi107) rfl rfl
theorem x107_9 {z : P0} : X z 107 9 = XI mT z (X z) (.sipush 473, 3, 0, 0, 0, [], nI 473, 0) 107 9 := X_at (r := mi107) rfl rfl
theorem x107_12 {z : P0} : X z 107 12 = XI mT z (X z) (.istore_n 1, 1, 1, 0, 0, [], 0, 0) 107 12 := X_at (r := mi107) rfl rfl
theorem x107_13 {z : P0} : X z 107 13 = XI mT z (X z) (.iload_n 1, 1, 1, 0, 0, [], 0, 0) 107 13 := X_at (r := mi107) rfl rfl
theorem x107_14 {z : P0} : X z 107 14 = XI mT z (X z) (.sipush 2838, 3, 0, 0, 0, [], nI 2838, 0) 107 14 := X_at (r := mi107) rfl rfl
theorem x107_17 {z : P0} : X z 107 17 = XI mT z (X z) (.if_icmp .ge 25, 3, 42, 0, 0, [], 0, 0) 107 17 := X_at (r := mi107) rfl rfl
theorem x107_20 {z : P0} : X z 107 20 = XI mT z (X z) (.aload_n 0, 1, 0, 0, 0, [], 0, 0) 107 20 := X_at (r := mi107) rfl rfl
theorem x107_21 {z : P0} : X z 107 21 = XI mT z (X z) (.getfield 13, 3, 11, 2, 3, [135], 0, 0) 107 21 := X_at (r := mi107) rfl rfl
theorem x107_24 {z : P0} : X z 107 24 = XI mT z (X z) (.iload_n 1, 1, 1, 0, 0, [], 0, 0) 107 24 := X_at (r := mi107) rfl rfl
theorem x107_25 {z : P0} : X z 107 25 = XI mT z (X z) (.sipush 473, 3, 0, 0, 0, [], nI 473, 0) 107 25 := X_at (r := mi107) rfl rfl
theorem x107_28 {z : P0} : X z 107 28 = XI mT z (X z) (.isub, 1, 0, 0, 0, [], 0, 0) 107 28 := X_at (r := mi107) rfl rfl
theorem x107_29 {z : P0} : X z 107 29 = XI mT z (X z) (.aload_n 0, 1, 0, 0, 0, [], 0, 0) 107 29 := X_at (r := mi107) rfl rfl
theorem x107_30 {z : P0} : X z 107 30 = XI mT z (X z) (.getfield 13, 3, 11, 2, 3, [135], 0, 0) 107 30 := X_at (r := mi107) rfl rfl
theorem x107_33 {z : P0} : X z 107 33 = XI mT z (X z) (.iload_n 1, 1, 1, 0, 0, [], 0, 0) 107 33 := X_at (r := mi107) rfl rfl
theorem x107_34 {z : P0} : X z 107 34 = XI mT z (X z) (.iaload, 1, 0, 0, 0, [], 0, 0) 107 34 := X_at (r := mi107) rfl rfl
theorem x107_35 {z : P0} : X z 107 35 = XI mT z (X z) (.iastore, 1, 0, 0, 0, [], 0, 0) 107 35 := X_at (r := mi107) rfl rfl
theorem x107_36 {z : P0} : X z 107 36 = XI mT z (X z) (.iinc 1 1, 3, 1, 0, 0, [], nI 1, 0) 107 36 := X_at (r := mi107) rfl rfl
theorem x107_39 {z : P0} : X z 107 39 = XI mT z (X z) (.goto (-26), 3, 13, 0, 0, [], 0, 0) 107 39 := X_at (r := mi107) rfl rfl
theorem x107_42 {z : P0} : X z 107 42 = XI mT z (X z) (.aload_n 0, 1, 0, 0, 0, [], 0, 0) 107 42 := X_at (r := mi107) rfl rfl
theorem x107_43 {z : P0} : X z 107 43 = XI mT z (X z) (.dup, 1, 0, 0, 0, [], 0, 0) 107 43 := X_at (r := mi107) rfl rfl
theorem x107_44 {z : P0} : X z 107 44 = XI mT z (X z) (.getfield 44, 3, 11, 1, 0, [145], 0, 0) 107 44 := X_at (r := mi107) rfl rfl
theorem x107_47 {z : P0} : X z 107 47 = XI mT z (X z) (.iconst 1, 1, 0, 0, 0, [], nI 1, 0) 107 47 := X_at (r := mi107) rfl rfl
theorem x107_48 {z : P0} : X z 107 48 = XI mT z (X z) (.isub, 1, 0, 0, 0, [], 0, 0) 107 48 := X_at (r := mi107) rfl rfl
theorem x107_49 {z : P0} : X z 107 49 = XI mT z (X z) (.putfield 44, 3, 11, 1, 0, [145], 0, 0) 107 49 := X_at (r := mi107) rfl rfl
theorem x107_52 {z : P0} : X z 107 52 = XI mT z (X z) (.iconst 0, 1, 0, 0, 0, [], nI 0, 0) 107 52 := X_at (r := mi107) rfl rfl
theorem x107_53 {z : P0} : X z 107 53 = XI mT z (X z) (.istore_n 1, 1, 1, 0, 0, [], 0, 0) 107 53 := X_at (r := mi107) rfl rfl
theorem x107_54 {z : P0} : X z 107 54 = XI mT z (X z) (.iload_n 1, 1, 1, 0, 0, [], 0, 0) 107 54 := X_at (r := mi107) rfl rfl
theorem x107_55 {z : P0} : X z 107 55 = XI mT z (X z) (.sipush 473, 3, 0, 0, 0, [], nI 473, 0) 107 55 := X_at (r := mi107) rfl rfl
theorem x107_58 {z : P0} : X z 107 58 = XI mT z (X z) (.if_icmp .ge 30, 3, 88, 0, 0, [], 0, 0) 107 58 := X_at (r := mi107) rfl rfl
theorem x107_61 {z : P0} : X z 107 61 = XI mT z (X z) (.aload_n 0, 1, 0, 0, 0, [], 0, 0) 107 61 := X_at (r := mi107) rfl rfl
theorem x107_62 {z : P0} : X z 107 62 = XI mT z (X z) (.getfield 13, 3, 11, 2, 3, [135], 0, 0) 107 62 := X_at (r := mi107) rfl rfl
theorem x107_65 {z : P0} : X z 107 65 = XI mT z (X z) (.sipush 473, 3, 0, 0, 0, [], nI 473, 0) 107 65 := X_at (r := mi107) rfl rfl
theorem x107_68 {z : P0} : X z 107 68 = XI mT z (X z) (.aload_n 0, 1, 0, 0, 0, [], 0, 0) 107 68 := X_at (r := mi107) rfl rfl
theorem x107_69 {z : P0} : X z 107 69 = XI mT z (X z) (.getfield 44, 3, 11, 1, 0, [145], 0, 0) 107 69 := X_at (r := mi107) rfl rfl
theorem x107_72 {z : P0} : X z 107 72 = XI mT z (X z) (.imul, 1, 0, 0, 0, [], 0, 0) 107 72 := X_at (r := mi107) rfl rfl
theorem x107_73 {z : P0} : X z 107 73 = XI mT z (X z) (.iload_n 1, 1, 1, 0, 0, [], 0, 0) 107 73 := X_at (r := mi107) rfl rfl
theorem x107_74 {z : P0} : X z 107 74 = XI mT z (X z) (.iadd, 1, 0, 0, 0, [], 0, 0) 107 74 := X_at (r := mi107) rfl rfl
theorem x107_75 {z : P0} : X z 107 75 = XI mT z (X z) (.aload_n 0, 1, 0, 0, 0, [], 0, 0) 107 75 := X_at (r := mi107) rfl rfl
theorem x107_76 {z : P0} : X z 107 76 = XI mT z (X z) (.getfield 7, 3, 11, 0, 3, [134], 0, 0) 107 76 := X_at (r := mi107) rfl rfl
theorem x107_79 {z : P0} : X z 107 79 = XI mT z (X z) (.iload_n 1, 1, 1, 0, 0, [], 0, 0) 107 79 := X_at (r := mi107) rfl rfl
theorem x107_80 {z : P0} : X z 107 80 = XI mT z (X z) (.iaload, 1, 0, 0, 0, [], 0, 0) 107 80 := X_at (r := mi107) rfl rfl
theorem x107_81 {z : P0} : X z 107 81 = XI mT z (X z) (.iastore, 1, 0, 0, 0, [], 0, 0) 107 81 := X_at (r := mi107) rfl rfl
theorem x107_82 {z : P0} : X z 107 82 = XI mT z (X z) (.iinc 1 1, 3, 1, 0, 0, [], nI 1, 0) 107 82 := X_at (r := mi107) rfl rfl
theorem x107_85 {z : P0} : X z 107 85 = XI mT z (X z) (.goto (-31), 3, 54, 0, 0, [], 0, 0) 107 85 := X_at (r := mi107) rfl rfl
theorem x107_88 {z : P0} : X z 107 88 = XI mT z (X z) (.aload_n 0, 1, 0, 0, 0, [], 0, 0) 107 88 := X_at (r := mi107) rfl rfl
theorem x107_89 {z : P0} : X z 107 89 = XI mT z (X z) (.dup, 1, 0, 0, 0, [], 0, 0) 107 89 := X_at (r := mi107) rfl rfl
theorem x107_90 {z : P0} : X z 107 90 = XI mT z (X z) (.getfield 44, 3, 11, 1, 0, [145], 0, 0) 107 90 := X_at (r := mi107) rfl rfl
theorem x107_93 {z : P0} : X z 107 93 = XI mT z (X z) (.iconst 1, 1, 0, 0, 0, [], nI 1, 0) 107 93 := X_at (r := mi107) rfl rfl
theorem x107_94 {z : P0} : X z 107 94 = XI mT z (X z) (.iadd, 1, 0, 0, 0, [], 0, 0) 107 94 := X_at (r := mi107) rfl rfl
theorem x107_95 {z : P0} : X z 107 95 = XI mT z (X z) (.putfield 44, 3, 11, 1, 0, [145], 0, 0) 107 95 := X_at (r := mi107) rfl rfl
theorem x107_98 {z : P0} : X z 107 98 = XI mT z (X z) (.return_, 1, 0, 0, 0, [], 0, 0) 107 98 := X_at (r := mi107) rfl rfl
theorem x108_0 {z : P0} : X z 108 0 = XI mT z (X z) (.iload_n 1, 1, 1, 0, 0, [], 0, 0) 108 0 := X_at (r := mi108) rfl rfl
theorem x108_1 {z : P0} : X z 108 1 = XI mT z (X z) (.iconst 0, 1, 0, 0, 0, [], nI 0, 0) 108 1 := X_at (r := mi108) rfl rfl
theorem x108_2 {z : P0} : X z 108 2 = XI mT z (X z) (.aload_n 0, 1, 0, 0, 0, [], 0, 0) 108 2 := X_at (r := mi108) rfl rfl
theorem x108_3 {z : P0} : X z 108 3 = XI mT z (X z) (.getfield 7, 3, 11, 0, 3, [134], 0, 0) 108 3 := X_at (r := mi108) rfl rfl
theorem x108_6 {z : P0} : X z 108 6 = XI mT z (X z) (.bipush 6, 2, 0, 0, 0, [], nI 6, 0) 108 6 := X_at (r := mi108) rfl rfl
theorem x108_8 {z : P0} : X z 108 8 = XI mT z (X z) (.iaload, 1, 0, 0, 0, [], 0, 0) 108 8 := X_at (r := mi108) rfl rfl
theorem x108_9 {z : P0} : X z 108 9 = XI mT z (X z) (.iconst 1, 1, 0, 0, 0, [], nI 1, 0) 108 9 := X_at (r := mi108) rfl rfl
theorem x108_10 {z : P0} : X z 108 10 = XI mT z (X z) (.isub, 1, 0, 0, 0, [], 0, 0) 108 10 := X_at (r := mi108) rfl rfl
theorem x108_11 {z : P0} : X z 108 11 = XI mT z (X z) (.invokestatic 47, 3, 3, 106, 0, [107], 0, 0) 108 11 := X_at (r := mi108) rfl rfl
theorem x108_14 {z : P0} : X z 108 14 = XI mT z (X z) (.ireturn, 1, 0, 0, 0, [], 0, 0) 108 14 := X_at (r := mi108) rfl rfl
theorem x109_0 {z : P0} : X z 109 0 = XI mT z (X z) (.iload_n 1, 1, 1, 0, 0, [], 0, 0) 109 0 := X_at (r := mi109) rfl rfl
theorem x109_1 {z : P0} : X z 109 1 = XI mT z (X z) (.iconst 0, 1, 0, 0, 0, [], nI 0, 0) 109 1 := X_at (r := mi109) rfl rfl
theorem x109_2 {z : P0} : X z 109 2 = XI mT z (X z) (.aload_n 0, 1, 0, 0, 0, [], 0, 0) 109 2 := X_at (r := mi109) rfl rfl
theorem x109_3 {z : P0} : X z 109 3 = XI mT z (X z) (.getfield 7, 3, 11, 0, 3, [134], 0, 0) 109 3 := X_at (r := mi109) rfl rfl
theorem x109_6 {z : P0} : X z 109 6 = XI mT z (X z) (.bipush 7, 2, 0, 0, 0, [], nI 7, 0) 109 6 := X_at (r := mi109) rfl rfl
theorem x109_8 {z : P0} : X z 109 8 = XI mT z (X z) (.iaload, 1, 0, 0, 0, [], 0, 0) 109 8 := X_at (r := mi109) rfl rfl
theorem x109_9 {z : P0} : X z 109 9 = XI mT z (X z) (.iconst 1, 1, 0, 0, 0, [], nI 1, 0) 109 9 := X_at (r := mi109) rfl rfl
theorem x109_10 {z : P0} : X z 109 10 = XI mT z (X z) (.isub, 1, 0, 0, 0, [], 0, 0) 109 10 := X_at (r := mi109) rfl rfl
theorem x109_11 {z : P0} : X z 109 11 = XI mT z (X z) (.invokestatic 47, 3, 3, 106, 0, [107], 0, 0) 109 11 := X_at (r := mi109) rfl rfl
theorem x109_14 {z : P0} : X z 109 14 = XI mT z (X z) (.ireturn, 1, 0, 0, 0, [], 0, 0) 109 14 := X_at (r := mi109) rfl rfl
theorem x110_0 {z : P0} : X z 110 0 = XI mT z (X z) (.iconst 0, 1, 0, 0, 0, [], nI 0, 0) 110 0 := X_at (r := mi110) rfl rfl
theorem x110_1 {z : P0} : X z 110 1 = XI mT z (X z) (.istore_n 2, 1, 2, 0, 0, [], 0, 0) 110 1 := X_at (r := mi110) rfl rfl
theorem x110_2 {z : P0} : X z 110 2 = XI mT z (X z) (.iconst 0, 1, 0, 0, 0, [], nI 0, 0) 110 2 := X_at (r := mi110) rfl rfl
theorem x110_3 {z : P0} : X z 110 3 = XI mT z (X z) (.istore_n 3, 1, 3, 0, 0, [], 0, 0) 110 3 := X_at (r := mi110) rfl rfl
theorem x110_4 {z : P0} : X z 110 4 = XI mT z (X z) (.iload_n 3, 1, 3, 0, 0, [], 0, 0) 110 4 := X_at (r := mi110) rfl rfl
theorem x110_5 {z : P0} : X z 110 5 = XI mT z (X z) (.aload_n 0, 1, 0, 0, 0, [], 0, 0) 110 5 := X_at (r := mi110) rfl rfl
theorem x110_6 {z : P0} : X z 110 6 = XI mT z (X z) (.getfield 7, 3, 11, 0, 3, [134], 0, 0) 110 6 := X_at (r := mi110) rfl rfl
theorem x110_9 {z : P0} : X z 110 9 = XI mT z (X z) (.bipush 12, 2, 0, 0, 0, [], nI 12, 0) 110 9 := X_at (r := mi110) rfl rfl
theorem x110_11 {z : P0} : X z 110 11 = XI mT z (X z) (.iaload, 1, 0, 0, 0, [], 0, 0) 110 11 := X_at (r := mi110) rfl rfl
theorem x110_12 {z : P0} : X z 110 12 = XI mT z (X z) (.if_icmp .ge 31, 3, 43, 0, 0, [], 0, 0) 110 12 := X_at (r := mi110) rfl rfl
theorem x110_15 {z : P0} : X z 110 15 = XI mT z (X z) (.iload_n 2, 1, 2, 0, 0, [], 0, 0) 110 15 := X_at (r := mi110) rfl rfl
theorem x110_16 {z : P0} : X z 110 16 = XI mT z (X z) (.aload_n 0, 1, 0, 0, 0, [], 0, 0) 110 16 := X_at (r := mi110) rfl rfl
theorem x110_17 {z : P0} : X z 110 17 = XI mT z (X z) (.getfield 7, 3, 11, 0, 3, [134], 0, 0) 110 17 := X_at (r := mi110) rfl rfl
theorem x110_20 {z : P0} : X z 110 20 = XI mT z (X z) (.sipush 413, 3, 0, 0, 0, [], nI 413, 0) 110 20 := X_at (r := mi110) rfl rfl
theorem x110_23 {z : P0} : X z 110 23 = XI mT z (X z) (.iload_n 3, 1, 3, 0, 0, [], 0, 0) 110 23 := X_at (r := mi110) rfl rfl
theorem x110_24 {z : P0} : X z 110 24 = XI mT z (X z) (.iadd, 1, 0, 0, 0, [], 0, 0) 110 24 := X_at (r := mi110) rfl rfl
theorem x110_25 {z : P0} : X z 110 25 = XI mT z (X z) (.iaload, 1, 0, 0, 0, [], 0, 0) 110 25 := X_at (r := mi110) rfl rfl
theorem x110_26 {z : P0} : X z 110 26 = XI mT z (X z) (.iload_n 1, 1, 1, 0, 0, [], 0, 0) 110 26 := X_at (r := mi110) rfl rfl
theorem x110_27 {z : P0} : X z 110 27 = XI mT z (X z) (.if_icmp .ne 7, 3, 34, 0, 0, [], 0, 0) 110 27 := X_at (r := mi110) rfl rfl
theorem x110_30 {z : P0} : X z 110 30 = XI mT z (X z) (.iconst 1, 1, 0, 0, 0, [], nI 1, 0) 110 30 := X_at (r := mi110) rfl rfl
theorem x110_31 {z : P0} : X z 110 31 = XI mT z (X z) (.goto 4, 3, 35, 0, 0, [], 0, 0) 110 31 := X_at (r := mi110) rfl rfl
theorem x110_34 {z : P0} : X z 110 34 = XI mT z (X z) (.iconst 0, 1, 0, 0, 0, [], nI 0, 0) 110 34 := X_at (r := mi110) rfl rfl
theorem x110_35 {z : P0} : X z 110 35 = XI mT z (X z) (.iadd, 1, 0, 0, 0, [], 0, 0) 110 35 := X_at (r := mi110) rfl rfl
theorem x110_36 {z : P0} : X z 110 36 = XI mT z (X z) (.istore_n 2, 1, 2, 0, 0, [], 0, 0) 110 36 := X_at (r := mi110) rfl rfl
theorem x110_37 {z : P0} : X z 110 37 = XI mT z (X z) (.iinc 3 1, 3, 3, 0, 0, [], nI 1, 0) 110 37 := X_at (r := mi110) rfl rfl
theorem x110_40 {z : P0} : X z 110 40 = XI mT z (X z) (.goto (-36), 3, 4, 0, 0, [], 0, 0) 110 40 := X_at (r := mi110) rfl rfl
theorem x110_43 {z : P0} : X z 110 43 = XI mT z (X z) (.iload_n 2, 1, 2, 0, 0, [], 0, 0) 110 43 := X_at (r := mi110) rfl rfl
theorem x110_44 {z : P0} : X z 110 44 = XI mT z (X z) (.ireturn, 1, 0, 0, 0, [], 0, 0) 110 44 := X_at (r := mi110) rfl rfl
theorem x111_0 {z : P0} : X z 111 0 = XI mT z (X z) (.iconst 0, 1, 0, 0, 0, [], nI 0, 0) 111 0 := X_at (r := mi111) rfl rfl
theorem x111_1 {z : P0} : X z 111 1 = XI mT z (X z) (.istore_n 1, 1, 1, 0, 0, [], 0, 0) 111 1 := X_at (r := mi111) rfl rfl
theorem x111_2 {z : P0} : X z 111 2 = XI mT z (X z) (.iconst 0, 1, 0, 0, 0, [], nI 0, 0) 111 2 := X_at (r := mi111) rfl rfl
theorem x111_3 {z : P0} : X z 111 3 = XI mT z (X z) (.istore_n 2, 1, 2, 0, 0, [], 0, 0) 111 3 := X_at (r := mi111) rfl rfl
theorem x111_4 {z : P0} : X z 111 4 = XI mT z (X z) (.iload_n 2, 1, 2, 0, 0, [], 0, 0) 111 4 := X_at (r := mi111) rfl rfl
theorem x111_5 {z : P0} : X z 111 5 = XI mT z (X z) (.aload_n 0, 1, 0, 0, 0, [], 0, 0) 111 5 := X_at (r := mi111) rfl rfl
theorem x111_6 {z : P0} : X z 111 6 = XI mT z (X z) (.getfield 7, 3, 11, 0, 3, [134], 0, 0) 111 6 := X_at (r := mi111) rfl rfl
theorem x111_9 {z : P0} : X z 111 9 = XI mT z (X z) (.bipush 12, 2, 0, 0, 0, [], nI 12, 0) 111 9 := X_at (r := mi111) rfl rfl
theorem x111_11 {z : P0} : X z 111 11 = XI mT z (X z) (.iaload, 1, 0, 0, 0, [], 0, 0) 111 11 := X_at (r := mi111) rfl rfl
theorem x111_12 {z : P0} : X z 111 12 = XI mT z (X z) (.if_icmp .ge 33, 3, 45, 0, 0, [], 0, 0) 111 12 := X_at (r := mi111) rfl rfl
theorem x111_15 {z : P0} : X z 111 15 = XI mT z (X z) (.iload_n 1, 1, 1, 0, 0, [], 0, 0) 111 15 := X_at (r := mi111) rfl rfl
theorem x111_16 {z : P0} : X z 111 16 = XI mT z (X z) (.aload_n 0, 1, 0, 0, 0, [], 0, 0) 111 16 := X_at (r := mi111) rfl rfl
theorem x111_17 {z : P0} : X z 111 17 = XI mT z (X z) (.getfield 7, 3, 11, 0, 3, [134], 0, 0) 111 17 := X_at (r := mi111) rfl rfl
theorem x111_20 {z : P0} : X z 111 20 = XI mT z (X z) (.sipush 413, 3, 0, 0, 0, [], nI 413, 0) 111 20 := X_at (r := mi111) rfl rfl
theorem x111_23 {z : P0} : X z 111 23 = XI mT z (X z) (.iload_n 2, 1, 2, 0, 0, [], 0, 0) 111 23 := X_at (r := mi111) rfl rfl
theorem x111_24 {z : P0} : X z 111 24 = XI mT z (X z) (.iadd, 1, 0, 0, 0, [], 0, 0) 111 24 := X_at (r := mi111) rfl rfl
theorem x111_25 {z : P0} : X z 111 25 = XI mT z (X z) (.iaload, 1, 0, 0, 0, [], 0, 0) 111 25 := X_at (r := mi111) rfl rfl
theorem x111_26 {z : P0} : X z 111 26 = XI mT z (X z) (.sipush 256, 3, 0, 0, 0, [], nI 256, 0) 111 26 := X_at (r := mi111) rfl rfl
theorem x111_29 {z : P0} : X z 111 29 = XI mT z (X z) (.if_icmp .lt 7, 3, 36, 0, 0, [], 0, 0) 111 29 := X_at (r := mi111) rfl rfl
theorem x111_32 {z : P0} : X z 111 32 = XI mT z (X z) (.iconst 1, 1, 0, 0, 0, [], nI 1, 0) 111 32 := X_at (r := mi111) rfl rfl
theorem x111_33 {z : P0} : X z 111 33 = XI mT z (X z) (.goto 4, 3, 37, 0, 0, [], 0, 0) 111 33 := X_at (r := mi111) rfl rfl
theorem x111_36 {z : P0} : X z 111 36 = XI mT z (X z) (.iconst 0, 1, 0, 0, 0, [], nI 0, 0) 111 36 := X_at (r := mi111) rfl rfl
theorem x111_37 {z : P0} : X z 111 37 = XI mT z (X z) (.iadd, 1, 0, 0, 0, [], 0, 0) 111 37 := X_at (r := mi111) rfl rfl
theorem x111_38 {z : P0} : X z 111 38 = XI mT z (X z) (.istore_n 1, 1, 1, 0, 0, [], 0, 0) 111 38 := X_at (r := mi111) rfl rfl
theorem x111_39 {z : P0} : X z 111 39 = XI mT z (X z) (.iinc 2 1, 3, 2, 0, 0, [], nI 1, 0) 111 39 := X_at (r := mi111) rfl rfl
theorem x111_42 {z : P0} : X z 111 42 = XI mT z (X z) (.goto (-38), 3, 4, 0, 0, [], 0, 0) 111 42 := X_at (r := mi111) rfl rfl
theorem x111_45 {z : P0} : X z 111 45 = XI mT z (X z) (.iload_n 1, 1, 1, 0, 0, [], 0, 0) 111 45 := X_at (r := mi111) rfl rfl
theorem x111_46 {z : P0} : X z 111 46 = XI mT z (X z) (.ireturn, 1, 0, 0, 0, [], 0, 0) 111 46 := X_at (r := mi111) rfl rfl
theorem x112_0 {z : P0} : X z 112 0 = XI mT z (X z) (.aload_n 0, 1, 0, 0, 0, [], 0, 0) 112 0 := X_at (r := mi112) rfl rfl
theorem x112_1 {z : P0} : X z 112 1 = XI mT z (X z) (.getfield 7, 3, 11, 0, 3, [134], 0, 0) 112 1 := X_at (r := mi112) rfl rfl
theorem x112_4 {z : P0} : X z 112 4 = XI mT z (X z) (.bipush 73, 2, 0, 0, 0, [], nI 73, 0) 112 4 := X_at (r := mi112) rfl rfl
theorem x112_6 {z : P0} : X z 112 6 = XI mT z (X z) (.iload_n 1, 1, 1, 0, 0, [], 0, 0) 112 6 := X_at (r := mi112) rfl rfl
theorem x112_7 {z : P0} : X z 112 7 = XI mT z (X z) (.iadd, 1, 0, 0, 0, [], 0, 0) 112 7 := X_at (r := mi112) rfl rfl
theorem x112_8 {z : P0} : X z 112 8 = XI mT z (X z) (.iaload, 1, 0, 0, 0, [], 0, 0) 112 8 := X_at (r := mi112) rfl rfl
theorem x112_9 {z : P0} : X z 112 9 = XI mT z (X z) (.iconst 1, 1, 0, 0, 0, [], nI 1, 0) 112 9 := X_at (r := mi112) rfl rfl
theorem x112_10 {z : P0} : X z 112 10 = XI mT z (X z) (.if_icmp .ne 5, 3, 15, 0, 0, [], 0, 0) 112 10 := X_at (r := mi112) rfl rfl
theorem x112_13 {z : P0} : X z 112 13 = XI mT z (X z) (.iconst 1, 1, 0, 0, 0, [], nI 1, 0) 112 13 := X_at (r := mi112) rfl rfl
theorem x112_14 {z : P0} : X z 112 14 = XI mT z (X z) (.ireturn, 1, 0, 0, 0, [], 0, 0) 112 14 := X_at (r := mi112) rfl rfl
theorem x112_15 {z : P0} : X z 112 15 = XI mT z (X z) (.aload_n 0, 1, 0, 0, 0, [], 0, 0) 112 15 := X_at (r := mi112) rfl rfl
theorem x112_16 {z : P0} : X z 112 16 = XI mT z (X z) (.getfield 7, 3, 11, 0, 3, [134], 0, 0) 112 16 := X_at (r := mi112) rfl rfl
theorem x112_19 {z : P0} : X z 112 19 = XI mT z (X z) (.bipush 93, 2, 0, 0, 0, [], nI 93, 0) 112 19 := X_at (r := mi112) rfl rfl
theorem x112_21 {z : P0} : X z 112 21 = XI mT z (X z) (.iload_n 1, 1, 1, 0, 0, [], 0, 0) 112 21 := X_at (r := mi112) rfl rfl
theorem x112_22 {z : P0} : X z 112 22 = XI mT z (X z) (.iadd, 1, 0, 0, 0, [], 0, 0) 112 22 := X_at (r := mi112) rfl rfl
theorem x112_23 {z : P0} : X z 112 23 = XI mT z (X z) (.iaload, 1, 0, 0, 0, [], 0, 0) 112 23 := X_at (r := mi112) rfl rfl
theorem x112_24 {z : P0} : X z 112 24 = XI mT z (X z) (.iconst (-1), 1, 0, 0, 0, [], (-1), 0) 112 24 := X_at (r := mi112) rfl rfl
theorem x112_25 {z : P0} : X z 112 25 = XI mT z (X z) (.if_icmp .eq 25, 3, 50, 0, 0, [], 0, 0) 112 25 := X_at (r := mi112) rfl rfl
theorem x112_28 {z : P0} : X z 112 28 = XI mT z (X z) (.iload_n 2, 1, 2, 0, 0, [], 0, 0) 112 28 := X_at (r := mi112) rfl rfl
theorem x112_29 {z : P0} : X z 112 29 = XI mT z (X z) (.aload_n 0, 1, 0, 0, 0, [], 0, 0) 112 29 := X_at (r := mi112) rfl rfl
theorem x112_30 {z : P0} : X z 112 30 = XI mT z (X z) (.getfield 7, 3, 11, 0, 3, [134], 0, 0) 112 30 := X_at (r := mi112) rfl rfl
theorem x112_33 {z : P0} : X z 112 33 = XI mT z (X z) (.bipush 93, 2, 0, 0, 0, [], nI 93, 0) 112 33 := X_at (r := mi112) rfl rfl
theorem x112_35 {z : P0} : X z 112 35 = XI mT z (X z) (.iload_n 1, 1, 1, 0, 0, [], 0, 0) 112 35 := X_at (r := mi112) rfl rfl
theorem x112_36 {z : P0} : X z 112 36 = XI mT z (X z) (.iadd, 1, 0, 0, 0, [], 0, 0) 112 36 := X_at (r := mi112) rfl rfl
theorem x112_37 {z : P0} : X z 112 37 = XI mT z (X z) (.iaload, 1, 0, 0, 0, [], 0, 0) 112 37 := X_at (r := mi112) rfl rfl
theorem x112_38 {z : P0} : X z 112 38 = XI mT z (X z) (.isub, 1, 0, 0, 0, [], 0, 0) 112 38 := X_at (r := mi112) rfl rfl
theorem x112_39 {z : P0} : X z 112 39 = XI mT z (X z) (.aload_n 0, 1, 0, 0, 0, [], 0, 0) 112 39 := X_at (r := mi112) rfl rfl
theorem x112_40 {z : P0} : X z 112 40 = XI mT z (X z) (.getfield 7, 3, 11, 0, 3, [134], 0, 0) 112 40 := X_at (r := mi112) rfl rfl
theorem x112_43 {z : P0} : X z 112 43 = XI mT z (X z) (.iconst 3, 1, 0, 0, 0, [], nI 3, 0) 112 43 := X_at (r := mi112) rfl rfl
theorem x112_44 {z : P0} : X z 112 44 = XI mT z (X z) (.iaload, 1, 0, 0, 0, [], 0, 0) 112 44 := X_at (r := mi112) rfl rfl
theorem x112_45 {z : P0} : X z 112 45 = XI mT z (X z) (.if_icmp .ge 5, 3, 50, 0, 0, [], 0, 0) 112 45 := X_at (r := mi112) rfl rfl
theorem x112_48 {z : P0} : X z 112 48 = XI mT z (X z) (.iconst 2, 1, 0, 0, 0, [], nI 2, 0) 112 48 := X_at (r := mi112) rfl rfl
theorem x112_49 {z : P0} : X z 112 49 = XI mT z (X z) (.ireturn, 1, 0, 0, 0, [], 0, 0) 112 49 := X_at (r := mi112) rfl rfl
theorem x112_50 {z : P0} : X z 112 50 = XI mT z (X z) (.aload_n 0, 1, 0, 0, 0, [], 0, 0) 112 50 := X_at (r := mi112) rfl rfl
theorem x112_51 {z : P0} : X z 112 51 = XI mT z (X z) (.getfield 7, 3, 11, 0, 3, [134], 0, 0) 112 51 := X_at (r := mi112) rfl rfl
theorem x112_54 {z : P0} : X z 112 54 = XI mT z (X z) (.bipush 53, 2, 0, 0, 0, [], nI 53, 0) 112 54 := X_at (r := mi112) rfl rfl
theorem x112_56 {z : P0} : X z 112 56 = XI mT z (X z) (.iload_n 1, 1, 1, 0, 0, [], 0, 0) 112 56 := X_at (r := mi112) rfl rfl
theorem x112_57 {z : P0} : X z 112 57 = XI mT z (X z) (.iadd, 1, 0, 0, 0, [], 0, 0) 112 57 := X_at (r := mi112) rfl rfl
theorem x112_58 {z : P0} : X z 112 58 = XI mT z (X z) (.iaload, 1, 0, 0, 0, [], 0, 0) 112 58 := X_at (r := mi112) rfl rfl
theorem x112_59 {z : P0} : X z 112 59 = XI mT z (X z) (.iconst (-1), 1, 0, 0, 0, [], (-1), 0) 112 59 := X_at (r := mi112) rfl rfl
theorem x112_60 {z : P0} : X z 112 60 = XI mT z (X z) (.if_icmp .ne 17, 3, 77, 0, 0, [], 0, 0) 112 60 := X_at (r := mi112) rfl rfl
theorem x112_63 {z : P0} : X z 112 63 = XI mT z (X z) (.aload_n 0, 1, 0, 0, 0, [], 0, 0) 112 63 := X_at (r := mi112) rfl rfl
theorem x112_64 {z : P0} : X z 112 64 = XI mT z (X z) (.sipush 375, 3, 0, 0, 0, [], nI 375, 0) 112 64 := X_at (r := mi112) rfl rfl
theorem x112_67 {z : P0} : X z 112 67 = XI mT z (X z) (.invokevirtual 51, 3, 1, 110, 0, [108], 0, 0) 112 67 := X_at (r := mi112) rfl rfl
theorem x112_70 {z : P0} : X z 112 70 = XI mT z (X z) (.ifCond .le 7, 3, 77, 0, 0, [], 0, 0) 112 70 := X_at (r := mi112) rfl rfl
theorem x112_73 {z : P0} : X z 112 73 = XI mT z (X z) (.iconst 3, 1, 0, 0, 0, [], nI 3, 0) 112 73 := X_at (r := mi112) rfl rfl
theorem x112_74 {z : P0} : X z 112 74 = XI mT z (X z) (.goto 4, 3, 78, 0, 0, [], 0, 0) 112 74 := X_at (r := mi112) rfl rfl
theorem x112_77 {z : P0} : X z 112 77 = XI mT z (X z) (.iconst 0, 1, 0, 0, 0, [], nI 0, 0) 112 77 := X_at (r := mi112) rfl rfl
theorem x112_78 {z : P0} : X z 112 78 = XI mT z (X z) (.ireturn, 1, 0, 0, 0, [], 0, 0) 112 78 := X_at (r := mi112) rfl rfl
theorem x113_0 {z : P0} : X z 113 0 = XI mT z (X z) (.iconst 0, 1, 0, 0, 0, [], nI 0, 0) 113 0 := X_at (r := mi113) rfl rfl
theorem x113_1 {z : P0} : X z 113 1 = XI mT z (X z) (.istore_n 2, 1, 2, 0, 0, [], 0, 0) 113 1 := X_at (r := mi113) rfl rfl
theorem x113_2 {z : P0} : X z 113 2 = XI mT z (X z) (.aload_n 0, 1, 0, 0, 0, [], 0, 0) 113 2 := X_at (r := mi113) rfl rfl
theorem x113_3 {z : P0} : X z 113 3 = XI mT z (X z) (.getfield 19, 3, 11, 6, 3, [137], 0, 0) 113 3 := X_at (r := mi113) rfl rfl
theorem x113_6 {z : P0} : X z 113 6 = XI mT z (X z) (.iload_n 1, 1, 1, 0, 0, [], 0, 0) 113 6 := X_at (r := mi113) rfl rfl
theorem x113_7 {z : P0} : X z 113 7 = XI mT z (X z) (.iaload, 1, 0, 0, 0, [], 0, 0) 113 7 := X_at (r := mi113) rfl rfl
theorem x113_8 {z : P0} : X z 113 8 = XI mT z (X z) (.iload_n 2, 1, 2, 0, 0, [], 0, 0) 113 8 := X_at (r := mi113) rfl rfl
theorem x113_9 {z : P0} : X z 113 9 = XI mT z (X z) (.ishr, 1, 0, 0, 0, [], 0, 0) 113 9 := X_at (r := mi113) rfl rfl
theorem x113_10 {z : P0} : X z 113 10 = XI mT z (X z) (.iconst 1, 1, 0, 0, 0, [], nI 1, 0) 113 10 := X_at (r := mi113) rfl rfl
theorem x113_11 {z : P0} : X z 113 11 = XI mT z (X z) (.iand, 1, 0, 0, 0, [], 0, 0) 113 11 := X_at (r := mi113) rfl rfl
theorem x113_12 {z : P0} : X z 113 12 = XI mT z (X z) (.ifCond .ne 9, 3, 21, 0, 0, [], 0, 0) 113 12 := X_at (r := mi113) rfl rfl
theorem x113_15 {z : P0} : X z 113 15 = XI mT z (X z) (.iinc 2 1, 3, 2, 0, 0, [], nI 1, 0) 113 15 := X_at (r := mi113) rfl rfl
theorem x113_18 {z : P0} : X z 113 18 = XI mT z (X z) (.goto (-16), 3, 2, 0, 0, [], 0, 0) 113 18 := X_at (r := mi113) rfl rfl
theorem x113_21 {z : P0} : X z 113 21 = XI mT z (X z) (.iload_n 2, 1, 2, 0, 0, [], 0, 0) 113 21 := X_at (r := mi113) rfl rfl
theorem x113_22 {z : P0} : X z 113 22 = XI mT z (X z) (.ireturn, 1, 0, 0, 0, [], 0, 0) 113 22 := X_at (r := mi113) rfl rfl
theorem x114_0 {z : P0} : X z 114 0 = XI mT z (X z) (.iconst 0, 1, 0, 0, 0, [], nI 0, 0) 114 0 := X_at (r := mi114) rfl rfl
theorem x114_1 {z : P0} : X z 114 1 = XI mT z (X z) (.istore_n 2, 1, 2, 0, 0, [], 0, 0) 114 1 := X_at (r := mi114) rfl rfl
theorem x114_2 {z : P0} : X z 114 2 = XI mT z (X z) (.iload_n 2, 1, 2, 0, 0, [], 0, 0) 114 2 := X_at (r := mi114) rfl rfl
theorem x114_3 {z : P0} : X z 114 3 = XI mT z (X z) (.aload_n 0, 1, 0, 0, 0, [], 0, 0) 114 3 := X_at (r := mi114) rfl rfl
theorem x114_4 {z : P0} : X z 114 4 = XI mT z (X z) (.getfield 55, 3, 11, 12, 0, [146], 0, 0) 114 4 := X_at (r := mi114) rfl rfl
theorem x114_7 {z : P0} : X z 114 7 = XI mT z (X z) (.if_icmp .ge 51, 3, 58, 0, 0, [], 0, 0) 114 7 := X_at (r := mi114) rfl rfl
theorem x114_10 {z : P0} : X z 114 10 = XI mT z (X z) (.aload_n 0, 1, 0, 0, 0, [], 0, 0) 114 10 := X_at (r := mi114) rfl rfl
theorem x114_11 {z : P0} : X z 114 11 = XI mT z (X z) (.getfield 7, 3, 11, 0, 3, [134], 0, 0) 114 11 := X_at (r := mi114) rfl rfl
theorem x114_14 {z : P0} : X z 114 14 = XI mT z (X z) (.bipush 13, 2, 0, 0, 0, [], nI 13, 0) 114 14 := X_at (r := mi114) rfl rfl
theorem x114_16 {z : P0} : X z 114 16 = XI mT z (X z) (.aload_n 0, 1, 0, 0, 0, [], 0, 0) 114 16 := X_at (r := mi114) rfl rfl
theorem x114_17 {z : P0} : X z 114 17 = XI mT z (X z) (.iload_n 2, 1, 2, 0, 0, [], 0, 0) 114 17 := X_at (r := mi114) rfl rfl
theorem x114_18 {z : P0} : X z 114 18 = XI mT z (X z) (.invokevirtual 58, 3, 1, 113, 0, [109], 0, 0) 114 18 := X_at (r := mi114) rfl rfl
theorem x114_21 {z : P0} : X z 114 21 = XI mT z (X z) (.iadd, 1, 0, 0, 0, [], 0, 0) 114 21 := X_at (r := mi114) rfl rfl
theorem x114_22 {z : P0} : X z 114 22 = XI mT z (X z) (.iaload, 1, 0, 0, 0, [], 0, 0) 114 22 := X_at (r := mi114) rfl rfl
theorem x114_23 {z : P0} : X z 114 23 = XI mT z (X z) (.aload_n 0, 1, 0, 0, 0, [], 0, 0) 114 23 := X_at (r := mi114) rfl rfl
theorem x114_24 {z : P0} : X z 114 24 = XI mT z (X z) (.getfield 7, 3, 11, 0, 3, [134], 0, 0) 114 24 := X_at (r := mi114) rfl rfl
theorem x114_27 {z : P0} : X z 114 27 = XI mT z (X z) (.bipush 13, 2, 0, 0, 0, [], nI 13, 0) 114 27 := X_at (r := mi114) rfl rfl
theorem x114_29 {z : P0} : X z 114 29 = XI mT z (X z) (.iload_n 1, 1, 1, 0, 0, [], 0, 0) 114 29 := X_at (r := mi114) rfl rfl
theorem x114_30 {z : P0} : X z 114 30 = XI mT z (X z) (.iadd, 1, 0, 0, 0, [], 0, 0) 114 30 := X_at (r := mi114) rfl rfl
theorem x114_31 {z : P0} : X z 114 31 = XI mT z (X z) (.iaload, 1, 0, 0, 0, [], 0, 0) 114 31 := X_at (r := mi114) rfl rfl
theorem x114_32 {z : P0} : X z 114 32 = XI mT z (X z) (.if_icmp .ne 20, 3, 52, 0, 0, [], 0, 0) 114 32 := X_at (r := mi114) rfl rfl
theorem x114_35 {z : P0} : X z 114 35 = XI mT z (X z) (.aload_n 0, 1, 0, 0, 0, [], 0, 0) 114 35 := X_at (r := mi114) rfl rfl
theorem x114_36 {z : P0} : X z 114 36 = XI mT z (X z) (.getfield 22, 3, 11, 7, 3, [138], 0, 0) 114 36 := X_at (r := mi114) rfl rfl
theorem x114_39 {z : P0} : X z 114 39 = XI mT z (X z) (.iload_n 2, 1, 2, 0, 0, [], 0, 0) 114 39 := X_at (r := mi114) rfl rfl
theorem x114_40 {z : P0} : X z 114 40 = XI mT z (X z) (.iaload, 1, 0, 0, 0, [], 0, 0) 114 40 := X_at (r := mi114) rfl rfl
theorem x114_41 {z : P0} : X z 114 41 = XI mT z (X z) (.aload_n 0, 1, 0, 0, 0, [], 0, 0) 114 41 := X_at (r := mi114) rfl rfl
theorem x114_42 {z : P0} : X z 114 42 = XI mT z (X z) (.getfield 7, 3, 11, 0, 3, [134], 0, 0) 114 42 := X_at (r := mi114) rfl rfl
theorem x114_45 {z : P0} : X z 114 45 = XI mT z (X z) (.iconst 2, 1, 0, 0, 0, [], nI 2, 0) 114 45 := X_at (r := mi114) rfl rfl
theorem x114_46 {z : P0} : X z 114 46 = XI mT z (X z) (.iaload, 1, 0, 0, 0, [], 0, 0) 114 46 := X_at (r := mi114) rfl rfl
theorem x114_47 {z : P0} : X z 114 47 = XI mT z (X z) (.if_icmp .ge 5, 3, 52, 0, 0, [], 0, 0) 114 47 := X_at (r := mi114) rfl rfl
theorem x114_50 {z : P0} : X z 114 50 = XI mT z (X z) (.iload_n 2, 1, 2, 0, 0, [], 0, 0) 114 50 := X_at (r := mi114) rfl rfl
theorem x114_51 {z : P0} : X z 114 51 = XI mT z (X z) (.ireturn, 1, 0, 0, 0, [], 0, 0) 114 51 := X_at (r := mi114) rfl rfl
theorem x114_52 {z : P0} : X z 114 52 = XI mT z (X z) (.iinc 2 1, 3, 2, 0, 0, [], nI 1, 0) 114 52 := X_at (r := mi114) rfl rfl
theorem x114_55 {z : P0} : X z 114 55 = XI mT z (X z) (.goto (-53), 3, 2, 0, 0, [], 0, 0) 114 55 := X_at (r := mi114) rfl rfl
theorem x114_58 {z : P0} : X z 114 58 = XI mT z (X z) (.aload_n 0, 1, 0, 0, 0, [], 0, 0) 114 58 := X_at (r := mi114) rfl rfl
theorem x114_59 {z : P0} : X z 114 59 = XI mT z (X z) (.getfield 19, 3, 11, 6, 3, [137], 0, 0) 114 59 := X_at (r := mi114) rfl rfl
theorem x114_62 {z : P0} : X z 114 62 = XI mT z (X z) (.aload_n 0, 1, 0, 0, 0, [], 0, 0) 114 62 := X_at (r := mi114) rfl rfl
theorem x114_63 {z : P0} : X z 114 63 = XI mT z (X z) (.getfield 55, 3, 11, 12, 0, [146], 0, 0) 114 63 := X_at (r := mi114) rfl rfl
theorem x114_66 {z : P0} : X z 114 66 = XI mT z (X z) (.iconst 0, 1, 0, 0, 0, [], nI 0, 0) 114 66 := X_at (r := mi114) rfl rfl
theorem x114_67 {z : P0} : X z 114 67 = XI mT z (X z) (.iastore, 1, 0, 0, 0, [], 0, 0) 114 67 := X_at (r := mi114) rfl rfl
theorem x114_68 {z : P0} : X z 114 68 = XI mT z (X z) (.aload_n 0, 1, 0, 0, 0, [], 0, 0) 114 68 := X_at (r := mi114) rfl rfl
theorem x114_69 {z : P0} : X z 114 69 = XI mT z (X z) (.getfield 22, 3, 11, 7, 3, [138], 0, 0) 114 69 := X_at (r := mi114) rfl rfl
theorem x114_72 {z : P0} : X z 114 72 = XI mT z (X z) (.aload_n 0, 1, 0, 0, 0, [], 0, 0) 114 72 := X_at (r := mi114) rfl rfl
theorem x114_73 {z : P0} : X z 114 73 = XI mT z (X z) (.getfield 55, 3, 11, 12, 0, [146], 0, 0) 114 73 := X_at (r := mi114) rfl rfl
theorem x114_76 {z : P0} : X z 114 76 = XI mT z (X z) (.iconst 0, 1, 0, 0, 0, [], nI 0, 0) 114 76 := X_at (r := mi114) rfl rfl
theorem x114_77 {z : P0} : X z 114 77 = XI mT z (X z) (.iastore, 1, 0, 0, 0, [], 0, 0) 114 77 := X_at (r := mi114) rfl rfl
theorem x114_78 {z : P0} : X z 114 78 = XI mT z (X z) (.aload_n 0, 1, 0, 0, 0, [], 0, 0) 114 78 := X_at (r := mi114) rfl rfl
theorem x114_79 {z : P0} : X z 114 79 = XI mT z (X z) (.dup, 1, 0, 0, 0, [], 0, 0) 114 79 := X_at (r := mi114) rfl rfl
theorem x114_80 {z : P0} : X z 114 80 = XI mT z (X z) (.getfield 55, 3, 11, 12, 0, [146], 0, 0) 114 80 := X_at (r := mi114) rfl rfl
theorem x114_83 {z : P0} : X z 114 83 = XI mT z (X z) (.iconst 1, 1, 0, 0, 0, [], nI 1, 0) 114 83 := X_at (r := mi114) rfl rfl
theorem x114_84 {z : P0} : X z 114 84 = XI mT z (X z) (.iadd, 1, 0, 0, 0, [], 0, 0) 114 84 := X_at (r := mi114) rfl rfl
theorem x114_85 {z : P0} : X z 114 85 = XI mT z (X z) (.putfield 55, 3, 11, 12, 0, [146], 0, 0) 114 85 := X_at (r := mi114) rfl rfl
theorem x114_88 {z : P0} : X z 114 88 = XI mT z (X z) (.aload_n 0, 1, 0, 0, 0, [], 0, 0) 114 88 := X_at (r := mi114) rfl rfl
theorem x114_89 {z : P0} : X z 114 89 = XI mT z (X z) (.getfield 55, 3, 11, 12, 0, [146], 0, 0) 114 89 := X_at (r := mi114) rfl rfl
theorem x114_92 {z : P0} : X z 114 92 = XI mT z (X z) (.iconst 1, 1, 0, 0, 0, [], nI 1, 0) 114 92 := X_at (r := mi114) rfl rfl
theorem x114_93 {z : P0} : X z 114 93 = XI mT z (X z) (.isub, 1, 0, 0, 0, [], 0, 0) 114 93 := X_at (r := mi114) rfl rfl
theorem x114_94 {z : P0} : X z 114 94 = XI mT z (X z) (.ireturn, 1, 0, 0, 0, [], 0, 0) 114 94 := X_at (r := mi114) rfl rfl
theorem x115_0 {z : P0} : X z 115 0 = XI mT z (X z) (.aload_n 0, 1, 0, 0, 0, [], 0, 0) 115 0 := X_at (r := mi115) rfl rfl
theorem x115_1 {z : P0} : X z 115 1 = XI mT z (X z) (.iconst 0, 1, 0, 0, 0, [], nI 0, 0) 115 1 := X_at (r := mi115) rfl rfl
theorem x115_2 {z : P0} : X z 115 2 = XI mT z (X z) (.putfield 55, 3, 11, 12, 0, [146], 0, 0) 115 2 := X_at (r := mi115) rfl rfl
theorem x115_5 {z : P0} : X z 115 5 = XI mT z (X z) (.iconst 0, 1, 0, 0, 0, [], nI 0, 0) 115 5 := X_at (r := mi115) rfl rfl
theorem x115_6 {z : P0} : X z 115 6 = XI mT z (X z) (.istore_n 1, 1, 1, 0, 0, [], 0, 0) 115 6 := X_at (r := mi115) rfl rfl
theorem x115_7 {z : P0} : X z 115 7 = XI mT z (X z) (.iload_n 1, 1, 1, 0, 0, [], 0, 0) 115 7 := X_at (r := mi115) rfl rfl
theorem x115_8 {z : P0} : X z 115 8 = XI mT z (X z) (.aload_n 0, 1, 0, 0, 0, [], 0, 0) 115 8 := X_at (r := mi115) rfl rfl
theorem x115_9 {z : P0} : X z 115 9 = XI mT z (X z) (.getfield 7, 3, 11, 0, 3, [134], 0, 0) 115 9 := X_at (r := mi115) rfl rfl
theorem x115_12 {z : P0} : X z 115 12 = XI mT z (X z) (.bipush 6, 2, 0, 0, 0, [], nI 6, 0) 115 12 := X_at (r := mi115) rfl rfl
theorem x115_14 {z : P0} : X z 115 14 = XI mT z (X z) (.iaload, 1, 0, 0, 0, [], 0, 0) 115 14 := X_at (r := mi115) rfl rfl
theorem x115_15 {z : P0} : X z 115 15 = XI mT z (X z) (.if_icmp .ge 66, 3, 81, 0, 0, [], 0, 0) 115 15 := X_at (r := mi115) rfl rfl
theorem x115_18 {z : P0} : X z 115 18 = XI mT z (X z) (.aload_n 0, 1, 0, 0, 0, [], 0, 0) 115 18 := X_at (r := mi115) rfl rfl
theorem x115_19 {z : P0} : X z 115 19 = XI mT z (X z) (.getfield 34, 3, 11, 11, 3, [142], 0, 0) 115 19 := X_at (r := mi115) rfl rfl
theorem x115_22 {z : P0} : X z 115 22 = XI mT z (X z) (.iload_n 1, 1, 1, 0, 0, [], 0, 0) 115 22 := X_at (r := mi115) rfl rfl
theorem x115_23 {z : P0} : X z 115 23 = XI mT z (X z) (.iconst (-1), 1, 0, 0, 0, [], (-1), 0) 115 23 := X_at (r := mi115) rfl rfl
theorem x115_24 {z : P0} : X z 115 24 = XI mT z (X z) (.iastore, 1, 0, 0, 0, [], 0, 0) 115 24 := X_at (r := mi115) rfl rfl
theorem x115_25 {z : P0} : X z 115 25 = XI mT z (X z) (.aload_n 0, 1, 0, 0, 0, [], 0, 0) 115 25 := X_at (r := mi115) rfl rfl
theorem x115_26 {z : P0} : X z 115 26 = XI mT z (X z) (.iload_n 1, 1, 1, 0, 0, [], 0, 0) 115 26 := X_at (r := mi115) rfl rfl
theorem x115_27 {z : P0} : X z 115 27 = XI mT z (X z) (.aload_n 0, 1, 0, 0, 0, [], 0, 0) 115 27 := X_at (r := mi115) rfl rfl
theorem x115_28 {z : P0} : X z 115 28 = XI mT z (X z) (.getfield 7, 3, 11, 0, 3, [134], 0, 0) 115 28 := X_at (r := mi115) rfl rfl
theorem x115_31 {z : P0} : X z 115 31 = XI mT z (X z) (.bipush 8, 2, 0, 0, 0, [], nI 8, 0) 115 31 := X_at (r := mi115) rfl rfl
theorem x115_33 {z : P0} : X z 115 33 = XI mT z (X z) (.iaload, 1, 0, 0, 0, [], 0, 0) 115 33 := X_at (r := mi115) rfl rfl
theorem x115_34 {z : P0} : X z 115 34 = XI mT z (X z) (.invokevirtual 61, 3, 2, 112, 0, [110], 0, 0) 115 34 := X_at (r := mi115) rfl rfl
theorem x115_37 {z : P0} : X z 115 37 = XI mT z (X z) (.ifCond .ne 38, 3, 75, 0, 0, [], 0, 0) 115 37 := X_at (r := mi115) rfl rfl
theorem x115_40 {z : P0} : X z 115 40 = XI mT z (X z) (.aload_n 0, 1, 0, 0, 0, [], 0, 0) 115 40 := X_at (r := mi115) rfl rfl
theorem x115_41 {z : P0} : X z 115 41 = XI mT z (X z) (.iload_n 1, 1, 1, 0, 0, [], 0, 0) 115 41 := X_at (r := mi115) rfl rfl
theorem x115_42 {z : P0} : X z 115 42 = XI mT z (X z) (.invokevirtual 65, 3, 1, 114, 0, [111], 0, 0) 115 42 := X_at (r := mi115) rfl rfl
theorem x115_45 {z : P0} : X z 115 45 = XI mT z (X z) (.istore_n 2, 1, 2, 0, 0, [], 0, 0) 115 45 := X_at (r := mi115) rfl rfl
theorem x115_46 {z : P0} : X z 115 46 = XI mT z (X z) (.aload_n 0, 1, 0, 0, 0, [], 0, 0) 115 46 := X_at (r := mi115) rfl rfl
theorem x115_47 {z : P0} : X z 115 47 = XI mT z (X z) (.getfield 19, 3, 11, 6, 3, [137], 0, 0) 115 47 := X_at (r := mi115) rfl rfl
theorem x115_50 {z : P0} : X z 115 50 = XI mT z (X z) (.iload_n 2, 1, 2, 0, 0, [], 0, 0) 115 50 := X_at (r := mi115) rfl rfl
theorem x115_51 {z : P0} : X z 115 51 = XI mT z (X z) (.dup2, 1, 0, 0, 0, [], 0, 0) 115 51 := X_at (r := mi115) rfl rfl
theorem x115_52 {z : P0} : X z 115 52 = XI mT z (X z) (.iaload, 1, 0, 0, 0, [], 0, 0) 115 52 := X_at (r := mi115) rfl rfl
theorem x115_53 {z : P0} : X z 115 53 = XI mT z (X z) (.iconst 1, 1, 0, 0, 0, [], nI 1, 0) 115 53 := X_at (r := mi115) rfl rfl
theorem x115_54 {z : P0} : X z 115 54 = XI mT z (X z) (.iload_n 1, 1, 1, 0, 0, [], 0, 0) 115 54 := X_at (r := mi115) rfl rfl
theorem x115_55 {z : P0} : X z 115 55 = XI mT z (X z) (.ishl, 1, 0, 0, 0, [], 0, 0) 115 55 := X_at (r := mi115) rfl rfl
theorem x115_56 {z : P0} : X z 115 56 = XI mT z (X z) (.ior, 1, 0, 0, 0, [], 0, 0) 115 56 := X_at (r := mi115) rfl rfl
theorem x115_57 {z : P0} : X z 115 57 = XI mT z (X z) (.iastore, 1, 0, 0, 0, [], 0, 0) 115 57 := X_at (r := mi115) rfl rfl
theorem x115_58 {z : P0} : X z 115 58 = XI mT z (X z) (.aload_n 0, 1, 0, 0, 0, [], 0, 0) 115 58 := X_at (r := mi115) rfl rfl
theorem x115_59 {z : P0} : X z 115 59 = XI mT z (X z) (.getfield 22, 3, 11, 7, 3, [138], 0, 0) 115 59 := X_at (r := mi115) rfl rfl
theorem x115_62 {z : P0} : X z 115 62 = XI mT z (X z) (.iload_n 2, 1, 2, 0, 0, [], 0, 0) 115 62 := X_at (r := mi115) rfl rfl
theorem x115_63 {z : P0} : X z 115 63 = XI mT z (X z) (.dup2, 1, 0, 0, 0, [], 0, 0) 115 63 := X_at (r := mi115) rfl rfl
theorem x115_64 {z : P0} : X z 115 64 = XI mT z (X z) (.iaload, 1, 0, 0, 0, [], 0, 0) 115 64 := X_at (r := mi115) rfl rfl
theorem x115_65 {z : P0} : X z 115 65 = XI mT z (X z) (.iconst 1, 1, 0, 0, 0, [], nI 1, 0) 115 65 := X_at (r := mi115) rfl rfl
theorem x115_66 {z : P0} : X z 115 66 = XI mT z (X z) (.iadd, 1, 0, 0, 0, [], 0, 0) 115 66 := X_at (r := mi115) rfl rfl
theorem x115_67 {z : P0} : X z 115 67 = XI mT z (X z) (.iastore, 1, 0, 0, 0, [], 0, 0) 115 67 := X_at (r := mi115) rfl rfl
theorem x115_68 {z : P0} : X z 115 68 = XI mT z (X z) (.aload_n 0, 1, 0, 0, 0, [], 0, 0) 115 68 := X_at (r := mi115) rfl rfl
theorem x115_69 {z : P0} : X z 115 69 = XI mT z (X z) (.getfield 34, 3, 11, 11, 3, [142], 0, 0) 115 69 := X_at (r := mi115) rfl rfl
theorem x115_72 {z : P0} : X z 115 72 = XI mT z (X z) (.iload_n 1, 1, 1, 0, 0, [], 0, 0) 115 72 := X_at (r := mi115) rfl rfl
theorem x115_73 {z : P0} : X z 115 73 = XI mT z (X z) (.iload_n 2, 1, 2, 0, 0, [], 0, 0) 115 73 := X_at (r := mi115) rfl rfl
theorem x115_74 {z : P0} : X z 115 74 = XI mT z (X z) (.iastore, 1, 0, 0, 0, [], 0, 0) 115 74 := X_at (r := mi115) rfl rfl
theorem x115_75 {z : P0} : X z 115 75 = XI mT z (X z) (.iinc 1 1, 3, 1, 0, 0, [], nI 1, 0) 115 75 := X_at (r := mi115) rfl rfl
theorem x115_78 {z : P0} : X z 115 78 = XI mT z (X z) (.goto (-71), 3, 7, 0, 0, [], 0, 0) 115 78 := X_at (r := mi115) rfl rfl
theorem x115_81 {z : P0} : X z 115 81 = XI mT z (X z) (.return_, 1, 0, 0, 0, [], 0, 0) 115 81 := X_at (r := mi115) rfl rfl
theorem x116_0 {z : P0} : X z 116 0 = XI mT z (X z) (.aload_n 0, 1, 0, 0, 0, [], 0, 0) 116 0 := X_at (r := mi116) rfl rfl
theorem x116_1 {z : P0} : X z 116 1 = XI mT z (X z) (.getfield 37, 3, 11, 13, 3, [143], 0, 0) 116 1 := X_at (r := mi116) rfl rfl
theorem x116_4 {z : P0} : X z 116 4 = XI mT z (X z) (.aload_n 0, 1, 0, 0, 0, [], 0, 0) 116 4 := X_at (r := mi116) rfl rfl
theorem x116_5 {z : P0} : X z 116 5 = XI mT z (X z) (.getfield 68, 3, 11, 14, 0, [147], 0, 0) 116 5 := X_at (r := mi116) rfl rfl
theorem x116_8 {z : P0} : X z 116 8 = XI mT z (X z) (.iload_n 1, 1, 1, 0, 0, [], 0, 0) 116 8 := X_at (r := mi116) rfl rfl
theorem x116_9 {z : P0} : X z 116 9 = XI mT z (X z) (.iastore, 1, 0, 0, 0, [], 0, 0) 116 9 := X_at (r := mi116) rfl rfl
theorem x116_10 {z : P0} : X z 116 10 = XI mT z (X z) (.aload_n 0, 1, 0, 0, 0, [], 0, 0) 116 10 := X_at (r := mi116) rfl rfl
theorem x116_11 {z : P0} : X z 116 11 = XI mT z (X z) (.dup, 1, 0, 0, 0, [], 0, 0) 116 11 := X_at (r := mi116) rfl rfl
theorem x116_12 {z : P0} : X z 116 12 = XI mT z (X z) (.getfield 68, 3, 11, 14, 0, [147], 0, 0) 116 12 := X_at (r := mi116) rfl rfl
theorem x116_15 {z : P0} : X z 116 15 = XI mT z (X z) (.iconst 1, 1, 0, 0, 0, [], nI 1, 0) 116 15 := X_at (r := mi116) rfl rfl
theorem x116_16 {z : P0} : X z 116 16 = XI mT z (X z) (.iadd, 1, 0, 0, 0, [], 0, 0) 116 16 := X_at (r := mi116) rfl rfl
theorem x116_17 {z : P0} : X z 116 17 = XI mT z (X z) (.putfield 68, 3, 11, 14, 0, [147], 0, 0) 116 17 := X_at (r := mi116) rfl rfl
theorem x116_20 {z : P0} : X z 116 20 = XI mT z (X z) (.return_, 1, 0, 0, 0, [], 0, 0) 116 20 := X_at (r := mi116) rfl rfl
theorem x117_0 {z : P0} : X z 117 0 = XI mT z (X z) (.iload_n 1, 1, 1, 0, 0, [], 0, 0) 117 0 := X_at (r := mi117) rfl rfl
theorem x117_1 {z : P0} : X z 117 1 = XI mT z (X z) (.ifCond .le 21, 3, 22, 0, 0, [], 0, 0) 117 1 := X_at (r := mi117) rfl rfl
theorem x117_4 {z : P0} : X z 117 4 = XI mT z (X z) (.aload_n 0, 1, 0, 0, 0, [], 0, 0) 117 4 := X_at (r := mi117) rfl rfl
theorem x117_5 {z : P0} : X z 117 5 = XI mT z (X z) (.iload_n 1, 1, 1, 0, 0, [], 0, 0) 117 5 := X_at (r := mi117) rfl rfl
theorem x117_6 {z : P0} : X z 117 6 = XI mT z (X z) (.iload_n 2, 1, 2, 0, 0, [], 0, 0) 117 6 := X_at (r := mi117) rfl rfl
theorem x117_7 {z : P0} : X z 117 7 = XI mT z (X z) (.iconst 1, 1, 0, 0, 0, [], nI 1, 0) 117 7 := X_at (r := mi117) rfl rfl
theorem x117_8 {z : P0} : X z 117 8 = XI mT z (X z) (.isub, 1, 0, 0, 0, [], 0, 0) 117 8 := X_at (r := mi117) rfl rfl
theorem x117_9 {z : P0} : X z 117 9 = XI mT z (X z) (.if_icmp .ne 8, 3, 17, 0, 0, [], 0, 0) 117 9 := X_at (r := mi117) rfl rfl
theorem x117_12 {z : P0} : X z 117 12 = XI mT z (X z) (.bipush 38, 2, 0, 0, 0, [], nI 38, 0) 117 12 := X_at (r := mi117) rfl rfl
theorem x117_14 {z : P0} : X z 117 14 = XI mT z (X z) (.goto 5, 3, 19, 0, 0, [], 0, 0) 117 14 := X_at (r := mi117) rfl rfl
theorem x117_17 {z : P0} : X z 117 17 = XI mT z (X z) (.bipush 44, 2, 0, 0, 0, [], nI 44, 0) 117 17 := X_at (r := mi117) rfl rfl
theorem x117_19 {z : P0} : X z 117 19 = XI mT z (X z) (.invokevirtual 71, 3, 1, 116, 0, [112], 0, 0) 117 19 := X_at (r := mi117) rfl rfl
theorem x117_22 {z : P0} : X z 117 22 = XI mT z (X z) (.return_, 1, 0, 0, 0, [], 0, 0) 117 22 := X_at (r := mi117) rfl rfl
theorem x118_0 {z : P0} : X z 118 0 = XI mT z (X z) (.iconst 0, 1, 0, 0, 0, [], nI 0, 0) 118 0 := X_at (r := mi118) rfl rfl
theorem x118_1 {z : P0} : X z 118 1 = XI mT z (X z) (.istore_n 2, 1, 2, 0, 0, [], 0, 0) 118 1 := X_at (r := mi118) rfl rfl
theorem x118_2 {z : P0} : X z 118 2 = XI mT z (X z) (.iconst 0, 1, 0, 0, 0, [], nI 0, 0) 118 2 := X_at (r := mi118) rfl rfl
theorem x118_3 {z : P0} : X z 118 3 = XI mT z (X z) (.istore_n 3, 1, 3, 0, 0, [], 0, 0) 118 3 := X_at (r := mi118) rfl rfl
theorem x118_4 {z : P0} : X z 118 4 = XI mT z (X z) (.iload_n 3, 1, 3, 0, 0, [], 0, 0) 118 4 := X_at (r := mi118) rfl rfl
theorem x118_5 {z : P0} : X z 118 5 = XI mT z (X z) (.aload_n 0, 1, 0, 0, 0, [], 0, 0) 118 5 := X_at (r := mi118) rfl rfl
theorem x118_6 {z : P0} : X z 118 6 = XI mT z (X z) (.getfield 7, 3, 11, 0, 3, [134], 0, 0) 118 6 := X_at (r := mi118) rfl rfl
theorem x118_9 {z : P0} : X z 118 9 = XI mT z (X z) (.bipush 6, 2, 0, 0, 0, [], nI 6, 0) 118 9 := X_at (r := mi118) rfl rfl
theorem x118_11 {z : P0} : X z 118 11 = XI mT z (X z) (.iaload, 1, 0, 0, 0, [], 0, 0) 118 11 := X_at (r := mi118) rfl rfl
theorem x118_12 {z : P0} : X z 118 12 = XI mT z (X z) (.if_icmp .ge 81, 3, 93, 0, 0, [], 0, 0) 118 12 := X_at (r := mi118) rfl rfl
theorem x118_15 {z : P0} : X z 118 15 = XI mT z (X z) (.aload_n 0, 1, 0, 0, 0, [], 0, 0) 118 15 := X_at (r := mi118) rfl rfl
theorem x118_16 {z : P0} : X z 118 16 = XI mT z (X z) (.getfield 19, 3, 11, 6, 3, [137], 0, 0) 118 16 := X_at (r := mi118) rfl rfl
theorem x118_19 {z : P0} : X z 118 19 = XI mT z (X z) (.iload_n 1, 1, 1, 0, 0, [], 0, 0) 118 19 := X_at (r := mi118) rfl rfl
theorem x118_20 {z : P0} : X z 118 20 = XI mT z (X z) (.iaload, 1, 0, 0, 0, [], 0, 0) 118 20 := X_at (r := mi118) rfl rfl
theorem x118_21 {z : P0} : X z 118 21 = XI mT z (X z) (.iload_n 3, 1, 3, 0, 0, [], 0, 0) 118 21 := X_at (r := mi118) rfl rfl
theorem x118_22 {z : P0} : X z 118 22 = XI mT z (X z) (.ishr, 1, 0, 0, 0, [], 0, 0) 118 22 := X_at (r := mi118) rfl rfl
theorem x118_23 {z : P0} : X z 118 23 = XI mT z (X z) (.iconst 1, 1, 0, 0, 0, [], nI 1, 0) 118 23 := X_at (r := mi118) rfl rfl
theorem x118_24 {z : P0} : X z 118 24 = XI mT z (X z) (.iand, 1, 0, 0, 0, [], 0, 0) 118 24 := X_at (r := mi118) rfl rfl
theorem x118_25 {z : P0} : X z 118 25 = XI mT z (X z) (.iconst 1, 1, 0, 0, 0, [], nI 1, 0) 118 25 := X_at (r := mi118) rfl rfl
theorem x118_26 {z : P0} : X z 118 26 = XI mT z (X z) (.if_icmp .ne 61, 3, 87, 0, 0, [], 0, 0) 118 26 := X_at (r := mi118) rfl rfl
theorem x118_29 {z : P0} : X z 118 29 = XI mT z (X z) (.aload_n 0, 1, 0, 0, 0, [], 0, 0) 118 29 := X_at (r := mi118) rfl rfl
theorem x118_30 {z : P0} : X z 118 30 = XI mT z (X z) (.iload_n 2, 1, 2, 0, 0, [], 0, 0) 118 30 := X_at (r := mi118) rfl rfl
theorem x118_31 {z : P0} : X z 118 31 = XI mT z (X z) (.aload_n 0, 1, 0, 0, 0, [], 0, 0) 118 31 := X_at (r := mi118) rfl rfl
theorem x118_32 {z : P0} : X z 118 32 = XI mT z (X z) (.getfield 22, 3, 11, 7, 3, [138], 0, 0) 118 32 := X_at (r := mi118) rfl rfl
theorem x118_35 {z : P0} : X z 118 35 = XI mT z (X z) (.iload_n 1, 1, 1, 0, 0, [], 0, 0) 118 35 := X_at (r := mi118) rfl rfl
theorem x118_36 {z : P0} : X z 118 36 = XI mT z (X z) (.iaload, 1, 0, 0, 0, [], 0, 0) 118 36 := X_at (r := mi118) rfl rfl
theorem x118_37 {z : P0} : X z 118 37 = XI mT z (X z) (.invokevirtual 75, 3, 2, 117, 0, [113], 0, 0) 118 37 := X_at (r := mi118) rfl rfl
theorem x118_40 {z : P0} : X z 118 40 = XI mT z (X z) (.iconst 0, 1, 0, 0, 0, [], nI 0, 0) 118 40 := X_at (r := mi118) rfl rfl
theorem x118_41 {z : P0} : X z 118 41 = XI mT z (X z) (.istore 4, 2, 4, 0, 0, [], 0, 0) 118 41 := X_at (r := mi118) rfl rfl
theorem x118_43 {z : P0} : X z 118 43 = XI mT z (X z) (.iload 4, 2, 4, 0, 0, [], 0, 0) 118 43 := X_at (r := mi118) rfl rfl
theorem x118_45 {z : P0} : X z 118 45 = XI mT z (X z) (.aload_n 0, 1, 0, 0, 0, [], 0, 0) 118 45 := X_at (r := mi118) rfl rfl
theorem x118_46 {z : P0} : X z 118 46 = XI mT z (X z) (.getfield 7, 3, 11, 0, 3, [134], 0, 0) 118 46 := X_at (r := mi118) rfl rfl
theorem x118_49 {z : P0} : X z 118 49 = XI mT z (X z) (.sipush 133, 3, 0, 0, 0, [], nI 133, 0) 118 49 := X_at (r := mi118) rfl rfl
theorem x118_52 {z : P0} : X z 118 52 = XI mT z (X z) (.iload_n 3, 1, 3, 0, 0, [], 0, 0) 118 52 := X_at (r := mi118) rfl rfl
theorem x118_53 {z : P0} : X z 118 53 = XI mT z (X z) (.iadd, 1, 0, 0, 0, [], 0, 0) 118 53 := X_at (r := mi118) rfl rfl
theorem x118_54 {z : P0} : X z 118 54 = XI mT z (X z) (.iaload, 1, 0, 0, 0, [], 0, 0) 118 54 := X_at (r := mi118) rfl rfl
theorem x118_55 {z : P0} : X z 118 55 = XI mT z (X z) (.if_icmp .ge 29, 3, 84, 0, 0, [], 0, 0) 118 55 := X_at (r := mi118) rfl rfl
theorem x118_58 {z : P0} : X z 118 58 = XI mT z (X z) (.aload_n 0, 1, 0, 0, 0, [], 0, 0) 118 58 := X_at (r := mi118) rfl rfl
theorem x118_59 {z : P0} : X z 118 59 = XI mT z (X z) (.aload_n 0, 1, 0, 0, 0, [], 0, 0) 118 59 := X_at (r := mi118) rfl rfl
theorem x118_60 {z : P0} : X z 118 60 = XI mT z (X z) (.getfield 7, 3, 11, 0, 3, [134], 0, 0) 118 60 := X_at (r := mi118) rfl rfl
theorem x118_63 {z : P0} : X z 118 63 = XI mT z (X z) (.sipush 153, 3, 0, 0, 0, [], nI 153, 0) 118 63 := X_at (r := mi118) rfl rfl
theorem x118_66 {z : P0} : X z 118 66 = XI mT z (X z) (.bipush 8, 2, 0, 0, 0, [], nI 8, 0) 118 66 := X_at (r := mi118) rfl rfl
theorem x118_68 {z : P0} : X z 118 68 = XI mT z (X z) (.iload_n 3, 1, 3, 0, 0, [], 0, 0) 118 68 := X_at (r := mi118) rfl rfl
theorem x118_69 {z : P0} : X z 118 69 = XI mT z (X z) (.imul, 1, 0, 0, 0, [], 0, 0) 118 69 := X_at (r := mi118) rfl rfl
theorem x118_70 {z : P0} : X z 118 70 = XI mT z (X z) (.iadd, 1, 0, 0, 0, [], 0, 0) 118 70 := X_at (r := mi118) rfl rfl
theorem x118_71 {z : P0} : X z 118 71 = XI mT z (X z) (.iload 4, 2, 4, 0, 0, [], 0, 0) 118 71 := X_at (r := mi118) rfl rfl
theorem x118_73 {z : P0} : X z 118 73 = XI mT z (X z) (.iadd, 1, 0, 0, 0, [], 0, 0) 118 73 := X_at (r := mi118) rfl rfl
theorem x118_74 {z : P0} : X z 118 74 = XI mT z (X z) (.iaload, 1, 0, 0, 0, [], 0, 0) 118 74 := X_at (r := mi118) rfl rfl
theorem x118_75 {z : P0} : X z 118 75 = XI mT z (X z) (.invokevirtual 71, 3, 1, 116, 0, [112], 0, 0) 118 75 := X_at (r := mi118) rfl rfl
theorem x118_78 {z : P0} : X z 118 78 = XI mT z (X z) (.iinc 4 1, 3, 4, 0, 0, [], nI 1, 0) 118 78 := X_at (r := mi118) rfl rfl
theorem x118_81 {z : P0} : X z 118 81 = XI mT z (X z) (.goto (-38), 3, 43, 0, 0, [], 0, 0) 118 81 := X_at (r := mi118) rfl rfl
theorem x118_84 {z : P0} : X z 118 84 = XI mT z (X z) (.iinc 2 1, 3, 2, 0, 0, [], nI 1, 0) 118 84 := X_at (r := mi118) rfl rfl
theorem x118_87 {z : P0} : X z 118 87 = XI mT z (X z) (.iinc 3 1, 3, 3, 0, 0, [], nI 1, 0) 118 87 := X_at (r := mi118) rfl rfl
theorem x118_90 {z : P0} : X z 118 90 = XI mT z (X z) (.goto (-86), 3, 4, 0, 0, [], 0, 0) 118 90 := X_at (r := mi118) rfl rfl
theorem x118_93 {z : P0} : X z 118 93 = XI mT z (X z) (.return_, 1, 0, 0, 0, [], 0, 0) 118 93 := X_at (r := mi118) rfl rfl
theorem x119_0 {z : P0} : X z 119 0 = XI mT z (X z) (.aload_n 0, 1, 0, 0, 0, [], 0, 0) 119 0 := X_at (r := mi119) rfl rfl
theorem x119_1 {z : P0} : X z 119 1 = XI mT z (X z) (.getfield 7, 3, 11, 0, 3, [134], 0, 0) 119 1 := X_at (r := mi119) rfl rfl
theorem x119_4 {z : P0} : X z 119 4 = XI mT z (X z) (.bipush 33, 2, 0, 0, 0, [], nI 33, 0) 119 4 := X_at (r := mi119) rfl rfl
theorem x119_6 {z : P0} : X z 119 6 = XI mT z (X z) (.aload_n 0, 1, 0, 0, 0, [], 0, 0) 119 6 := X_at (r := mi119) rfl rfl
theorem x119_7 {z : P0} : X z 119 7 = XI mT z (X z) (.iload_n 1, 1, 1, 0, 0, [], 0, 0) 119 7 := X_at (r := mi119) rfl rfl
theorem x119_8 {z : P0} : X z 119 8 = XI mT z (X z) (.invokevirtual 58, 3, 1, 113, 0, [109], 0, 0) 119 8 := X_at (r := mi119) rfl rfl
theorem x119_11 {z : P0} : X z 119 11 = XI mT z (X z) (.iadd, 1, 0, 0, 0, [], 0, 0) 119 11 := X_at (r := mi119) rfl rfl
theorem x119_12 {z : P0} : X z 119 12 = XI mT z (X z) (.iaload, 1, 0, 0, 0, [], 0, 0) 119 12 := X_at (r := mi119) rfl rfl
theorem x119_13 {z : P0} : X z 119 13 = XI mT z (X z) (.istore_n 2, 1, 2, 0, 0, [], 0, 0) 119 13 := X_at (r := mi119) rfl rfl
theorem x119_14 {z : P0} : X z 119 14 = XI mT z (X z) (.iconst 1, 1, 0, 0, 0, [], nI 1, 0) 119 14 := X_at (r := mi119) rfl rfl
theorem x119_15 {z : P0} : X z 119 15 = XI mT z (X z) (.istore_n 3, 1, 3, 0, 0, [], 0, 0) 119 15 := X_at (r := mi119) rfl rfl
theorem x119_16 {z : P0} : X z 119 16 = XI mT z (X z) (.iconst 0, 1, 0, 0, 0, [], nI 0, 0) 119 16 := X_at (r := mi119) rfl rfl
theorem x119_17 {z : P0} : X z 119 17 = XI mT z (X z) (.istore 4, 2, 4, 0, 0, [], 0, 0) 119 17 := X_at (r := mi119) rfl rfl
theorem x119_19 {z : P0} : X z 119 19 = XI mT z (X z) (.iload 4, 2, 4, 0, 0, [], 0, 0) 119 19 := X_at (r := mi119) rfl rfl
theorem x119_21 {z : P0} : X z 119 21 = XI mT z (X z) (.aload_n 0, 1, 0, 0, 0, [], 0, 0) 119 21 := X_at (r := mi119) rfl rfl
theorem x119_22 {z : P0} : X z 119 22 = XI mT z (X z) (.getfield 7, 3, 11, 0, 3, [134], 0, 0) 119 22 := X_at (r := mi119) rfl rfl
theorem x119_25 {z : P0} : X z 119 25 = XI mT z (X z) (.bipush 6, 2, 0, 0, 0, [], nI 6, 0) 119 25 := X_at (r := mi119) rfl rfl
theorem x119_27 {z : P0} : X z 119 27 = XI mT z (X z) (.iaload, 1, 0, 0, 0, [], 0, 0) 119 27 := X_at (r := mi119) rfl rfl
theorem x119_28 {z : P0} : X z 119 28 = XI mT z (X z) (.if_icmp .ge 47, 3, 75, 0, 0, [], 0, 0) 119 28 := X_at (r := mi119) rfl rfl
theorem x119_31 {z : P0} : X z 119 31 = XI mT z (X z) (.iload_n 3, 1, 3, 0, 0, [], 0, 0) 119 31 := X_at (r := mi119) rfl rfl
theorem x119_32 {z : P0} : X z 119 32 = XI mT z (X z) (.ifCond .eq 35, 3, 67, 0, 0, [], 0, 0) 119 32 := X_at (r := mi119) rfl rfl
theorem x119_35 {z : P0} : X z 119 35 = XI mT z (X z) (.aload_n 0, 1, 0, 0, 0, [], 0, 0) 119 35 := X_at (r := mi119) rfl rfl
theorem x119_36 {z : P0} : X z 119 36 = XI mT z (X z) (.getfield 19, 3, 11, 6, 3, [137], 0, 0) 119 36 := X_at (r := mi119) rfl rfl
theorem x119_39 {z : P0} : X z 119 39 = XI mT z (X z) (.iload_n 1, 1, 1, 0, 0, [], 0, 0) 119 39 := X_at (r := mi119) rfl rfl
theorem x119_40 {z : P0} : X z 119 40 = XI mT z (X z) (.iaload, 1, 0, 0, 0, [], 0, 0) 119 40 := X_at (r := mi119) rfl rfl
theorem x119_41 {z : P0} : X z 119 41 = XI mT z (X z) (.iload 4, 2, 4, 0, 0, [], 0, 0) 119 41 := X_at (r := mi119) rfl rfl
theorem x119_43 {z : P0} : X z 119 43 = XI mT z (X z) (.ishr, 1, 0, 0, 0, [], 0, 0) 119 43 := X_at (r := mi119) rfl rfl
theorem x119_44 {z : P0} : X z 119 44 = XI mT z (X z) (.iconst 1, 1, 0, 0, 0, [], nI 1, 0) 119 44 := X_at (r := mi119) rfl rfl
theorem x119_45 {z : P0} : X z 119 45 = XI mT z (X z) (.iand, 1, 0, 0, 0, [], 0, 0) 119 45 := X_at (r := mi119) rfl rfl
theorem x119_46 {z : P0} : X z 119 46 = XI mT z (X z) (.ifCond .eq 17, 3, 63, 0, 0, [], 0, 0) 119 46 := X_at (r := mi119) rfl rfl
theorem x119_49 {z : P0} : X z 119 49 = XI mT z (X z) (.aload_n 0, 1, 0, 0, 0, [], 0, 0) 119 49 := X_at (r := mi119) rfl rfl
theorem x119_50 {z : P0} : X z 119 50 = XI mT z (X z) (.getfield 7, 3, 11, 0, 3, [134], 0, 0) 119 50 := X_at (r := mi119) rfl rfl
theorem x119_53 {z : P0} : X z 119 53 = XI mT z (X z) (.bipush 33, 2, 0, 0, 0, [], nI 33, 0) 119 53 := X_at (r := mi119) rfl rfl
theorem x119_55 {z : P0} : X z 119 55 = XI mT z (X z) (.iload 4, 2, 4, 0, 0, [], 0, 0) 119 55 := X_at (r := mi119) rfl rfl
theorem x119_57 {z : P0} : X z 119 57 = XI mT z (X z) (.iadd, 1, 0, 0, 0, [], 0, 0) 119 57 := X_at (r := mi119) rfl rfl
theorem x119_58 {z : P0} : X z 119 58 = XI mT z (X z) (.iaload, 1, 0, 0, 0, [], 0, 0) 119 58 := X_at (r := mi119) rfl rfl
theorem x119_59 {z : P0} : X z 119 59 = XI mT z (X z) (.iload_n 2, 1, 2, 0, 0, [], 0, 0) 119 59 := X_at (r := mi119) rfl rfl
theorem x119_60 {z : P0} : X z 119 60 = XI mT z (X z) (.if_icmp .ne 7, 3, 67, 0, 0, [], 0, 0) 119 60 := X_at (r := mi119) rfl rfl
theorem x119_63 {z : P0} : X z 119 63 = XI mT z (X z) (.iconst 1, 1, 0, 0, 0, [], nI 1, 0) 119 63 := X_at (r := mi119) rfl rfl
theorem x119_64 {z : P0} : X z 119 64 = XI mT z (X z) (.goto 4, 3, 68, 0, 0, [], 0, 0) 119 64 := X_at (r := mi119) rfl rfl
theorem x119_67 {z : P0} : X z 119 67 = XI mT z (X z) (.iconst 0, 1, 0, 0, 0, [], nI 0, 0) 119 67 := X_at (r := mi119) rfl rfl
theorem x119_68 {z : P0} : X z 119 68 = XI mT z (X z) (.istore_n 3, 1, 3, 0, 0, [], 0, 0) 119 68 := X_at (r := mi119) rfl rfl
theorem x119_69 {z : P0} : X z 119 69 = XI mT z (X z) (.iinc 4 1, 3, 4, 0, 0, [], nI 1, 0) 119 69 := X_at (r := mi119) rfl rfl
theorem x119_72 {z : P0} : X z 119 72 = XI mT z (X z) (.goto (-53), 3, 19, 0, 0, [], 0, 0) 119 72 := X_at (r := mi119) rfl rfl
theorem x119_75 {z : P0} : X z 119 75 = XI mT z (X z) (.iload_n 3, 1, 3, 0, 0, [], 0, 0) 119 75 := X_at (r := mi119) rfl rfl
theorem x119_76 {z : P0} : X z 119 76 = XI mT z (X z) (.ifCond .ne 22, 3, 98, 0, 0, [], 0, 0) 119 76 := X_at (r := mi119) rfl rfl
theorem x119_79 {z : P0} : X z 119 79 = XI mT z (X z) (.aload_n 0, 1, 0, 0, 0, [], 0, 0) 119 79 := X_at (r := mi119) rfl rfl
theorem x119_80 {z : P0} : X z 119 80 = XI mT z (X z) (.bipush 97, 2, 0, 0, 0, [], nI 97, 0) 119 80 := X_at (r := mi119) rfl rfl
theorem x119_82 {z : P0} : X z 119 82 = XI mT z (X z) (.invokevirtual 71, 3, 1, 116, 0, [112], 0, 0) 119 82 := X_at (r := mi119) rfl rfl
theorem x119_85 {z : P0} : X z 119 85 = XI mT z (X z) (.aload_n 0, 1, 0, 0, 0, [], 0, 0) 119 85 := X_at (r := mi119) rfl rfl
theorem x119_86 {z : P0} : X z 119 86 = XI mT z (X z) (.bipush 108, 2, 0, 0, 0, [], nI 108, 0) 119 86 := X_at (r := mi119) rfl rfl
theorem x119_88 {z : P0} : X z 119 88 = XI mT z (X z) (.invokevirtual 71, 3, 1, 116, 0, [112], 0, 0) 119 88 := X_at (r := mi119) rfl rfl
theorem x119_91 {z : P0} : X z 119 91 = XI mT z (X z) (.aload_n 0, 1, 0, 0, 0, [], 0, 0) 119 91 := X_at (r := mi119) rfl rfl
theorem x119_92 {z : P0} : X z 119 92 = XI mT z (X z) (.bipush 108, 2, 0, 0, 0, [], nI 108, 0) 119 92 := X_at (r := mi119) rfl rfl
theorem x119_94 {z : P0} : X z 119 94 = XI mT z (X z) (.invokevirtual 71, 3, 1, 116, 0, [112], 0, 0) 119 94 := X_at (r := mi119) rfl rfl
theorem x119_97 {z : P0} : X z 119 97 = XI mT z (X z) (.return_, 1, 0, 0, 0, [], 0, 0) 119 97 := X_at (r := mi119) rfl rfl
theorem x119_98 {z : P0} : X z 119 98 = XI mT z (X z) (.aload_n 0, 1, 0, 0, 0, [], 0, 0) 119 98 := X_at (r := mi119) rfl rfl
theorem x119_99 {z : P0} : X z 119 99 = XI mT z (X z) (.iload_n 2, 1, 2, 0, 0, [], 0, 0) 119 99 := X_at (r := mi119) rfl rfl
theorem x119_100 {z : P0} : X z 119 100 = XI mT z (X z) (.ifCond .ne 8, 3, 108, 0, 0, [], 0, 0) 119 100 := X_at (r := mi119) rfl rfl
theorem x119_103 {z : P0} : X z 119 103 = XI mT z (X z) (.bipush 102, 2, 0, 0, 0, [], nI 102, 0) 119 103 := X_at (r := mi119) rfl rfl
theorem x119_105 {z : P0} : X z 119 105 = XI mT z (X z) (.goto 15, 3, 120, 0, 0, [], 0, 0) 119 105 := X_at (r := mi119) rfl rfl
theorem x119_108 {z : P0} : X z 119 108 = XI mT z (X z) (.iload_n 2, 1, 2, 0, 0, [], 0, 0) 119 108 := X_at (r := mi119) rfl rfl
theorem x119_109 {z : P0} : X z 119 109 = XI mT z (X z) (.iconst 1, 1, 0, 0, 0, [], nI 1, 0) 119 109 := X_at (r := mi119) rfl rfl
theorem x119_110 {z : P0} : X z 119 110 = XI mT z (X z) (.if_icmp .ne 8, 3, 118, 0, 0, [], 0, 0) 119 110 := X_at (r := mi119) rfl rfl
theorem x119_113 {z : P0} : X z 119 113 = XI mT z (X z) (.bipush 109, 2, 0, 0, 0, [], nI 109, 0) 119 113 := X_at (r := mi119) rfl rfl
theorem x119_115 {z : P0} : X z 119 115 = XI mT z (X z) (.goto 5, 3, 120, 0, 0, [], 0, 0) 119 115 := X_at (r := mi119) rfl rfl
theorem x119_118 {z : P0} : X z 119 118 = XI mT z (X z) (.bipush 120, 2, 0, 0, 0, [], nI 120, 0) 119 118 := X_at (r := mi119) rfl rfl
theorem x119_120 {z : P0} : X z 119 120 = XI mT z (X z) (.invokevirtual 71, 3, 1, 116, 0, [112], 0, 0) 119 120 := X_at (r := mi119) rfl rfl
theorem x119_123 {z : P0} : X z 119 123 = XI mT z (X z) (.aload_n 0, 1, 0, 0, 0, [], 0, 0) 119 123 := X_at (r := mi119) rfl rfl
theorem x119_124 {z : P0} : X z 119 124 = XI mT z (X z) (.getfield 22, 3, 11, 7, 3, [138], 0, 0) 119 124 := X_at (r := mi119) rfl rfl
theorem x119_127 {z : P0} : X z 119 127 = XI mT z (X z) (.iload_n 1, 1, 1, 0, 0, [], 0, 0) 119 127 := X_at (r := mi119) rfl rfl
theorem x119_128 {z : P0} : X z 119 128 = XI mT z (X z) (.iaload, 1, 0, 0, 0, [], 0, 0) 119 128 := X_at (r := mi119) rfl rfl
theorem x119_129 {z : P0} : X z 119 129 = XI mT z (X z) (.iconst 1, 1, 0, 0, 0, [], nI 1, 0) 119 129 := X_at (r := mi119) rfl rfl
theorem x119_130 {z : P0} : X z 119 130 = XI mT z (X z) (.if_icmp .le 9, 3, 139, 0, 0, [], 0, 0) 119 130 := X_at (r := mi119) rfl rfl
theorem x119_133 {z : P0} : X z 119 133 = XI mT z (X z) (.aload_n 0, 1, 0, 0, 0, [], 0, 0) 119 133 := X_at (r := mi119) rfl rfl
theorem x119_134 {z : P0} : X z 119 134 = XI mT z (X z) (.bipush 115, 2, 0, 0, 0, [], nI 115, 0) 119 134 := X_at (r := mi119) rfl rfl
theorem x119_136 {z : P0} : X z 119 136 = XI mT z (X z) (.invokevirtual 71, 3, 1, 116, 0, [112], 0, 0) 119 136 := X_at (r := mi119) rfl rfl
theorem x119_139 {z : P0} : X z 119 139 = XI mT z (X z) (.return_, 1, 0, 0, 0, [], 0, 0) 119 139 := X_at (r := mi119) rfl rfl
theorem x120_0 {z : P0} : X z 120 0 = XI mT z (X z) (.aload_n 0, 1, 0, 0, 0, [], 0, 0) 120 0 := X_at (r := mi120) rfl rfl
theorem x120_1 {z : P0} : X z 120 1 = XI mT z (X z) (.getfield 7, 3, 11, 0, 3, [134], 0, 0) 120 1 := X_at (r := mi120) rfl rfl
theorem x120_4 {z : P0} : X z 120 4 = XI mT z (X z) (.sipush 333, 3, 0, 0, 0, [], nI 333, 0) 120 4 := X_at (r := mi120) rfl rfl
theorem x120_7 {z : P0} : X z 120 7 = XI mT z (X z) (.bipush 8, 2, 0, 0, 0, [], nI 8, 0) 120 7 := X_at (r := mi120) rfl rfl
theorem x120_9 {z : P0} : X z 120 9 = XI mT z (X z) (.iload_n 1, 1, 1, 0, 0, [], 0, 0) 120 9 := X_at (r := mi120) rfl rfl
theorem x120_10 {z : P0} : X z 120 10 = XI mT z (X z) (.imul, 1, 0, 0, 0, [], 0, 0) 120 10 := X_at (r := mi120) rfl rfl
theorem x120_11 {z : P0} : X z 120 11 = XI mT z (X z) (.iadd, 1, 0, 0, 0, [], 0, 0) 120 11 := X_at (r := mi120) rfl rfl
theorem x120_12 {z : P0} : X z 120 12 = XI mT z (X z) (.iaload, 1, 0, 0, 0, [], 0, 0) 120 12 := X_at (r := mi120) rfl rfl
theorem x120_13 {z : P0} : X z 120 13 = XI mT z (X z) (.istore_n 2, 1, 2, 0, 0, [], 0, 0) 120 13 := X_at (r := mi120) rfl rfl
theorem x120_14 {z : P0} : X z 120 14 = XI mT z (X z) (.iload_n 2, 1, 2, 0, 0, [], 0, 0) 120 14 := X_at (r := mi120) rfl rfl
theorem x120_15 {z : P0} : X z 120 15 = XI mT z (X z) (.bipush 97, 2, 0, 0, 0, [], nI 97, 0) 120 15 := X_at (r := mi120) rfl rfl
theorem x120_17 {z : P0} : X z 120 17 = XI mT z (X z) (.if_icmp .eq 27, 3, 44, 0, 0, [], 0, 0) 120 17 := X_at (r := mi120) rfl rfl
theorem x120_20 {z : P0} : X z 120 20 = XI mT z (X z) (.iload_n 2, 1, 2, 0, 0, [], 0, 0) 120 20 := X_at (r := mi120) rfl rfl
theorem x120_21 {z : P0} : X z 120 21 = XI mT z (X z) (.bipush 101, 2, 0, 0, 0, [], nI 101, 0) 120 21 := X_at (r := mi120) rfl rfl
theorem x120_23 {z : P0} : X z 120 23 = XI mT z (X z) (.if_icmp .eq 21, 3, 44, 0, 0, [], 0, 0) 120 23 := X_at (r := mi120) rfl rfl
theorem x120_26 {z : P0} : X z 120 26 = XI mT z (X z) (.iload_n 2, 1, 2, 0, 0, [], 0, 0) 120 26 := X_at (r := mi120) rfl rfl
theorem x120_27 {z : P0} : X z 120 27 = XI mT z (X z) (.bipush 105, 2, 0, 0, 0, [], nI 105, 0) 120 27 := X_at (r := mi120) rfl rfl
theorem x120_29 {z : P0} : X z 120 29 = XI mT z (X z) (.if_icmp .eq 15, 3, 44, 0, 0, [], 0, 0) 120 29 := X_at (r := mi120) rfl rfl
theorem x120_32 {z : P0} : X z 120 32 = XI mT z (X z) (.iload_n 2, 1, 2, 0, 0, [], 0, 0) 120 32 := X_at (r := mi120) rfl rfl
theorem x120_33 {z : P0} : X z 120 33 = XI mT z (X z) (.bipush 111, 2, 0, 0, 0, [], nI 111, 0) 120 33 := X_at (r := mi120) rfl rfl
theorem x120_35 {z : P0} : X z 120 35 = XI mT z (X z) (.if_icmp .eq 9, 3, 44, 0, 0, [], 0, 0) 120 35 := X_at (r := mi120) rfl rfl
theorem x120_38 {z : P0} : X z 120 38 = XI mT z (X z) (.iload_n 2, 1, 2, 0, 0, [], 0, 0) 120 38 := X_at (r := mi120) rfl rfl
theorem x120_39 {z : P0} : X z 120 39 = XI mT z (X z) (.bipush 117, 2, 0, 0, 0, [], nI 117, 0) 120 39 := X_at (r := mi120) rfl rfl
theorem x120_41 {z : P0} : X z 120 41 = XI mT z (X z) (.if_icmp .ne 7, 3, 48, 0, 0, [], 0, 0) 120 41 := X_at (r := mi120) rfl rfl
theorem x120_44 {z : P0} : X z 120 44 = XI mT z (X z) (.iconst 1, 1, 0, 0, 0, [], nI 1, 0) 120 44 := X_at (r := mi120) rfl rfl
theorem x120_45 {z : P0} : X z 120 45 = XI mT z (X z) (.goto 4, 3, 49, 0, 0, [], 0, 0) 120 45 := X_at (r := mi120) rfl rfl
theorem x120_48 {z : P0} : X z 120 48 = XI mT z (X z) (.iconst 0, 1, 0, 0, 0, [], nI 0, 0) 120 48 := X_at (r := mi120) rfl rfl
theorem x120_49 {z : P0} : X z 120 49 = XI mT z (X z) (.istore_n 3, 1, 3, 0, 0, [], 0, 0) 120 49 := X_at (r := mi120) rfl rfl
theorem x120_50 {z : P0} : X z 120 50 = XI mT z (X z) (.aload_n 0, 1, 0, 0, 0, [], 0, 0) 120 50 := X_at (r := mi120) rfl rfl
theorem x120_51 {z : P0} : X z 120 51 = XI mT z (X z) (.getfield 7, 3, 11, 0, 3, [134], 0, 0) 120 51 := X_at (r := mi120) rfl rfl
theorem x120_54 {z : P0} : X z 120 54 = XI mT z (X z) (.sipush 323, 3, 0, 0, 0, [], nI 323, 0) 120 54 := X_at (r := mi120) rfl rfl
theorem x120_57 {z : P0} : X z 120 57 = XI mT z (X z) (.iload_n 1, 1, 1, 0, 0, [], 0, 0) 120 57 := X_at (r := mi120) rfl rfl
theorem x120_58 {z : P0} : X z 120 58 = XI mT z (X z) (.iadd, 1, 0, 0, 0, [], 0, 0) 120 58 := X_at (r := mi120) rfl rfl
theorem x120_59 {z : P0} : X z 120 59 = XI mT z (X z) (.iaload, 1, 0, 0, 0, [], 0, 0) 120 59 := X_at (r := mi120) rfl rfl
theorem x120_60 {z : P0} : X z 120 60 = XI mT z (X z) (.iconst 1, 1, 0, 0, 0, [], nI 1, 0) 120 60 := X_at (r := mi120) rfl rfl
theorem x120_61 {z : P0} : X z 120 61 = XI mT z (X z) (.if_icmp .ne 7, 3, 68, 0, 0, [], 0, 0) 120 61 := X_at (r := mi120) rfl rfl
theorem x120_64 {z : P0} : X z 120 64 = XI mT z (X z) (.iconst 4, 1, 0, 0, 0, [], nI 4, 0) 120 64 := X_at (r := mi120) rfl rfl
theorem x120_65 {z : P0} : X z 120 65 = XI mT z (X z) (.goto 12, 3, 77, 0, 0, [], 0, 0) 120 65 := X_at (r := mi120) rfl rfl
theorem x120_68 {z : P0} : X z 120 68 = XI mT z (X z) (.iload_n 3, 1, 3, 0, 0, [], 0, 0) 120 68 := X_at (r := mi120) rfl rfl
theorem x120_69 {z : P0} : X z 120 69 = XI mT z (X z) (.ifCond .eq 7, 3, 76, 0, 0, [], 0, 0) 120 69 := X_at (r := mi120) rfl rfl
theorem x120_72 {z : P0} : X z 120 72 = XI mT z (X z) (.iconst 2, 1, 0, 0, 0, [], nI 2, 0) 120 72 := X_at (r := mi120) rfl rfl
theorem x120_73 {z : P0} : X z 120 73 = XI mT z (X z) (.goto 4, 3, 77, 0, 0, [], 0, 0) 120 73 := X_at (r := mi120) rfl rfl
theorem x120_76 {z : P0} : X z 120 76 = XI mT z (X z) (.iconst 1, 1, 0, 0, 0, [], nI 1, 0) 120 76 := X_at (r := mi120) rfl rfl
theorem x120_77 {z : P0} : X z 120 77 = XI mT z (X z) (.ireturn, 1, 0, 0, 0, [], 0, 0) 120 77 := X_at (r := mi120) rfl rfl
theorem x121_0 {z : P0} : X z 121 0 = XI mT z (X z) (.aload_n 0, 1, 0, 0, 0, [], 0, 0) 121 0 := X_at (r := mi121) rfl rfl
theorem x121_1 {z : P0} : X z 121 1 = XI mT z (X z) (.iload_n 1, 1, 1, 0, 0, [], 0, 0) 121 1 := X_at (r := mi121) rfl rfl
theorem x121_2 {z : P0} : X z 121 2 = XI mT z (X z) (.invokevirtual 79, 3, 1, 120, 0, [114], 0, 0) 121 2 := X_at (r := mi121) rfl rfl
theorem x121_5 {z : P0} : X z 121 5 = XI mT z (X z) (.istore_n 2, 1, 2, 0, 0, [], 0, 0) 121 5 := X_at (r := mi121) rfl rfl
theorem x121_6 {z : P0} : X z 121 6 = XI mT z (X z) (.iload_n 2, 1, 2, 0, 0, [], 0, 0) 121 6 := X_at (r := mi121) rfl rfl
theorem x121_7 {z : P0} : X z 121 7 = XI mT z (X z) (.iconst 4, 1, 0, 0, 0, [], nI 4, 0) 121 7 := X_at (r := mi121) rfl rfl
theorem x121_8 {z : P0} : X z 121 8 = XI mT z (X z) (.if_icmp .ne 30, 3, 38, 0, 0, [], 0, 0) 121 8 := X_at (r := mi121) rfl rfl
theorem x121_11 {z : P0} : X z 121 11 = XI mT z (X z) (.aload_n 0, 1, 0, 0, 0, [], 0, 0) 121 11 := X_at (r := mi121) rfl rfl
theorem x121_12 {z : P0} : X z 121 12 = XI mT z (X z) (.bipush 115, 2, 0, 0, 0, [], nI 115, 0) 121 12 := X_at (r := mi121) rfl rfl
theorem x121_14 {z : P0} : X z 121 14 = XI mT z (X z) (.invokevirtual 71, 3, 1, 116, 0, [112], 0, 0) 121 14 := X_at (r := mi121) rfl rfl
theorem x121_17 {z : P0} : X z 121 17 = XI mT z (X z) (.aload_n 0, 1, 0, 0, 0, [], 0, 0) 121 17 := X_at (r := mi121) rfl rfl
theorem x121_18 {z : P0} : X z 121 18 = XI mT z (X z) (.bipush 111, 2, 0, 0, 0, [], nI 111, 0) 121 18 := X_at (r := mi121) rfl rfl
theorem x121_20 {z : P0} : X z 121 20 = XI mT z (X z) (.invokevirtual 71, 3, 1, 116, 0, [112], 0, 0) 121 20 := X_at (r := mi121) rfl rfl
theorem x121_23 {z : P0} : X z 121 23 = XI mT z (X z) (.aload_n 0, 1, 0, 0, 0, [], 0, 0) 121 23 := X_at (r := mi121) rfl rfl
theorem x121_24 {z : P0} : X z 121 24 = XI mT z (X z) (.bipush 109, 2, 0, 0, 0, [], nI 109, 0) 121 24 := X_at (r := mi121) rfl rfl
theorem x121_26 {z : P0} : X z 121 26 = XI mT z (X z) (.invokevirtual 71, 3, 1, 116, 0, [112], 0, 0) 121 26 := X_at (r := mi121) rfl rfl
theorem x121_29 {z : P0} : X z 121 29 = XI mT z (X z) (.aload_n 0, 1, 0, 0, 0, [], 0, 0) 121 29 := X_at (r := mi121) rfl rfl
theorem x121_30 {z : P0} : X z 121 30 = XI mT z (X z) (.bipush 101, 2, 0, 0, 0, [], nI 101, 0) 121 30 := X_at (r := mi121) rfl rfl
theorem x121_32 {z : P0} : X z 121 32 = XI mT z (X z) (.invokevirtual 71, 3, 1, 116, 0, [112], 0, 0) 121 32 := X_at (r := mi121) rfl rfl
theorem x121_35 {z : P0} : X z 121 35 = XI mT z (X z) (.goto 20, 3, 55, 0, 0, [], 0, 0) 121 35 := X_at (r := mi121) rfl rfl
theorem x121_38 {z : P0} : X z 121 38 = XI mT z (X z) (.aload_n 0, 1, 0, 0, 0, [], 0, 0) 121 38 := X_at (r := mi121) rfl rfl
theorem x121_39 {z : P0} : X z 121 39 = XI mT z (X z) (.bipush 97, 2, 0, 0, 0, [], nI 97, 0) 121 39 := X_at (r := mi121) rfl rfl
theorem x121_41 {z : P0} : X z 121 41 = XI mT z (X z) (.invokevirtual 71, 3, 1, 116, 0, [112], 0, 0) 121 41 := X_at (r := mi121) rfl rfl
theorem x121_44 {z : P0} : X z 121 44 = XI mT z (X z) (.iload_n 2, 1, 2, 0, 0, [], 0, 0) 121 44 := X_at (r := mi121) rfl rfl
theorem x121_45 {z : P0} : X z 121 45 = XI mT z (X z) (.iconst 2, 1, 0, 0, 0, [], nI 2, 0) 121 45 := X_at (r := mi121) rfl rfl
theorem x121_46 {z : P0} : X z 121 46 = XI mT z (X z) (.if_icmp .ne 9, 3, 55, 0, 0, [], 0, 0) 121 46 := X_at (r := mi121) rfl rfl
theorem x121_49 {z : P0} : X z 121 49 = XI mT z (X z) (.aload_n 0, 1, 0, 0, 0, [], 0, 0) 121 49 := X_at (r := mi121) rfl rfl
theorem x121_50 {z : P0} : X z 121 50 = XI mT z (X z) (.bipush 110, 2, 0, 0, 0, [], nI 110, 0) 121 50 := X_at (r := mi121) rfl rfl
theorem x121_52 {z : P0} : X z 121 52 = XI mT z (X z) (.invokevirtual 71, 3, 1, 116, 0, [112], 0, 0) 121 52 := X_at (r := mi121) rfl rfl
theorem x121_55 {z : P0} : X z 121 55 = XI mT z (X z) (.aload_n 0, 1, 0, 0, 0, [], 0, 0) 121 55 := X_at (r := mi121) rfl rfl
theorem x121_56 {z : P0} : X z 121 56 = XI mT z (X z) (.bipush 95, 2, 0, 0, 0, [], nI 95, 0) 121 56 := X_at (r := mi121) rfl rfl
theorem x121_58 {z : P0} : X z 121 58 = XI mT z (X z) (.invokevirtual 71, 3, 1, 116, 0, [112], 0, 0) 121 58 := X_at (r := mi121) rfl rfl
theorem x121_61 {z : P0} : X z 121 61 = XI mT z (X z) (.iconst 0, 1, 0, 0, 0, [], nI 0, 0) 121 61 := X_at (r := mi121) rfl rfl
theorem x121_62 {z : P0} : X z 121 62 = XI mT z (X z) (.istore_n 3, 1, 3, 0, 0, [], 0, 0) 121 62 := X_at (r := mi121) rfl rfl
theorem x121_63 {z : P0} : X z 121 63 = XI mT z (X z) (.iload_n 3, 1, 3, 0, 0, [], 0, 0) 121 63 := X_at (r := mi121) rfl rfl
theorem x121_64 {z : P0} : X z 121 64 = XI mT z (X z) (.aload_n 0, 1, 0, 0, 0, [], 0, 0) 121 64 := X_at (r := mi121) rfl rfl
theorem x121_65 {z : P0} : X z 121 65 = XI mT z (X z) (.getfield 7, 3, 11, 0, 3, [134], 0, 0) 121 65 := X_at (r := mi121) rfl rfl
theorem x121_68 {z : P0} : X z 121 68 = XI mT z (X z) (.sipush 313, 3, 0, 0, 0, [], nI 313, 0) 121 68 := X_at (r := mi121) rfl rfl
theorem x121_71 {z : P0} : X z 121 71 = XI mT z (X z) (.iload_n 1, 1, 1, 0, 0, [], 0, 0) 121 71 := X_at (r := mi121) rfl rfl
theorem x121_72 {z : P0} : X z 121 72 = XI mT z (X z) (.iadd, 1, 0, 0, 0, [], 0, 0) 121 72 := X_at (r := mi121) rfl rfl
theorem x121_73 {z : P0} : X z 121 73 = XI mT z (X z) (.iaload, 1, 0, 0, 0, [], 0, 0) 121 73 := X_at (r := mi121) rfl rfl
theorem x121_74 {z : P0} : X z 121 74 = XI mT z (X z) (.if_icmp .ge 28, 3, 102, 0, 0, [], 0, 0) 121 74 := X_at (r := mi121) rfl rfl
theorem x121_77 {z : P0} : X z 121 77 = XI mT z (X z) (.aload_n 0, 1, 0, 0, 0, [], 0, 0) 121 77 := X_at (r := mi121) rfl rfl
theorem x121_78 {z : P0} : X z 121 78 = XI mT z (X z) (.aload_n 0, 1, 0, 0, 0, [], 0, 0) 121 78 := X_at (r := mi121) rfl rfl
theorem x121_79 {z : P0} : X z 121 79 = XI mT z (X z) (.getfield 7, 3, 11, 0, 3, [134], 0, 0) 121 79 := X_at (r := mi121) rfl rfl
theorem x121_82 {z : P0} : X z 121 82 = XI mT z (X z) (.sipush 333, 3, 0, 0, 0, [], nI 333, 0) 121 82 := X_at (r := mi121) rfl rfl
theorem x121_85 {z : P0} : X z 121 85 = XI mT z (X z) (.bipush 8, 2, 0, 0, 0, [], nI 8, 0) 121 85 := X_at (r := mi121) rfl rfl
theorem x121_87 {z : P0} : X z 121 87 = XI mT z (X z) (.iload_n 1, 1, 1, 0, 0, [], 0, 0) 121 87 := X_at (r := mi121) rfl rfl
theorem x121_88 {z : P0} : X z 121 88 = XI mT z (X z) (.imul, 1, 0, 0, 0, [], 0, 0) 121 88 := X_at (r := mi121) rfl rfl
theorem x121_89 {z : P0} : X z 121 89 = XI mT z (X z) (.iadd, 1, 0, 0, 0, [], 0, 0) 121 89 := X_at (r := mi121) rfl rfl
theorem x121_90 {z : P0} : X z 121 90 = XI mT z (X z) (.iload_n 3, 1, 3, 0, 0, [], 0, 0) 121 90 := X_at (r := mi121) rfl rfl
theorem x121_91 {z : P0} : X z 121 91 = XI mT z (X z) (.iadd, 1, 0, 0, 0, [], 0, 0) 121 91 := X_at (r := mi121) rfl rfl
theorem x121_92 {z : P0} : X z 121 92 = XI mT z (X z) (.iaload, 1, 0, 0, 0, [], 0, 0) 121 92 := X_at (r := mi121) rfl rfl
theorem x121_93 {z : P0} : X z 121 93 = XI mT z (X z) (.invokevirtual 71, 3, 1, 116, 0, [112], 0, 0) 121 93 := X_at (r := mi121) rfl rfl
theorem x121_96 {z : P0} : X z 121 96 = XI mT z (X z) (.iinc 3 1, 3, 3, 0, 0, [], nI 1, 0) 121 96 := X_at (r := mi121) rfl rfl
theorem x121_99 {z : P0} : X z 121 99 = XI mT z (X z) (.goto (-36), 3, 63, 0, 0, [], 0, 0) 121 99 := X_at (r := mi121) rfl rfl
theorem x121_102 {z : P0} : X z 121 102 = XI mT z (X z) (.return_, 1, 0, 0, 0, [], 0, 0) 121 102 := X_at (r := mi121) rfl rfl
theorem x122_0 {z : P0} : X z 122 0 = XI mT z (X z) (.iconst 0, 1, 0, 0, 0, [], nI 0, 0) 122 0 := X_at (r := mi122) rfl rfl
theorem x122_1 {z : P0} : X z 122 1 = XI mT z (X z) (.istore_n 2, 1, 2, 0, 0, [], 0, 0) 122 1 := X_at (r := mi122) rfl rfl
theorem x122_2 {z : P0} : X z 122 2 = XI mT z (X z) (.iconst 0, 1, 0, 0, 0, [], nI 0, 0) 122 2 := X_at (r := mi122) rfl rfl
theorem x122_3 {z : P0} : X z 122 3 = XI mT z (X z) (.istore_n 3, 1, 3, 0, 0, [], 0, 0) 122 3 := X_at (r := mi122) rfl rfl
theorem x122_4 {z : P0} : X z 122 4 = XI mT z (X z) (.iconst 0, 1, 0, 0, 0, [], nI 0, 0) 122 4 := X_at (r := mi122) rfl rfl
theorem x122_5 {z : P0} : X z 122 5 = XI mT z (X z) (.istore 4, 2, 4, 0, 0, [], 0, 0) 122 5 := X_at (r := mi122) rfl rfl
theorem x122_7 {z : P0} : X z 122 7 = XI mT z (X z) (.iload 4, 2, 4, 0, 0, [], 0, 0) 122 7 := X_at (r := mi122) rfl rfl
theorem x122_9 {z : P0} : X z 122 9 = XI mT z (X z) (.aload_n 0, 1, 0, 0, 0, [], 0, 0) 122 9 := X_at (r := mi122) rfl rfl
theorem x122_10 {z : P0} : X z 122 10 = XI mT z (X z) (.getfield 7, 3, 11, 0, 3, [134], 0, 0) 122 10 := X_at (r := mi122) rfl rfl
theorem x122_13 {z : P0} : X z 122 13 = XI mT z (X z) (.bipush 6, 2, 0, 0, 0, [], nI 6, 0) 122 13 := X_at (r := mi122) rfl rfl
theorem x122_15 {z : P0} : X z 122 15 = XI mT z (X z) (.iaload, 1, 0, 0, 0, [], 0, 0) 122 15 := X_at (r := mi122) rfl rfl
theorem x122_16 {z : P0} : X z 122 16 = XI mT z (X z) (.if_icmp .ge 85, 3, 101, 0, 0, [], 0, 0) 122 16 := X_at (r := mi122) rfl rfl
theorem x122_19 {z : P0} : X z 122 19 = XI mT z (X z) (.aload_n 0, 1, 0, 0, 0, [], 0, 0) 122 19 := X_at (r := mi122) rfl rfl
theorem x122_20 {z : P0} : X z 122 20 = XI mT z (X z) (.getfield 19, 3, 11, 6, 3, [137], 0, 0) 122 20 := X_at (r := mi122) rfl rfl
theorem x122_23 {z : P0} : X z 122 23 = XI mT z (X z) (.iload_n 1, 1, 1, 0, 0, [], 0, 0) 122 23 := X_at (r := mi122) rfl rfl
theorem x122_24 {z : P0} : X z 122 24 = XI mT z (X z) (.iaload, 1, 0, 0, 0, [], 0, 0) 122 24 := X_at (r := mi122) rfl rfl
theorem x122_25 {z : P0} : X z 122 25 = XI mT z (X z) (.iload 4, 2, 4, 0, 0, [], 0, 0) 122 25 := X_at (r := mi122) rfl rfl
theorem x122_27 {z : P0} : X z 122 27 = XI mT z (X z) (.ishr, 1, 0, 0, 0, [], 0, 0) 122 27 := X_at (r := mi122) rfl rfl
theorem x122_28 {z : P0} : X z 122 28 = XI mT z (X z) (.iconst 1, 1, 0, 0, 0, [], nI 1, 0) 122 28 := X_at (r := mi122) rfl rfl
theorem x122_29 {z : P0} : X z 122 29 = XI mT z (X z) (.iand, 1, 0, 0, 0, [], 0, 0) 122 29 := X_at (r := mi122) rfl rfl
theorem x122_30 {z : P0} : X z 122 30 = XI mT z (X z) (.iconst 1, 1, 0, 0, 0, [], nI 1, 0) 122 30 := X_at (r := mi122) rfl rfl
theorem x122_31 {z : P0} : X z 122 31 = XI mT z (X z) (.if_icmp .ne 24, 3, 55, 0, 0, [], 0, 0) 122 31 := X_at (r := mi122) rfl rfl
theorem x122_34 {z : P0} : X z 122 34 = XI mT z (X z) (.iload_n 3, 1, 3, 0, 0, [], 0, 0) 122 34 := X_at (r := mi122) rfl rfl
theorem x122_35 {z : P0} : X z 122 35 = XI mT z (X z) (.aload_n 0, 1, 0, 0, 0, [], 0, 0) 122 35 := X_at (r := mi122) rfl rfl
theorem x122_36 {z : P0} : X z 122 36 = XI mT z (X z) (.getfield 7, 3, 11, 0, 3, [134], 0, 0) 122 36 := X_at (r := mi122) rfl rfl
theorem x122_39 {z : P0} : X z 122 39 = XI mT z (X z) (.bipush 53, 2, 0, 0, 0, [], nI 53, 0) 122 39 := X_at (r := mi122) rfl rfl
theorem x122_41 {z : P0} : X z 122 41 = XI mT z (X z) (.iload 4, 2, 4, 0, 0, [], 0, 0) 122 41 := X_at (r := mi122) rfl rfl
theorem x122_43 {z : P0} : X z 122 43 = XI mT z (X z) (.iadd, 1, 0, 0, 0, [], 0, 0) 122 43 := X_at (r := mi122) rfl rfl
theorem x122_44 {z : P0} : X z 122 44 = XI mT z (X z) (.iaload, 1, 0, 0, 0, [], 0, 0) 122 44 := X_at (r := mi122) rfl rfl
theorem x122_45 {z : P0} : X z 122 45 = XI mT z (X z) (.ishr, 1, 0, 0, 0, [], 0, 0) 122 45 := X_at (r := mi122) rfl rfl
theorem x122_46 {z : P0} : X z 122 46 = XI mT z (X z) (.iconst 1, 1, 0, 0, 0, [], nI 1, 0) 122 46 := X_at (r := mi122) rfl rfl
theorem x122_47 {z : P0} : X z 122 47 = XI mT z (X z) (.iand, 1, 0, 0, 0, [], 0, 0) 122 47 := X_at (r := mi122) rfl rfl
theorem x122_48 {z : P0} : X z 122 48 = XI mT z (X z) (.ifCond .ne 7, 3, 55, 0, 0, [], 0, 0) 122 48 := X_at (r := mi122) rfl rfl
theorem x122_51 {z : P0} : X z 122 51 = XI mT z (X z) (.iconst 1, 1, 0, 0, 0, [], nI 1, 0) 122 51 := X_at (r := mi122) rfl rfl
theorem x122_52 {z : P0} : X z 122 52 = XI mT z (X z) (.goto 4, 3, 56, 0, 0, [], 0, 0) 122 52 := X_at (r := mi122) rfl rfl
theorem x122_55 {z : P0} : X z 122 55 = XI mT z (X z) (.iconst 0, 1, 0, 0, 0, [], nI 0, 0) 122 55 := X_at (r := mi122) rfl rfl
theorem x122_56 {z : P0} : X z 122 56 = XI mT z (X z) (.istore 5, 2, 5, 0, 0, [], 0, 0) 122 56 := X_at (r := mi122) rfl rfl
theorem x122_58 {z : P0} : X z 122 58 = XI mT z (X z) (.iload_n 3, 1, 3, 0, 0, [], 0, 0) 122 58 := X_at (r := mi122) rfl rfl
theorem x122_59 {z : P0} : X z 122 59 = XI mT z (X z) (.iload 5, 2, 5, 0, 0, [], 0, 0) 122 59 := X_at (r := mi122) rfl rfl
theorem x122_61 {z : P0} : X z 122 61 = XI mT z (X z) (.ifCond .eq 18, 3, 79, 0, 0, [], 0, 0) 122 61 := X_at (r := mi122) rfl rfl
theorem x122_64 {z : P0} : X z 122 64 = XI mT z (X z) (.iconst 1, 1, 0, 0, 0, [], nI 1, 0) 122 64 := X_at (r := mi122) rfl rfl
theorem x122_65 {z : P0} : X z 122 65 = XI mT z (X z) (.aload_n 0, 1, 0, 0, 0, [], 0, 0) 122 65 := X_at (r := mi122) rfl rfl
theorem x122_66 {z : P0} : X z 122 66 = XI mT z (X z) (.getfield 7, 3, 11, 0, 3, [134], 0, 0) 122 66 := X_at (r := mi122) rfl rfl
theorem x122_69 {z : P0} : X z 122 69 = XI mT z (X z) (.bipush 53, 2, 0, 0, 0, [], nI 53, 0) 122 69 := X_at (r := mi122) rfl rfl
theorem x122_71 {z : P0} : X z 122 71 = XI mT z (X z) (.iload 4, 2, 4, 0, 0, [], 0, 0) 122 71 := X_at (r := mi122) rfl rfl
theorem x122_73 {z : P0} : X z 122 73 = XI mT z (X z) (.iadd, 1, 0, 0, 0, [], 0, 0) 122 73 := X_at (r := mi122) rfl rfl
theorem x122_74 {z : P0} : X z 122 74 = XI mT z (X z) (.iaload, 1, 0, 0, 0, [], 0, 0) 122 74 := X_at (r := mi122) rfl rfl
theorem x122_75 {z : P0} : X z 122 75 = XI mT z (X z) (.ishl, 1, 0, 0, 0, [], 0, 0) 122 75 := X_at (r := mi122) rfl rfl
theorem x122_76 {z : P0} : X z 122 76 = XI mT z (X z) (.goto 4, 3, 80, 0, 0, [], 0, 0) 122 76 := X_at (r := mi122) rfl rfl
theorem x122_79 {z : P0} : X z 122 79 = XI mT z (X z) (.iconst 0, 1, 0, 0, 0, [], nI 0, 0) 122 79 := X_at (r := mi122) rfl rfl
theorem x122_80 {z : P0} : X z 122 80 = XI mT z (X z) (.ior, 1, 0, 0, 0, [], 0, 0) 122 80 := X_at (r := mi122) rfl rfl
theorem x122_81 {z : P0} : X z 122 81 = XI mT z (X z) (.istore_n 3, 1, 3, 0, 0, [], 0, 0) 122 81 := X_at (r := mi122) rfl rfl
theorem x122_82 {z : P0} : X z 122 82 = XI mT z (X z) (.iload_n 2, 1, 2, 0, 0, [], 0, 0) 122 82 := X_at (r := mi122) rfl rfl
theorem x122_83 {z : P0} : X z 122 83 = XI mT z (X z) (.iload 5, 2, 5, 0, 0, [], 0, 0) 122 83 := X_at (r := mi122) rfl rfl
theorem x122_85 {z : P0} : X z 122 85 = XI mT z (X z) (.ifCond .eq 7, 3, 92, 0, 0, [], 0, 0) 122 85 := X_at (r := mi122) rfl rfl
theorem x122_88 {z : P0} : X z 122 88 = XI mT z (X z) (.iconst 1, 1, 0, 0, 0, [], nI 1, 0) 122 88 := X_at (r := mi122) rfl rfl
theorem x122_89 {z : P0} : X z 122 89 = XI mT z (X z) (.goto 4, 3, 93, 0, 0, [], 0, 0) 122 89 := X_at (r := mi122) rfl rfl
theorem x122_92 {z : P0} : X z 122 92 = XI mT z (X z) (.iconst 0, 1, 0, 0, 0, [], nI 0, 0) 122 92 := X_at (r := mi122) rfl rfl
theorem x122_93 {z : P0} : X z 122 93 = XI mT z (X z) (.iadd, 1, 0, 0, 0, [], 0, 0) 122 93 := X_at (r := mi122) rfl rfl
theorem x122_94 {z : P0} : X z 122 94 = XI mT z (X z) (.istore_n 2, 1, 2, 0, 0, [], 0, 0) 122 94 := X_at (r := mi122) rfl rfl
theorem x122_95 {z : P0} : X z 122 95 = XI mT z (X z) (.iinc 4 1, 3, 4, 0, 0, [], nI 1, 0) 122 95 := X_at (r := mi122) rfl rfl
theorem x122_98 {z : P0} : X z 122 98 = XI mT z (X z) (.goto (-91), 3, 7, 0, 0, [], 0, 0) 122 98 := X_at (r := mi122) rfl rfl
theorem x122_101 {z : P0} : X z 122 101 = XI mT z (X z) (.iconst 0, 1, 0, 0, 0, [], nI 0, 0) 122 101 := X_at (r := mi122) rfl rfl
theorem x122_102 {z : P0} : X z 122 102 = XI mT z (X z) (.istore 4, 2, 4, 0, 0, [], 0, 0) 122 102 := X_at (r := mi122) rfl rfl
theorem x122_104 {z : P0} : X z 122 104 = XI mT z (X z) (.iconst 0, 1, 0, 0, 0, [], nI 0, 0) 122 104 := X_at (r := mi122) rfl rfl
theorem x122_105 {z : P0} : X z 122 105 = XI mT z (X z) (.istore 5, 2, 5, 0, 0, [], 0, 0) 122 105 := X_at (r := mi122) rfl rfl
theorem x122_107 {z : P0} : X z 122 107 = XI mT z (X z) (.iload 5, 2, 5, 0, 0, [], 0, 0) 122 107 := X_at (r := mi122) rfl rfl
theorem x122_109 {z : P0} : X z 122 109 = XI mT z (X z) (.aload_n 0, 1, 0, 0, 0, [], 0, 0) 122 109 := X_at (r := mi122) rfl rfl
theorem x122_110 {z : P0} : X z 122 110 = XI mT z (X z) (.getfield 7, 3, 11, 0, 3, [134], 0, 0) 122 110 := X_at (r := mi122) rfl rfl
theorem x122_113 {z : P0} : X z 122 113 = XI mT z (X z) (.bipush 6, 2, 0, 0, 0, [], nI 6, 0) 122 113 := X_at (r := mi122) rfl rfl
theorem x122_115 {z : P0} : X z 122 115 = XI mT z (X z) (.iaload, 1, 0, 0, 0, [], 0, 0) 122 115 := X_at (r := mi122) rfl rfl
theorem x122_116 {z : P0} : X z 122 116 = XI mT z (X z) (.if_icmp .ge 83, 3, 199, 0, 0, [], 0, 0) 122 116 := X_at (r := mi122) rfl rfl
theorem x122_119 {z : P0} : X z 122 119 = XI mT z (X z) (.aload_n 0, 1, 0, 0, 0, [], 0, 0) 122 119 := X_at (r := mi122) rfl rfl
theorem x122_120 {z : P0} : X z 122 120 = XI mT z (X z) (.getfield 19, 3, 11, 6, 3, [137], 0, 0) 122 120 := X_at (r := mi122) rfl rfl
theorem x122_123 {z : P0} : X z 122 123 = XI mT z (X z) (.iload_n 1, 1, 1, 0, 0, [], 0, 0) 122 123 := X_at (r := mi122) rfl rfl
theorem x122_124 {z : P0} : X z 122 124 = XI mT z (X z) (.iaload, 1, 0, 0, 0, [], 0, 0) 122 124 := X_at (r := mi122) rfl rfl
theorem x122_125 {z : P0} : X z 122 125 = XI mT z (X z) (.iload 5, 2, 5, 0, 0, [], 0, 0) 122 125 := X_at (r := mi122) rfl rfl
theorem x122_127 {z : P0} : X z 122 127 = XI mT z (X z) (.ishr, 1, 0, 0, 0, [], 0, 0) 122 127 := X_at (r := mi122) rfl rfl
theorem x122_128 {z : P0} : X z 122 128 = XI mT z (X z) (.iconst 1, 1, 0, 0, 0, [], nI 1, 0) 122 128 := X_at (r := mi122) rfl rfl
theorem x122_129 {z : P0} : X z 122 129 = XI mT z (X z) (.iand, 1, 0, 0, 0, [], 0, 0) 122 129 := X_at (r := mi122) rfl rfl
theorem x122_130 {z : P0} : X z 122 130 = XI mT z (X z) (.iconst 1, 1, 0, 0, 0, [], nI 1, 0) 122 130 := X_at (r := mi122) rfl rfl
theorem x122_131 {z : P0} : X z 122 131 = XI mT z (X z) (.if_icmp .ne 62, 3, 193, 0, 0, [], 0, 0) 122 131 := X_at (r := mi122) rfl rfl
theorem x122_134 {z : P0} : X z 122 134 = XI mT z (X z) (.iload_n 3, 1, 3, 0, 0, [], 0, 0) 122 134 := X_at (r := mi122) rfl rfl
theorem x122_135 {z : P0} : X z 122 135 = XI mT z (X z) (.aload_n 0, 1, 0, 0, 0, [], 0, 0) 122 135 := X_at (r := mi122) rfl rfl
theorem x122_136 {z : P0} : X z 122 136 = XI mT z (X z) (.getfield 7, 3, 11, 0, 3, [134], 0, 0) 122 136 := X_at (r := mi122) rfl rfl
theorem x122_139 {z : P0} : X z 122 139 = XI mT z (X z) (.bipush 53, 2, 0, 0, 0, [], nI 53, 0) 122 139 := X_at (r := mi122) rfl rfl
theorem x122_141 {z : P0} : X z 122 141 = XI mT z (X z) (.iload 5, 2, 5, 0, 0, [], 0, 0) 122 141 := X_at (r := mi122) rfl rfl
theorem x122_143 {z : P0} : X z 122 143 = XI mT z (X z) (.iadd, 1, 0, 0, 0, [], 0, 0) 122 143 := X_at (r := mi122) rfl rfl
theorem x122_144 {z : P0} : X z 122 144 = XI mT z (X z) (.iaload, 1, 0, 0, 0, [], 0, 0) 122 144 := X_at (r := mi122) rfl rfl
theorem x122_145 {z : P0} : X z 122 145 = XI mT z (X z) (.ishr, 1, 0, 0, 0, [], 0, 0) 122 145 := X_at (r := mi122) rfl rfl
theorem x122_146 {z : P0} : X z 122 146 = XI mT z (X z) (.iconst 1, 1, 0, 0, 0, [], nI 1, 0) 122 146 := X_at (r := mi122) rfl rfl
theorem x122_147 {z : P0} : X z 122 147 = XI mT z (X z) (.iand, 1, 0, 0, 0, [], 0, 0) 122 147 := X_at (r := mi122) rfl rfl
theorem x122_148 {z : P0} : X z 122 148 = XI mT z (X z) (.iconst 1, 1, 0, 0, 0, [], nI 1, 0) 122 148 := X_at (r := mi122) rfl rfl
theorem x122_149 {z : P0} : X z 122 149 = XI mT z (X z) (.if_icmp .ne 44, 3, 193, 0, 0, [], 0, 0) 122 149 := X_at (r := mi122) rfl rfl
theorem x122_152 {z : P0} : X z 122 152 = XI mT z (X z) (.iload_n 3, 1, 3, 0, 0, [], 0, 0) 122 152 := X_at (r := mi122) rfl rfl
theorem x122_153 {z : P0} : X z 122 153 = XI mT z (X z) (.iconst 1, 1, 0, 0, 0, [], nI 1, 0) 122 153 := X_at (r := mi122) rfl rfl
theorem x122_154 {z : P0} : X z 122 154 = XI mT z (X z) (.aload_n 0, 1, 0, 0, 0, [], 0, 0) 122 154 := X_at (r := mi122) rfl rfl
theorem x122_155 {z : P0} : X z 122 155 = XI mT z (X z) (.getfield 7, 3, 11, 0, 3, [134], 0, 0) 122 155 := X_at (r := mi122) rfl rfl
theorem x122_158 {z : P0} : X z 122 158 = XI mT z (X z) (.bipush 53, 2, 0, 0, 0, [], nI 53, 0) 122 158 := X_at (r := mi122) rfl rfl
theorem x122_160 {z : P0} : X z 122 160 = XI mT z (X z) (.iload 5, 2, 5, 0, 0, [], 0, 0) 122 160 := X_at (r := mi122) rfl rfl
theorem x122_162 {z : P0} : X z 122 162 = XI mT z (X z) (.iadd, 1, 0, 0, 0, [], 0, 0) 122 162 := X_at (r := mi122) rfl rfl
theorem x122_163 {z : P0} : X z 122 163 = XI mT z (X z) (.iaload, 1, 0, 0, 0, [], 0, 0) 122 163 := X_at (r := mi122) rfl rfl
theorem x122_164 {z : P0} : X z 122 164 = XI mT z (X z) (.ishl, 1, 0, 0, 0, [], 0, 0) 122 164 := X_at (r := mi122) rfl rfl
theorem x122_165 {z : P0} : X z 122 165 = XI mT z (X z) (.iconst (-1), 1, 0, 0, 0, [], (-1), 0) 122 165 := X_at (r := mi122) rfl rfl
theorem x122_166 {z : P0} : X z 122 166 = XI mT z (X z) (.ixor, 1, 0, 0, 0, [], 0, 0) 122 166 := X_at (r := mi122) rfl rfl
theorem x122_167 {z : P0} : X z 122 167 = XI mT z (X z) (.iand, 1, 0, 0, 0, [], 0, 0) 122 167 := X_at (r := mi122) rfl rfl
theorem x122_168 {z : P0} : X z 122 168 = XI mT z (X z) (.istore_n 3, 1, 3, 0, 0, [], 0, 0) 122 168 := X_at (r := mi122) rfl rfl
theorem x122_169 {z : P0} : X z 122 169 = XI mT z (X z) (.aload_n 0, 1, 0, 0, 0, [], 0, 0) 122 169 := X_at (r := mi122) rfl rfl
theorem x122_170 {z : P0} : X z 122 170 = XI mT z (X z) (.iload 4, 2, 4, 0, 0, [], 0, 0) 122 170 := X_at (r := mi122) rfl rfl
theorem x122_172 {z : P0} : X z 122 172 = XI mT z (X z) (.iload_n 2, 1, 2, 0, 0, [], 0, 0) 122 172 := X_at (r := mi122) rfl rfl
theorem x122_173 {z : P0} : X z 122 173 = XI mT z (X z) (.invokevirtual 75, 3, 2, 117, 0, [113], 0, 0) 122 173 := X_at (r := mi122) rfl rfl
theorem x122_176 {z : P0} : X z 122 176 = XI mT z (X z) (.aload_n 0, 1, 0, 0, 0, [], 0, 0) 122 176 := X_at (r := mi122) rfl rfl
theorem x122_177 {z : P0} : X z 122 177 = XI mT z (X z) (.aload_n 0, 1, 0, 0, 0, [], 0, 0) 122 177 := X_at (r := mi122) rfl rfl
theorem x122_178 {z : P0} : X z 122 178 = XI mT z (X z) (.getfield 7, 3, 11, 0, 3, [134], 0, 0) 122 178 := X_at (r := mi122) rfl rfl
theorem x122_181 {z : P0} : X z 122 181 = XI mT z (X z) (.bipush 53, 2, 0, 0, 0, [], nI 53, 0) 122 181 := X_at (r := mi122) rfl rfl
theorem x122_183 {z : P0} : X z 122 183 = XI mT z (X z) (.iload 5, 2, 5, 0, 0, [], 0, 0) 122 183 := X_at (r := mi122) rfl rfl
theorem x122_185 {z : P0} : X z 122 185 = XI mT z (X z) (.iadd, 1, 0, 0, 0, [], 0, 0) 122 185 := X_at (r := mi122) rfl rfl
theorem x122_186 {z : P0} : X z 122 186 = XI mT z (X z) (.iaload, 1, 0, 0, 0, [], 0, 0) 122 186 := X_at (r := mi122) rfl rfl
theorem x122_187 {z : P0} : X z 122 187 = XI mT z (X z) (.invokevirtual 82, 3, 1, 121, 0, [115], 0, 0) 122 187 := X_at (r := mi122) rfl rfl
theorem x122_190 {z : P0} : X z 122 190 = XI mT z (X z) (.iinc 4 1, 3, 4, 0, 0, [], nI 1, 0) 122 190 := X_at (r := mi122) rfl rfl
theorem x122_193 {z : P0} : X z 122 193 = XI mT z (X z) (.iinc 5 1, 3, 5, 0, 0, [], nI 1, 0) 122 193 := X_at (r := mi122) rfl rfl
theorem x122_196 {z : P0} : X z 122 196 = XI mT z (X z) (.goto (-89), 3, 107, 0, 0, [], 0, 0) 122 196 := X_at (r := mi122) rfl rfl
theorem x122_199 {z : P0} : X z 122 199 = XI mT z (X z) (.return_, 1, 0, 0, 0, [], 0, 0) 122 199 := X_at (r := mi122) rfl rfl
theorem x123_0 {z : P0} : X z 123 0 = XI mT z (X z) (.iload_n 1, 1, 1, 0, 0, [], 0, 0) 123 0 := X_at (r := mi123) rfl rfl
theorem x123_1 {z : P0} : X z 123 1 = XI mT z (X z) (.lookupswitch 83 #[(355, 67), (359, 51), (366, 43), (375, 59)], 43, 84, 0, 0, [68, 52, 44, 60], 0, 0) 123 1 := X_at (r := mi123) rfl rfl
theorem x123_44 {z : P0} : X z 123 44 = XI mT z (X z) (.aload_n 0, 1, 0, 0, 0, [], 0, 0) 123 44 := X_at (r := mi123) rfl rfl
theorem x123_45 {z : P0} : X z 123 45 = XI mT z (X z) (.iload_n 2, 1, 2, 0, 0, [], 0, 0) 123 45 := X_at (r := mi123) rfl rfl
theorem x123_46 {z : P0} : X z 123 46 = XI mT z (X z) (.invokevirtual 85, 3, 1, 118, 0, [116], 0, 0) 123 46 := X_at (r := mi123) rfl rfl
theorem x123_49 {z : P0} : X z 123 49 = XI mT z (X z) (.goto 40, 3, 89, 0, 0, [], 0, 0) 123 49 := X_at (r := mi123) rfl rfl
theorem x123_52 {z : P0} : X z 123 52 = XI mT z (X z) (.aload_n 0, 1, 0, 0, 0, [], 0, 0) 123 52 := X_at (r := mi123) rfl rfl
theorem x123_53 {z : P0} : X z 123 53 = XI mT z (X z) (.iload_n 2, 1, 2, 0, 0, [], 0, 0) 123 53 := X_at (r := mi123) rfl rfl
theorem x123_54 {z : P0} : X z 123 54 = XI mT z (X z) (.invokevirtual 88, 3, 1, 119, 0, [117], 0, 0) 123 54 := X_at (r := mi123) rfl rfl
theorem x123_57 {z : P0} : X z 123 57 = XI mT z (X z) (.goto 32, 3, 89, 0, 0, [], 0, 0) 123 57 := X_at (r := mi123) rfl rfl
theorem x123_60 {z : P0} : X z 123 60 = XI mT z (X z) (.aload_n 0, 1, 0, 0, 0, [], 0, 0) 123 60 := X_at (r := mi123) rfl rfl
theorem x123_61 {z : P0} : X z 123 61 = XI mT z (X z) (.iload_n 2, 1, 2, 0, 0, [], 0, 0) 123 61 := X_at (r := mi123) rfl rfl
theorem x123_62 {z : P0} : X z 123 62 = XI mT z (X z) (.invokevirtual 91, 3, 1, 122, 0, [118], 0, 0) 123 62 := X_at (r := mi123) rfl rfl
theorem x123_65 {z : P0} : X z 123 65 = XI mT z (X z) (.goto 24, 3, 89, 0, 0, [], 0, 0) 123 65 := X_at (r := mi123) rfl rfl
theorem x123_68 {z : P0} : X z 123 68 = XI mT z (X z) (.aload_n 0, 1, 0, 0, 0, [], 0, 0) 123 68 := X_at (r := mi123) rfl rfl
theorem x123_69 {z : P0} : X z 123 69 = XI mT z (X z) (.bipush 48, 2, 0, 0, 0, [], nI 48, 0) 123 69 := X_at (r := mi123) rfl rfl
theorem x123_71 {z : P0} : X z 123 71 = XI mT z (X z) (.aload_n 0, 1, 0, 0, 0, [], 0, 0) 123 71 := X_at (r := mi123) rfl rfl
theorem x123_72 {z : P0} : X z 123 72 = XI mT z (X z) (.getfield 22, 3, 11, 7, 3, [138], 0, 0) 123 72 := X_at (r := mi123) rfl rfl
theorem x123_75 {z : P0} : X z 123 75 = XI mT z (X z) (.iload_n 2, 1, 2, 0, 0, [], 0, 0) 123 75 := X_at (r := mi123) rfl rfl
theorem x123_76 {z : P0} : X z 123 76 = XI mT z (X z) (.iaload, 1, 0, 0, 0, [], 0, 0) 123 76 := X_at (r := mi123) rfl rfl
theorem x123_77 {z : P0} : X z 123 77 = XI mT z (X z) (.iadd, 1, 0, 0, 0, [], 0, 0) 123 77 := X_at (r := mi123) rfl rfl
theorem x123_78 {z : P0} : X z 123 78 = XI mT z (X z) (.invokevirtual 71, 3, 1, 116, 0, [112], 0, 0) 123 78 := X_at (r := mi123) rfl rfl
theorem x123_81 {z : P0} : X z 123 81 = XI mT z (X z) (.goto 8, 3, 89, 0, 0, [], 0, 0) 123 81 := X_at (r := mi123) rfl rfl
theorem x123_84 {z : P0} : X z 123 84 = XI mT z (X z) (.aload_n 0, 1, 0, 0, 0, [], 0, 0) 123 84 := X_at (r := mi123) rfl rfl
theorem x123_85 {z : P0} : X z 123 85 = XI mT z (X z) (.iload_n 1, 1, 1, 0, 0, [], 0, 0) 123 85 := X_at (r := mi123) rfl rfl
theorem x123_86 {z : P0} : X z 123 86 = XI mT z (X z) (.invokevirtual 71, 3, 1, 116, 0, [112], 0, 0) 123 86 := X_at (r := mi123) rfl rfl
theorem x123_89 {z : P0} : X z 123 89 = XI mT z (X z) (.return_, 1, 0, 0, 0, [], 0, 0) 123 89 := X_at (r := mi123) rfl rfl
theorem x124_0 {z : P0} : X z 124 0 = XI mT z (X z) (.aload_n 0, 1, 0, 0, 0, [], 0, 0) 124 0 := X_at (r := mi124) rfl rfl
theorem x124_1 {z : P0} : X z 124 1 = XI mT z (X z) (.iconst 0, 1, 0, 0, 0, [], nI 0, 0) 124 1 := X_at (r := mi124) rfl rfl
theorem x124_2 {z : P0} : X z 124 2 = XI mT z (X z) (.putfield 68, 3, 11, 14, 0, [147], 0, 0) 124 2 := X_at (r := mi124) rfl rfl
theorem x124_5 {z : P0} : X z 124 5 = XI mT z (X z) (.iconst 0, 1, 0, 0, 0, [], nI 0, 0) 124 5 := X_at (r := mi124) rfl rfl
theorem x124_6 {z : P0} : X z 124 6 = XI mT z (X z) (.istore_n 2, 1, 2, 0, 0, [], 0, 0) 124 6 := X_at (r := mi124) rfl rfl
theorem x124_7 {z : P0} : X z 124 7 = XI mT z (X z) (.iconst 0, 1, 0, 0, 0, [], nI 0, 0) 124 7 := X_at (r := mi124) rfl rfl
theorem x124_8 {z : P0} : X z 124 8 = XI mT z (X z) (.istore_n 3, 1, 3, 0, 0, [], 0, 0) 124 8 := X_at (r := mi124) rfl rfl
theorem x124_9 {z : P0} : X z 124 9 = XI mT z (X z) (.iload_n 3, 1, 3, 0, 0, [], 0, 0) 124 9 := X_at (r := mi124) rfl rfl
theorem x124_10 {z : P0} : X z 124 10 = XI mT z (X z) (.aload_n 0, 1, 0, 0, 0, [], 0, 0) 124 10 := X_at (r := mi124) rfl rfl
theorem x124_11 {z : P0} : X z 124 11 = XI mT z (X z) (.getfield 7, 3, 11, 0, 3, [134], 0, 0) 124 11 := X_at (r := mi124) rfl rfl
theorem x124_14 {z : P0} : X z 124 14 = XI mT z (X z) (.bipush 12, 2, 0, 0, 0, [], nI 12, 0) 124 14 := X_at (r := mi124) rfl rfl
theorem x124_16 {z : P0} : X z 124 16 = XI mT z (X z) (.iaload, 1, 0, 0, 0, [], 0, 0) 124 16 := X_at (r := mi124) rfl rfl
theorem x124_17 {z : P0} : X z 124 17 = XI mT z (X z) (.if_icmp .ge 72, 3, 89, 0, 0, [], 0, 0) 124 17 := X_at (r := mi124) rfl rfl
theorem x124_20 {z : P0} : X z 124 20 = XI mT z (X z) (.aload_n 0, 1, 0, 0, 0, [], 0, 0) 124 20 := X_at (r := mi124) rfl rfl
theorem x124_21 {z : P0} : X z 124 21 = XI mT z (X z) (.getfield 7, 3, 11, 0, 3, [134], 0, 0) 124 21 := X_at (r := mi124) rfl rfl
theorem x124_24 {z : P0} : X z 124 24 = XI mT z (X z) (.sipush 413, 3, 0, 0, 0, [], nI 413, 0) 124 24 := X_at (r := mi124) rfl rfl
theorem x124_27 {z : P0} : X z 124 27 = XI mT z (X z) (.iload_n 3, 1, 3, 0, 0, [], 0, 0) 124 27 := X_at (r := mi124) rfl rfl
theorem x124_28 {z : P0} : X z 124 28 = XI mT z (X z) (.iadd, 1, 0, 0, 0, [], 0, 0) 124 28 := X_at (r := mi124) rfl rfl
theorem x124_29 {z : P0} : X z 124 29 = XI mT z (X z) (.iaload, 1, 0, 0, 0, [], 0, 0) 124 29 := X_at (r := mi124) rfl rfl
theorem x124_30 {z : P0} : X z 124 30 = XI mT z (X z) (.istore 4, 2, 4, 0, 0, [], 0, 0) 124 30 := X_at (r := mi124) rfl rfl
theorem x124_32 {z : P0} : X z 124 32 = XI mT z (X z) (.iload 4, 2, 4, 0, 0, [], 0, 0) 124 32 := X_at (r := mi124) rfl rfl
theorem x124_34 {z : P0} : X z 124 34 = XI mT z (X z) (.bipush 123, 2, 0, 0, 0, [], nI 123, 0) 124 34 := X_at (r := mi124) rfl rfl
theorem x124_36 {z : P0} : X z 124 36 = XI mT z (X z) (.if_icmp .eq 10, 3, 46, 0, 0, [], 0, 0) 124 36 := X_at (r := mi124) rfl rfl
theorem x124_39 {z : P0} : X z 124 39 = XI mT z (X z) (.iload 4, 2, 4, 0, 0, [], 0, 0) 124 39 := X_at (r := mi124) rfl rfl
theorem x124_41 {z : P0} : X z 124 41 = XI mT z (X z) (.bipush 125, 2, 0, 0, 0, [], nI 125, 0) 124 41 := X_at (r := mi124) rfl rfl
theorem x124_43 {z : P0} : X z 124 43 = XI mT z (X z) (.if_icmp .ne 19, 3, 62, 0, 0, [], 0, 0) 124 43 := X_at (r := mi124) rfl rfl
theorem x124_46 {z : P0} : X z 124 46 = XI mT z (X z) (.iload 4, 2, 4, 0, 0, [], 0, 0) 124 46 := X_at (r := mi124) rfl rfl
theorem x124_48 {z : P0} : X z 124 48 = XI mT z (X z) (.bipush 123, 2, 0, 0, 0, [], nI 123, 0) 124 48 := X_at (r := mi124) rfl rfl
theorem x124_50 {z : P0} : X z 124 50 = XI mT z (X z) (.if_icmp .ne 7, 3, 57, 0, 0, [], 0, 0) 124 50 := X_at (r := mi124) rfl rfl
theorem x124_53 {z : P0} : X z 124 53 = XI mT z (X z) (.iconst 1, 1, 0, 0, 0, [], nI 1, 0) 124 53 := X_at (r := mi124) rfl rfl
theorem x124_54 {z : P0} : X z 124 54 = XI mT z (X z) (.goto 4, 3, 58, 0, 0, [], 0, 0) 124 54 := X_at (r := mi124) rfl rfl
theorem x124_57 {z : P0} : X z 124 57 = XI mT z (X z) (.iconst 0, 1, 0, 0, 0, [], nI 0, 0) 124 57 := X_at (r := mi124) rfl rfl
theorem x124_58 {z : P0} : X z 124 58 = XI mT z (X z) (.istore_n 2, 1, 2, 0, 0, [], 0, 0) 124 58 := X_at (r := mi124) rfl rfl
theorem x124_59 {z : P0} : X z 124 59 = XI mT z (X z) (.goto 24, 3, 83, 0, 0, [], 0, 0) 124 59 := X_at (r := mi124) rfl rfl
theorem x124_62 {z : P0} : X z 124 62 = XI mT z (X z) (.iload_n 2, 1, 2, 0, 0, [], 0, 0) 124 62 := X_at (r := mi124) rfl rfl
theorem x124_63 {z : P0} : X z 124 63 = XI mT z (X z) (.ifCond .eq 13, 3, 76, 0, 0, [], 0, 0) 124 63 := X_at (r := mi124) rfl rfl
theorem x124_66 {z : P0} : X z 124 66 = XI mT z (X z) (.aload_n 0, 1, 0, 0, 0, [], 0, 0) 124 66 := X_at (r := mi124) rfl rfl
theorem x124_67 {z : P0} : X z 124 67 = XI mT z (X z) (.getfield 22, 3, 11, 7, 3, [138], 0, 0) 124 67 := X_at (r := mi124) rfl rfl
theorem x124_70 {z : P0} : X z 124 70 = XI mT z (X z) (.iload_n 1, 1, 1, 0, 0, [], 0, 0) 124 70 := X_at (r := mi124) rfl rfl
theorem x124_71 {z : P0} : X z 124 71 = XI mT z (X z) (.iaload, 1, 0, 0, 0, [], 0, 0) 124 71 := X_at (r := mi124) rfl rfl
theorem x124_72 {z : P0} : X z 124 72 = XI mT z (X z) (.iconst 1, 1, 0, 0, 0, [], nI 1, 0) 124 72 := X_at (r := mi124) rfl rfl
theorem x124_73 {z : P0} : X z 124 73 = XI mT z (X z) (.if_icmp .le 10, 3, 83, 0, 0, [], 0, 0) 124 73 := X_at (r := mi124) rfl rfl
theorem x124_76 {z : P0} : X z 124 76 = XI mT z (X z) (.aload_n 0, 1, 0, 0, 0, [], 0, 0) 124 76 := X_at (r := mi124) rfl rfl
theorem x124_77 {z : P0} : X z 124 77 = XI mT z (X z) (.iload 4, 2, 4, 0, 0, [], 0, 0) 124 77 := X_at (r := mi124) rfl rfl
theorem x124_79 {z : P0} : X z 124 79 = XI mT z (X z) (.iload_n 1, 1, 1, 0, 0, [], 0, 0) 124 79 := X_at (r := mi124) rfl rfl
theorem x124_80 {z : P0} : X z 124 80 = XI mT z (X z) (.invokevirtual 94, 3, 2, 123, 0, [119], 0, 0) 124 80 := X_at (r := mi124) rfl rfl
theorem x124_83 {z : P0} : X z 124 83 = XI mT z (X z) (.iinc 3 1, 3, 3, 0, 0, [], nI 1, 0) 124 83 := X_at (r := mi124) rfl rfl
theorem x124_86 {z : P0} : X z 124 86 = XI mT z (X z) (.goto (-77), 3, 9, 0, 0, [], 0, 0) 124 86 := X_at (r := mi124) rfl rfl
theorem x124_89 {z : P0} : X z 124 89 = XI mT z (X z) (.return_, 1, 0, 0, 0, [], 0, 0) 124 89 := X_at (r := mi124) rfl rfl
theorem x125_0 {z : P0} : X z 125 0 = XI mT z (X z) (.aload_n 0, 1, 0, 0, 0, [], 0, 0) 125 0 := X_at (r := mi125) rfl rfl
theorem x125_1 {z : P0} : X z 125 1 = XI mT z (X z) (.dup, 1, 0, 0, 0, [], 0, 0) 125 1 := X_at (r := mi125) rfl rfl
theorem x125_2 {z : P0} : X z 125 2 = XI mT z (X z) (.getfield 97, 3, 11, 17, 0, [148], 0, 0) 125 2 := X_at (r := mi125) rfl rfl
theorem x125_5 {z : P0} : X z 125 5 = XI mT z (X z) (.iconst 1, 1, 0, 0, 0, [], nI 1, 0) 125 5 := X_at (r := mi125) rfl rfl
theorem x125_6 {z : P0} : X z 125 6 = XI mT z (X z) (.iadd, 1, 0, 0, 0, [], 0, 0) 125 6 := X_at (r := mi125) rfl rfl
theorem x125_7 {z : P0} : X z 125 7 = XI mT z (X z) (.putfield 97, 3, 11, 17, 0, [148], 0, 0) 125 7 := X_at (r := mi125) rfl rfl
theorem x125_10 {z : P0} : X z 125 10 = XI mT z (X z) (.aload_n 0, 1, 0, 0, 0, [], 0, 0) 125 10 := X_at (r := mi125) rfl rfl
theorem x125_11 {z : P0} : X z 125 11 = XI mT z (X z) (.iconst 0, 1, 0, 0, 0, [], nI 0, 0) 125 11 := X_at (r := mi125) rfl rfl
theorem x125_12 {z : P0} : X z 125 12 = XI mT z (X z) (.putfield 100, 3, 11, 15, 0, [149], 0, 0) 125 12 := X_at (r := mi125) rfl rfl
theorem x125_15 {z : P0} : X z 125 15 = XI mT z (X z) (.aload_n 0, 1, 0, 0, 0, [], 0, 0) 125 15 := X_at (r := mi125) rfl rfl
theorem x125_16 {z : P0} : X z 125 16 = XI mT z (X z) (.iconst 1, 1, 0, 0, 0, [], nI 1, 0) 125 16 := X_at (r := mi125) rfl rfl
theorem x125_17 {z : P0} : X z 125 17 = XI mT z (X z) (.putfield 103, 3, 11, 16, 1, [150], 0, 0) 125 17 := X_at (r := mi125) rfl rfl
theorem x125_20 {z : P0} : X z 125 20 = XI mT z (X z) (.return_, 1, 0, 0, 0, [], 0, 0) 125 20 := X_at (r := mi125) rfl rfl
theorem x126_0 {z : P0} : X z 126 0 = XI mT z (X z) (.aload_n 0, 1, 0, 0, 0, [], 0, 0) 126 0 := X_at (r := mi126) rfl rfl
theorem x126_1 {z : P0} : X z 126 1 = XI mT z (X z) (.getfield 103, 3, 11, 16, 1, [150], 0, 0) 126 1 := X_at (r := mi126) rfl rfl
theorem x126_4 {z : P0} : X z 126 4 = XI mT z (X z) (.ifCond .ne 24, 3, 28, 0, 0, [], 0, 0) 126 4 := X_at (r := mi126) rfl rfl
theorem x126_7 {z : P0} : X z 126 7 = XI mT z (X z) (.aload_n 0, 1, 0, 0, 0, [], 0, 0) 126 7 := X_at (r := mi126) rfl rfl
theorem x126_8 {z : P0} : X z 126 8 = XI mT z (X z) (.getfield 100, 3, 11, 15, 0, [149], 0, 0) 126 8 := X_at (r := mi126) rfl rfl
theorem x126_11 {z : P0} : X z 126 11 = XI mT z (X z) (.iconst 1, 1, 0, 0, 0, [], nI 1, 0) 126 11 := X_at (r := mi126) rfl rfl
theorem x126_12 {z : P0} : X z 126 12 = XI mT z (X z) (.iadd, 1, 0, 0, 0, [], 0, 0) 126 12 := X_at (r := mi126) rfl rfl
theorem x126_13 {z : P0} : X z 126 13 = XI mT z (X z) (.iload_n 1, 1, 1, 0, 0, [], 0, 0) 126 13 := X_at (r := mi126) rfl rfl
theorem x126_14 {z : P0} : X z 126 14 = XI mT z (X z) (.iadd, 1, 0, 0, 0, [], 0, 0) 126 14 := X_at (r := mi126) rfl rfl
theorem x126_15 {z : P0} : X z 126 15 = XI mT z (X z) (.aload_n 0, 1, 0, 0, 0, [], 0, 0) 126 15 := X_at (r := mi126) rfl rfl
theorem x126_16 {z : P0} : X z 126 16 = XI mT z (X z) (.getfield 7, 3, 11, 0, 3, [134], 0, 0) 126 16 := X_at (r := mi126) rfl rfl
theorem x126_19 {z : P0} : X z 126 19 = XI mT z (X z) (.iconst 0, 1, 0, 0, 0, [], nI 0, 0) 126 19 := X_at (r := mi126) rfl rfl
theorem x126_20 {z : P0} : X z 126 20 = XI mT z (X z) (.iaload, 1, 0, 0, 0, [], 0, 0) 126 20 := X_at (r := mi126) rfl rfl
theorem x126_21 {z : P0} : X z 126 21 = XI mT z (X z) (.if_icmp .le 7, 3, 28, 0, 0, [], 0, 0) 126 21 := X_at (r := mi126) rfl rfl
theorem x126_24 {z : P0} : X z 126 24 = XI mT z (X z) (.aload_n 0, 1, 0, 0, 0, [], 0, 0) 126 24 := X_at (r := mi126) rfl rfl
theorem x126_25 {z : P0} : X z 126 25 = XI mT z (X z) (.invokevirtual 107, 3, 0, 125, 0, [120], 0, 0) 126 25 := X_at (r := mi126) rfl rfl
theorem x126_28 {z : P0} : X z 126 28 = XI mT z (X z) (.aload_n 0, 1, 0, 0, 0, [], 0, 0) 126 28 := X_at (r := mi126) rfl rfl
theorem x126_29 {z : P0} : X z 126 29 = XI mT z (X z) (.dup, 1, 0, 0, 0, [], 0, 0) 126 29 := X_at (r := mi126) rfl rfl
theorem x126_30 {z : P0} : X z 126 30 = XI mT z (X z) (.getfield 100, 3, 11, 15, 0, [149], 0, 0) 126 30 := X_at (r := mi126) rfl rfl
theorem x126_33 {z : P0} : X z 126 33 = XI mT z (X z) (.iload_n 1, 1, 1, 0, 0, [], 0, 0) 126 33 := X_at (r := mi126) rfl rfl
theorem x126_34 {z : P0} : X z 126 34 = XI mT z (X z) (.aload_n 0, 1, 0, 0, 0, [], 0, 0) 126 34 := X_at (r := mi126) rfl rfl
theorem x126_35 {z : P0} : X z 126 35 = XI mT z (X z) (.getfield 103, 3, 11, 16, 1, [150], 0, 0) 126 35 := X_at (r := mi126) rfl rfl
theorem x126_38 {z : P0} : X z 126 38 = XI mT z (X z) (.ifCond .eq 7, 3, 45, 0, 0, [], 0, 0) 126 38 := X_at (r := mi126) rfl rfl
theorem x126_41 {z : P0} : X z 126 41 = XI mT z (X z) (.iconst 0, 1, 0, 0, 0, [], nI 0, 0) 126 41 := X_at (r := mi126) rfl rfl
theorem x126_42 {z : P0} : X z 126 42 = XI mT z (X z) (.goto 4, 3, 46, 0, 0, [], 0, 0) 126 42 := X_at (r := mi126) rfl rfl
theorem x126_45 {z : P0} : X z 126 45 = XI mT z (X z) (.iconst 1, 1, 0, 0, 0, [], nI 1, 0) 126 45 := X_at (r := mi126) rfl rfl
theorem x126_46 {z : P0} : X z 126 46 = XI mT z (X z) (.iadd, 1, 0, 0, 0, [], 0, 0) 126 46 := X_at (r := mi126) rfl rfl
theorem x126_47 {z : P0} : X z 126 47 = XI mT z (X z) (.iadd, 1, 0, 0, 0, [], 0, 0) 126 47 := X_at (r := mi126) rfl rfl
theorem x126_48 {z : P0} : X z 126 48 = XI mT z (X z) (.putfield 100, 3, 11, 15, 0, [149], 0, 0) 126 48 := X_at (r := mi126) rfl rfl
theorem x126_51 {z : P0} : X z 126 51 = XI mT z (X z) (.aload_n 0, 1, 0, 0, 0, [], 0, 0) 126 51 := X_at (r := mi126) rfl rfl
theorem x126_52 {z : P0} : X z 126 52 = XI mT z (X z) (.iconst 0, 1, 0, 0, 0, [], nI 0, 0) 126 52 := X_at (r := mi126) rfl rfl
theorem x126_53 {z : P0} : X z 126 53 = XI mT z (X z) (.putfield 103, 3, 11, 16, 1, [150], 0, 0) 126 53 := X_at (r := mi126) rfl rfl
theorem x126_56 {z : P0} : X z 126 56 = XI mT z (X z) (.return_, 1, 0, 0, 0, [], 0, 0) 126 56 := X_at (r := mi126) rfl rfl
theorem x127_0 {z : P0} : X z 127 0 = XI mT z (X z) (.iload_n 1, 1, 1, 0, 0, [], 0, 0) 127 0 := X_at (r := mi127) rfl rfl
theorem x127_1 {z : P0} : X z 127 1 = XI mT z (X z) (.istore_n 2, 1, 2, 0, 0, [], 0, 0) 127 1 := X_at (r := mi127) rfl rfl
theorem x127_2 {z : P0} : X z 127 2 = XI mT z (X z) (.iload_n 2, 1, 2, 0, 0, [], 0, 0) 127 2 := X_at (r := mi127) rfl rfl
theorem x127_3 {z : P0} : X z 127 3 = XI mT z (X z) (.aload_n 0, 1, 0, 0, 0, [], 0, 0) 127 3 := X_at (r := mi127) rfl rfl
theorem x127_4 {z : P0} : X z 127 4 = XI mT z (X z) (.getfield 7, 3, 11, 0, 3, [134], 0, 0) 127 4 := X_at (r := mi127) rfl rfl
theorem x127_7 {z : P0} : X z 127 7 = XI mT z (X z) (.iconst 0, 1, 0, 0, 0, [], nI 0, 0) 127 7 := X_at (r := mi127) rfl rfl
theorem x127_8 {z : P0} : X z 127 8 = XI mT z (X z) (.iaload, 1, 0, 0, 0, [], 0, 0) 127 8 := X_at (r := mi127) rfl rfl
theorem x127_9 {z : P0} : X z 127 9 = XI mT z (X z) (.if_icmp .le 25, 3, 34, 0, 0, [], 0, 0) 127 9 := X_at (r := mi127) rfl rfl
theorem x127_12 {z : P0} : X z 127 12 = XI mT z (X z) (.aload_n 0, 1, 0, 0, 0, [], 0, 0) 127 12 := X_at (r := mi127) rfl rfl
theorem x127_13 {z : P0} : X z 127 13 = XI mT z (X z) (.aload_n 0, 1, 0, 0, 0, [], 0, 0) 127 13 := X_at (r := mi127) rfl rfl
theorem x127_14 {z : P0} : X z 127 14 = XI mT z (X z) (.getfield 7, 3, 11, 0, 3, [134], 0, 0) 127 14 := X_at (r := mi127) rfl rfl
theorem x127_17 {z : P0} : X z 127 17 = XI mT z (X z) (.iconst 0, 1, 0, 0, 0, [], nI 0, 0) 127 17 := X_at (r := mi127) rfl rfl
theorem x127_18 {z : P0} : X z 127 18 = XI mT z (X z) (.iaload, 1, 0, 0, 0, [], 0, 0) 127 18 := X_at (r := mi127) rfl rfl
theorem x127_19 {z : P0} : X z 127 19 = XI mT z (X z) (.invokevirtual 110, 3, 1, 126, 0, [121], 0, 0) 127 19 := X_at (r := mi127) rfl rfl
theorem x127_22 {z : P0} : X z 127 22 = XI mT z (X z) (.iload_n 2, 1, 2, 0, 0, [], 0, 0) 127 22 := X_at (r := mi127) rfl rfl
theorem x127_23 {z : P0} : X z 127 23 = XI mT z (X z) (.aload_n 0, 1, 0, 0, 0, [], 0, 0) 127 23 := X_at (r := mi127) rfl rfl
theorem x127_24 {z : P0} : X z 127 24 = XI mT z (X z) (.getfield 7, 3, 11, 0, 3, [134], 0, 0) 127 24 := X_at (r := mi127) rfl rfl
theorem x127_27 {z : P0} : X z 127 27 = XI mT z (X z) (.iconst 0, 1, 0, 0, 0, [], nI 0, 0) 127 27 := X_at (r := mi127) rfl rfl
theorem x127_28 {z : P0} : X z 127 28 = XI mT z (X z) (.iaload, 1, 0, 0, 0, [], 0, 0) 127 28 := X_at (r := mi127) rfl rfl
theorem x127_29 {z : P0} : X z 127 29 = XI mT z (X z) (.isub, 1, 0, 0, 0, [], 0, 0) 127 29 := X_at (r := mi127) rfl rfl
theorem x127_30 {z : P0} : X z 127 30 = XI mT z (X z) (.istore_n 2, 1, 2, 0, 0, [], 0, 0) 127 30 := X_at (r := mi127) rfl rfl
theorem x127_31 {z : P0} : X z 127 31 = XI mT z (X z) (.goto (-29), 3, 2, 0, 0, [], 0, 0) 127 31 := X_at (r := mi127) rfl rfl
theorem x127_34 {z : P0} : X z 127 34 = XI mT z (X z) (.aload_n 0, 1, 0, 0, 0, [], 0, 0) 127 34 := X_at (r := mi127) rfl rfl
theorem x127_35 {z : P0} : X z 127 35 = XI mT z (X z) (.iload_n 2, 1, 2, 0, 0, [], 0, 0) 127 35 := X_at (r := mi127) rfl rfl
theorem x127_36 {z : P0} : X z 127 36 = XI mT z (X z) (.invokevirtual 110, 3, 1, 126, 0, [121], 0, 0) 127 36 := X_at (r := mi127) rfl rfl
theorem x127_39 {z : P0} : X z 127 39 = XI mT z (X z) (.return_, 1, 0, 0, 0, [], 0, 0) 127 39 := X_at (r := mi127) rfl rfl
theorem x128_0 {z : P0} : X z 128 0 = XI mT z (X z) (.iload_n 1, 1, 1, 0, 0, [], 0, 0) 128 0 := X_at (r := mi128) rfl rfl
theorem x128_1 {z : P0} : X z 128 1 = XI mT z (X z) (.aload_n 0, 1, 0, 0, 0, [], 0, 0) 128 1 := X_at (r := mi128) rfl rfl
theorem x128_2 {z : P0} : X z 128 2 = XI mT z (X z) (.getfield 7, 3, 11, 0, 3, [134], 0, 0) 128 2 := X_at (r := mi128) rfl rfl
theorem x128_5 {z : P0} : X z 128 5 = XI mT z (X z) (.iconst 1, 1, 0, 0, 0, [], nI 1, 0) 128 5 := X_at (r := mi128) rfl rfl
theorem x128_6 {z : P0} : X z 128 6 = XI mT z (X z) (.iaload, 1, 0, 0, 0, [], 0, 0) 128 6 := X_at (r := mi128) rfl rfl
theorem x128_7 {z : P0} : X z 128 7 = XI mT z (X z) (.iadd, 1, 0, 0, 0, [], 0, 0) 128 7 := X_at (r := mi128) rfl rfl
theorem x128_8 {z : P0} : X z 128 8 = XI mT z (X z) (.iconst 1, 1, 0, 0, 0, [], nI 1, 0) 128 8 := X_at (r := mi128) rfl rfl
theorem x128_9 {z : P0} : X z 128 9 = XI mT z (X z) (.isub, 1, 0, 0, 0, [], 0, 0) 128 9 := X_at (r := mi128) rfl rfl
theorem x128_10 {z : P0} : X z 128 10 = XI mT z (X z) (.aload_n 0, 1, 0, 0, 0, [], 0, 0) 128 10 := X_at (r := mi128) rfl rfl
theorem x128_11 {z : P0} : X z 128 11 = XI mT z (X z) (.getfield 7, 3, 11, 0, 3, [134], 0, 0) 128 11 := X_at (r := mi128) rfl rfl
theorem x128_14 {z : P0} : X z 128 14 = XI mT z (X z) (.iconst 1, 1, 0, 0, 0, [], nI 1, 0) 128 14 := X_at (r := mi128) rfl rfl
theorem x128_15 {z : P0} : X z 128 15 = XI mT z (X z) (.iaload, 1, 0, 0, 0, [], 0, 0) 128 15 := X_at (r := mi128) rfl rfl
theorem x128_16 {z : P0} : X z 128 16 = XI mT z (X z) (.idiv, 1, 0, 0, 0, [], 0, 0) 128 16 := X_at (r := mi128) rfl rfl
theorem x128_17 {z : P0} : X z 128 17 = XI mT z (X z) (.ireturn, 1, 0, 0, 0, [], 0, 0) 128 17 := X_at (r := mi128) rfl rfl
theorem x129_0 {z : P0} : X z 129 0 = XI mT z (X z) (.iconst 0, 1, 0, 0, 0, [], nI 0, 0) 129 0 := X_at (r := mi129) rfl rfl
theorem x129_1 {z : P0} : X z 129 1 = XI mT z (X z) (.istore_n 2, 1, 2, 0, 0, [], 0, 0) 129 1 := X_at (r := mi129) rfl rfl
theorem x129_2 {z : P0} : X z 129 2 = XI mT z (X z) (.iconst 0, 1, 0, 0, 0, [], nI 0, 0) 129 2 := X_at (r := mi129) rfl rfl
theorem x129_3 {z : P0} : X z 129 3 = XI mT z (X z) (.istore_n 3, 1, 3, 0, 0, [], 0, 0) 129 3 := X_at (r := mi129) rfl rfl
theorem x129_4 {z : P0} : X z 129 4 = XI mT z (X z) (.aload_n 0, 1, 0, 0, 0, [], 0, 0) 129 4 := X_at (r := mi129) rfl rfl
theorem x129_5 {z : P0} : X z 129 5 = XI mT z (X z) (.iconst 0, 1, 0, 0, 0, [], nI 0, 0) 129 5 := X_at (r := mi129) rfl rfl
theorem x129_6 {z : P0} : X z 129 6 = XI mT z (X z) (.putfield 97, 3, 11, 17, 0, [148], 0, 0) 129 6 := X_at (r := mi129) rfl rfl
theorem x129_9 {z : P0} : X z 129 9 = XI mT z (X z) (.aload_n 0, 1, 0, 0, 0, [], 0, 0) 129 9 := X_at (r := mi129) rfl rfl
theorem x129_10 {z : P0} : X z 129 10 = XI mT z (X z) (.getfield 31, 3, 11, 10, 3, [141], 0, 0) 129 10 := X_at (r := mi129) rfl rfl
theorem x129_13 {z : P0} : X z 129 13 = XI mT z (X z) (.iload_n 1, 1, 1, 0, 0, [], 0, 0) 129 13 := X_at (r := mi129) rfl rfl
theorem x129_14 {z : P0} : X z 129 14 = XI mT z (X z) (.iconst 0, 1, 0, 0, 0, [], nI 0, 0) 129 14 := X_at (r := mi129) rfl rfl
theorem x129_15 {z : P0} : X z 129 15 = XI mT z (X z) (.iastore, 1, 0, 0, 0, [], 0, 0) 129 15 := X_at (r := mi129) rfl rfl
theorem x129_16 {z : P0} : X z 129 16 = XI mT z (X z) (.aload_n 0, 1, 0, 0, 0, [], 0, 0) 129 16 := X_at (r := mi129) rfl rfl
theorem x129_17 {z : P0} : X z 129 17 = XI mT z (X z) (.invokevirtual 107, 3, 0, 125, 0, [120], 0, 0) 129 17 := X_at (r := mi129) rfl rfl
theorem x129_20 {z : P0} : X z 129 20 = XI mT z (X z) (.iconst 0, 1, 0, 0, 0, [], nI 0, 0) 129 20 := X_at (r := mi129) rfl rfl
theorem x129_21 {z : P0} : X z 129 21 = XI mT z (X z) (.istore 4, 2, 4, 0, 0, [], 0, 0) 129 21 := X_at (r := mi129) rfl rfl
theorem x129_23 {z : P0} : X z 129 23 = XI mT z (X z) (.iload 4, 2, 4, 0, 0, [], 0, 0) 129 23 := X_at (r := mi129) rfl rfl
theorem x129_25 {z : P0} : X z 129 25 = XI mT z (X z) (.aload_n 0, 1, 0, 0, 0, [], 0, 0) 129 25 := X_at (r := mi129) rfl rfl
theorem x129_26 {z : P0} : X z 129 26 = XI mT z (X z) (.getfield 68, 3, 11, 14, 0, [147], 0, 0) 129 26 := X_at (r := mi129) rfl rfl
theorem x129_29 {z : P0} : X z 129 29 = XI mT z (X z) (.if_icmp .ge 120, 3, 149, 0, 0, [], 0, 0) 129 29 := X_at (r := mi129) rfl rfl
theorem x129_32 {z : P0} : X z 129 32 = XI mT z (X z) (.aload_n 0, 1, 0, 0, 0, [], 0, 0) 129 32 := X_at (r := mi129) rfl rfl
theorem x129_33 {z : P0} : X z 129 33 = XI mT z (X z) (.getfield 37, 3, 11, 13, 3, [143], 0, 0) 129 33 := X_at (r := mi129) rfl rfl
theorem x129_36 {z : P0} : X z 129 36 = XI mT z (X z) (.iload 4, 2, 4, 0, 0, [], 0, 0) 129 36 := X_at (r := mi129) rfl rfl
theorem x129_38 {z : P0} : X z 129 38 = XI mT z (X z) (.iaload, 1, 0, 0, 0, [], 0, 0) 129 38 := X_at (r := mi129) rfl rfl
theorem x129_39 {z : P0} : X z 129 39 = XI mT z (X z) (.istore 5, 2, 5, 0, 0, [], 0, 0) 129 39 := X_at (r := mi129) rfl rfl
theorem x129_41 {z : P0} : X z 129 41 = XI mT z (X z) (.iload 5, 2, 5, 0, 0, [], 0, 0) 129 41 := X_at (r := mi129) rfl rfl
theorem x129_43 {z : P0} : X z 129 43 = XI mT z (X z) (.bipush 95, 2, 0, 0, 0, [], nI 95, 0) 129 43 := X_at (r := mi129) rfl rfl
theorem x129_45 {z : P0} : X z 129 45 = XI mT z (X z) (.if_icmp .eq 17, 3, 62, 0, 0, [], 0, 0) 129 45 := X_at (r := mi129) rfl rfl
theorem x129_48 {z : P0} : X z 129 48 = XI mT z (X z) (.iload 5, 2, 5, 0, 0, [], 0, 0) 129 48 := X_at (r := mi129) rfl rfl
theorem x129_50 {z : P0} : X z 129 50 = XI mT z (X z) (.bipush 47, 2, 0, 0, 0, [], nI 47, 0) 129 50 := X_at (r := mi129) rfl rfl
theorem x129_52 {z : P0} : X z 129 52 = XI mT z (X z) (.if_icmp .eq 10, 3, 62, 0, 0, [], 0, 0) 129 52 := X_at (r := mi129) rfl rfl
theorem x129_55 {z : P0} : X z 129 55 = XI mT z (X z) (.iload 5, 2, 5, 0, 0, [], 0, 0) 129 55 := X_at (r := mi129) rfl rfl
theorem x129_57 {z : P0} : X z 129 57 = XI mT z (X z) (.bipush 124, 2, 0, 0, 0, [], nI 124, 0) 129 57 := X_at (r := mi129) rfl rfl
theorem x129_59 {z : P0} : X z 129 59 = XI mT z (X z) (.if_icmp .ne 7, 3, 66, 0, 0, [], 0, 0) 129 59 := X_at (r := mi129) rfl rfl
theorem x129_62 {z : P0} : X z 129 62 = XI mT z (X z) (.iconst 1, 1, 0, 0, 0, [], nI 1, 0) 129 62 := X_at (r := mi129) rfl rfl
theorem x129_63 {z : P0} : X z 129 63 = XI mT z (X z) (.goto 4, 3, 67, 0, 0, [], 0, 0) 129 63 := X_at (r := mi129) rfl rfl
theorem x129_66 {z : P0} : X z 129 66 = XI mT z (X z) (.iconst 0, 1, 0, 0, 0, [], nI 0, 0) 129 66 := X_at (r := mi129) rfl rfl
theorem x129_67 {z : P0} : X z 129 67 = XI mT z (X z) (.istore 6, 2, 6, 0, 0, [], 0, 0) 129 67 := X_at (r := mi129) rfl rfl
theorem x129_69 {z : P0} : X z 129 69 = XI mT z (X z) (.iload_n 2, 1, 2, 0, 0, [], 0, 0) 129 69 := X_at (r := mi129) rfl rfl
theorem x129_70 {z : P0} : X z 129 70 = XI mT z (X z) (.iload 6, 2, 6, 0, 0, [], 0, 0) 129 70 := X_at (r := mi129) rfl rfl
theorem x129_72 {z : P0} : X z 129 72 = XI mT z (X z) (.ifCond .eq 7, 3, 79, 0, 0, [], 0, 0) 129 72 := X_at (r := mi129) rfl rfl
theorem x129_75 {z : P0} : X z 129 75 = XI mT z (X z) (.iconst 0, 1, 0, 0, 0, [], nI 0, 0) 129 75 := X_at (r := mi129) rfl rfl
theorem x129_76 {z : P0} : X z 129 76 = XI mT z (X z) (.goto 4, 3, 80, 0, 0, [], 0, 0) 129 76 := X_at (r := mi129) rfl rfl
theorem x129_79 {z : P0} : X z 129 79 = XI mT z (X z) (.iconst 1, 1, 0, 0, 0, [], nI 1, 0) 129 79 := X_at (r := mi129) rfl rfl
theorem x129_80 {z : P0} : X z 129 80 = XI mT z (X z) (.iadd, 1, 0, 0, 0, [], 0, 0) 129 80 := X_at (r := mi129) rfl rfl
theorem x129_81 {z : P0} : X z 129 81 = XI mT z (X z) (.istore_n 2, 1, 2, 0, 0, [], 0, 0) 129 81 := X_at (r := mi129) rfl rfl
theorem x129_82 {z : P0} : X z 129 82 = XI mT z (X z) (.iload 6, 2, 6, 0, 0, [], 0, 0) 129 82 := X_at (r := mi129) rfl rfl
theorem x129_84 {z : P0} : X z 129 84 = XI mT z (X z) (.ifCond .eq 10, 3, 94, 0, 0, [], 0, 0) 129 84 := X_at (r := mi129) rfl rfl
theorem x129_87 {z : P0} : X z 129 87 = XI mT z (X z) (.aload_n 0, 1, 0, 0, 0, [], 0, 0) 129 87 := X_at (r := mi129) rfl rfl
theorem x129_88 {z : P0} : X z 129 88 = XI mT z (X z) (.iload_n 2, 1, 2, 0, 0, [], 0, 0) 129 88 := X_at (r := mi129) rfl rfl
theorem x129_89 {z : P0} : X z 129 89 = XI mT z (X z) (.invokevirtual 113, 3, 1, 127, 0, [122], 0, 0) 129 89 := X_at (r := mi129) rfl rfl
theorem x129_92 {z : P0} : X z 129 92 = XI mT z (X z) (.iconst 0, 1, 0, 0, 0, [], nI 0, 0) 129 92 := X_at (r := mi129) rfl rfl
theorem x129_93 {z : P0} : X z 129 93 = XI mT z (X z) (.istore_n 2, 1, 2, 0, 0, [], 0, 0) 129 93 := X_at (r := mi129) rfl rfl
theorem x129_94 {z : P0} : X z 129 94 = XI mT z (X z) (.iload 5, 2, 5, 0, 0, [], 0, 0) 129 94 := X_at (r := mi129) rfl rfl
theorem x129_96 {z : P0} : X z 129 96 = XI mT z (X z) (.bipush 124, 2, 0, 0, 0, [], nI 124, 0) 129 96 := X_at (r := mi129) rfl rfl
theorem x129_98 {z : P0} : X z 129 98 = XI mT z (X z) (.if_icmp .ne 27, 3, 125, 0, 0, [], 0, 0) 129 98 := X_at (r := mi129) rfl rfl
theorem x129_101 {z : P0} : X z 129 101 = XI mT z (X z) (.aload_n 0, 1, 0, 0, 0, [], 0, 0) 129 101 := X_at (r := mi129) rfl rfl
theorem x129_102 {z : P0} : X z 129 102 = XI mT z (X z) (.getfield 31, 3, 11, 10, 3, [141], 0, 0) 129 102 := X_at (r := mi129) rfl rfl
theorem x129_105 {z : P0} : X z 129 105 = XI mT z (X z) (.iload_n 1, 1, 1, 0, 0, [], 0, 0) 129 105 := X_at (r := mi129) rfl rfl
theorem x129_106 {z : P0} : X z 129 106 = XI mT z (X z) (.dup2, 1, 0, 0, 0, [], 0, 0) 129 106 := X_at (r := mi129) rfl rfl
theorem x129_107 {z : P0} : X z 129 107 = XI mT z (X z) (.iaload, 1, 0, 0, 0, [], 0, 0) 129 107 := X_at (r := mi129) rfl rfl
theorem x129_108 {z : P0} : X z 129 108 = XI mT z (X z) (.aload_n 0, 1, 0, 0, 0, [], 0, 0) 129 108 := X_at (r := mi129) rfl rfl
theorem x129_109 {z : P0} : X z 129 109 = XI mT z (X z) (.aload_n 0, 1, 0, 0, 0, [], 0, 0) 129 109 := X_at (r := mi129) rfl rfl
theorem x129_110 {z : P0} : X z 129 110 = XI mT z (X z) (.getfield 97, 3, 11, 17, 0, [148], 0, 0) 129 110 := X_at (r := mi129) rfl rfl
theorem x129_113 {z : P0} : X z 129 113 = XI mT z (X z) (.iload_n 3, 1, 3, 0, 0, [], 0, 0) 129 113 := X_at (r := mi129) rfl rfl
theorem x129_114 {z : P0} : X z 129 114 = XI mT z (X z) (.isub, 1, 0, 0, 0, [], 0, 0) 129 114 := X_at (r := mi129) rfl rfl
theorem x129_115 {z : P0} : X z 129 115 = XI mT z (X z) (.invokevirtual 116, 3, 1, 128, 0, [123], 0, 0) 129 115 := X_at (r := mi129) rfl rfl
theorem x129_118 {z : P0} : X z 129 118 = XI mT z (X z) (.iadd, 1, 0, 0, 0, [], 0, 0) 129 118 := X_at (r := mi129) rfl rfl
theorem x129_119 {z : P0} : X z 129 119 = XI mT z (X z) (.iastore, 1, 0, 0, 0, [], 0, 0) 129 119 := X_at (r := mi129) rfl rfl
theorem x129_120 {z : P0} : X z 129 120 = XI mT z (X z) (.aload_n 0, 1, 0, 0, 0, [], 0, 0) 129 120 := X_at (r := mi129) rfl rfl
theorem x129_121 {z : P0} : X z 129 121 = XI mT z (X z) (.getfield 97, 3, 11, 17, 0, [148], 0, 0) 129 121 := X_at (r := mi129) rfl rfl
theorem x129_124 {z : P0} : X z 129 124 = XI mT z (X z) (.istore_n 3, 1, 3, 0, 0, [], 0, 0) 129 124 := X_at (r := mi129) rfl rfl
theorem x129_125 {z : P0} : X z 129 125 = XI mT z (X z) (.iload 5, 2, 5, 0, 0, [], 0, 0) 129 125 := X_at (r := mi129) rfl rfl
theorem x129_127 {z : P0} : X z 129 127 = XI mT z (X z) (.bipush 47, 2, 0, 0, 0, [], nI 47, 0) 129 127 := X_at (r := mi129) rfl rfl
theorem x129_129 {z : P0} : X z 129 129 = XI mT z (X z) (.if_icmp .eq 10, 3, 139, 0, 0, [], 0, 0) 129 129 := X_at (r := mi129) rfl rfl
theorem x129_132 {z : P0} : X z 129 132 = XI mT z (X z) (.iload 5, 2, 5, 0, 0, [], 0, 0) 129 132 := X_at (r := mi129) rfl rfl
theorem x129_134 {z : P0} : X z 129 134 = XI mT z (X z) (.bipush 124, 2, 0, 0, 0, [], nI 124, 0) 129 134 := X_at (r := mi129) rfl rfl
theorem x129_136 {z : P0} : X z 129 136 = XI mT z (X z) (.if_icmp .ne 7, 3, 143, 0, 0, [], 0, 0) 129 136 := X_at (r := mi129) rfl rfl
theorem x129_139 {z : P0} : X z 129 139 = XI mT z (X z) (.aload_n 0, 1, 0, 0, 0, [], 0, 0) 129 139 := X_at (r := mi129) rfl rfl
theorem x129_140 {z : P0} : X z 129 140 = XI mT z (X z) (.invokevirtual 107, 3, 0, 125, 0, [120], 0, 0) 129 140 := X_at (r := mi129) rfl rfl
theorem x129_143 {z : P0} : X z 129 143 = XI mT z (X z) (.iinc 4 1, 3, 4, 0, 0, [], nI 1, 0) 129 143 := X_at (r := mi129) rfl rfl
theorem x129_146 {z : P0} : X z 129 146 = XI mT z (X z) (.goto (-123), 3, 23, 0, 0, [], 0, 0) 129 146 := X_at (r := mi129) rfl rfl
theorem x129_149 {z : P0} : X z 129 149 = XI mT z (X z) (.aload_n 0, 1, 0, 0, 0, [], 0, 0) 129 149 := X_at (r := mi129) rfl rfl
theorem x129_150 {z : P0} : X z 129 150 = XI mT z (X z) (.iload_n 2, 1, 2, 0, 0, [], 0, 0) 129 150 := X_at (r := mi129) rfl rfl
theorem x129_151 {z : P0} : X z 129 151 = XI mT z (X z) (.invokevirtual 113, 3, 1, 127, 0, [122], 0, 0) 129 151 := X_at (r := mi129) rfl rfl
theorem x129_154 {z : P0} : X z 129 154 = XI mT z (X z) (.aload_n 0, 1, 0, 0, 0, [], 0, 0) 129 154 := X_at (r := mi129) rfl rfl
theorem x129_155 {z : P0} : X z 129 155 = XI mT z (X z) (.getfield 31, 3, 11, 10, 3, [141], 0, 0) 129 155 := X_at (r := mi129) rfl rfl
theorem x129_158 {z : P0} : X z 129 158 = XI mT z (X z) (.iload_n 1, 1, 1, 0, 0, [], 0, 0) 129 158 := X_at (r := mi129) rfl rfl
theorem x129_159 {z : P0} : X z 129 159 = XI mT z (X z) (.dup2, 1, 0, 0, 0, [], 0, 0) 129 159 := X_at (r := mi129) rfl rfl
theorem x129_160 {z : P0} : X z 129 160 = XI mT z (X z) (.iaload, 1, 0, 0, 0, [], 0, 0) 129 160 := X_at (r := mi129) rfl rfl
theorem x129_161 {z : P0} : X z 129 161 = XI mT z (X z) (.aload_n 0, 1, 0, 0, 0, [], 0, 0) 129 161 := X_at (r := mi129) rfl rfl
theorem x129_162 {z : P0} : X z 129 162 = XI mT z (X z) (.aload_n 0, 1, 0, 0, 0, [], 0, 0) 129 162 := X_at (r := mi129) rfl rfl
theorem x129_163 {z : P0} : X z 129 163 = XI mT z (X z) (.getfield 97, 3, 11, 17, 0, [148], 0, 0) 129 163 := X_at (r := mi129) rfl rfl
theorem x129_166 {z : P0} : X z 129 166 = XI mT z (X z) (.iload_n 3, 1, 3, 0, 0, [], 0, 0) 129 166 := X_at (r := mi129) rfl rfl
theorem x129_167 {z : P0} : X z 129 167 = XI mT z (X z) (.isub, 1, 0, 0, 0, [], 0, 0) 129 167 := X_at (r := mi129) rfl rfl
theorem x129_168 {z : P0} : X z 129 168 = XI mT z (X z) (.invokevirtual 116, 3, 1, 128, 0, [123], 0, 0) 129 168 := X_at (r := mi129) rfl rfl
theorem x129_171 {z : P0} : X z 129 171 = XI mT z (X z) (.iadd, 1, 0, 0, 0, [], 0, 0) 129 171 := X_at (r := mi129) rfl rfl
theorem x129_172 {z : P0} : X z 129 172 = XI mT z (X z) (.iastore, 1, 0, 0, 0, [], 0, 0) 129 172 := X_at (r := mi129) rfl rfl
theorem x129_173 {z : P0} : X z 129 173 = XI mT z (X z) (.aload_n 0, 1, 0, 0, 0, [], 0, 0) 129 173 := X_at (r := mi129) rfl rfl
theorem x129_174 {z : P0} : X z 129 174 = XI mT z (X z) (.getfield 28, 3, 11, 9, 3, [140], 0, 0) 129 174 := X_at (r := mi129) rfl rfl
theorem x129_177 {z : P0} : X z 129 177 = XI mT z (X z) (.iload_n 1, 1, 1, 0, 0, [], 0, 0) 129 177 := X_at (r := mi129) rfl rfl
theorem x129_178 {z : P0} : X z 129 178 = XI mT z (X z) (.aload_n 0, 1, 0, 0, 0, [], 0, 0) 129 178 := X_at (r := mi129) rfl rfl
theorem x129_179 {z : P0} : X z 129 179 = XI mT z (X z) (.getfield 97, 3, 11, 17, 0, [148], 0, 0) 129 179 := X_at (r := mi129) rfl rfl
theorem x129_182 {z : P0} : X z 129 182 = XI mT z (X z) (.iastore, 1, 0, 0, 0, [], 0, 0) 129 182 := X_at (r := mi129) rfl rfl
theorem x129_183 {z : P0} : X z 129 183 = XI mT z (X z) (.aload_n 0, 1, 0, 0, 0, [], 0, 0) 129 183 := X_at (r := mi129) rfl rfl
theorem x129_184 {z : P0} : X z 129 184 = XI mT z (X z) (.getfield 25, 3, 11, 8, 3, [139], 0, 0) 129 184 := X_at (r := mi129) rfl rfl
theorem x129_187 {z : P0} : X z 129 187 = XI mT z (X z) (.iload_n 1, 1, 1, 0, 0, [], 0, 0) 129 187 := X_at (r := mi129) rfl rfl
theorem x129_188 {z : P0} : X z 129 188 = XI mT z (X z) (.aload_n 0, 1, 0, 0, 0, [], 0, 0) 129 188 := X_at (r := mi129) rfl rfl
theorem x129_189 {z : P0} : X z 129 189 = XI mT z (X z) (.getfield 68, 3, 11, 14, 0, [147], 0, 0) 129 189 := X_at (r := mi129) rfl rfl
theorem x129_192 {z : P0} : X z 129 192 = XI mT z (X z) (.iastore, 1, 0, 0, 0, [], 0, 0) 129 192 := X_at (r := mi129) rfl rfl
theorem x129_193 {z : P0} : X z 129 193 = XI mT z (X z) (.return_, 1, 0, 0, 0, [], 0, 0) 129 193 := X_at (r := mi129) rfl rfl
theorem x130_0 {z : P0} : X z 130 0 = XI mT z (X z) (.aload_n 0, 1, 0, 0, 0, [], 0, 0) 130 0 := X_at (r := mi130) rfl rfl
theorem x130_1 {z : P0} : X z 130 1 = XI mT z (X z) (.invokevirtual 119, 3, 0, 115, 0, [124], 0, 0) 130 1 := X_at (r := mi130) rfl rfl
theorem x130_4 {z : P0} : X z 130 4 = XI mT z (X z) (.iconst 0, 1, 0, 0, 0, [], nI 0, 0) 130 4 := X_at (r := mi130) rfl rfl
theorem x130_5 {z : P0} : X z 130 5 = XI mT z (X z) (.istore_n 1, 1, 1, 0, 0, [], 0, 0) 130 5 := X_at (r := mi130) rfl rfl
theorem x130_6 {z : P0} : X z 130 6 = XI mT z (X z) (.iload_n 1, 1, 1, 0, 0, [], 0, 0) 130 6 := X_at (r := mi130) rfl rfl
theorem x130_7 {z : P0} : X z 130 7 = XI mT z (X z) (.aload_n 0, 1, 0, 0, 0, [], 0, 0) 130 7 := X_at (r := mi130) rfl rfl
theorem x130_8 {z : P0} : X z 130 8 = XI mT z (X z) (.getfield 55, 3, 11, 12, 0, [146], 0, 0) 130 8 := X_at (r := mi130) rfl rfl
theorem x130_11 {z : P0} : X z 130 11 = XI mT z (X z) (.if_icmp .ge 19, 3, 30, 0, 0, [], 0, 0) 130 11 := X_at (r := mi130) rfl rfl
theorem x130_14 {z : P0} : X z 130 14 = XI mT z (X z) (.aload_n 0, 1, 0, 0, 0, [], 0, 0) 130 14 := X_at (r := mi130) rfl rfl
theorem x130_15 {z : P0} : X z 130 15 = XI mT z (X z) (.iload_n 1, 1, 1, 0, 0, [], 0, 0) 130 15 := X_at (r := mi130) rfl rfl
theorem x130_16 {z : P0} : X z 130 16 = XI mT z (X z) (.invokevirtual 122, 3, 1, 124, 0, [125], 0, 0) 130 16 := X_at (r := mi130) rfl rfl
theorem x130_19 {z : P0} : X z 130 19 = XI mT z (X z) (.aload_n 0, 1, 0, 0, 0, [], 0, 0) 130 19 := X_at (r := mi130) rfl rfl
theorem x130_20 {z : P0} : X z 130 20 = XI mT z (X z) (.iload_n 1, 1, 1, 0, 0, [], 0, 0) 130 20 := X_at (r := mi130) rfl rfl
theorem x130_21 {z : P0} : X z 130 21 = XI mT z (X z) (.invokevirtual 125, 3, 1, 129, 0, [126], 0, 0) 130 21 := X_at (r := mi130) rfl rfl
theorem x130_24 {z : P0} : X z 130 24 = XI mT z (X z) (.iinc 1 1, 3, 1, 0, 0, [], nI 1, 0) 130 24 := X_at (r := mi130) rfl rfl
theorem x130_27 {z : P0} : X z 130 27 = XI mT z (X z) (.goto (-21), 3, 6, 0, 0, [], 0, 0) 130 27 := X_at (r := mi130) rfl rfl
theorem x130_30 {z : P0} : X z 130 30 = XI mT z (X z) (.return_, 1, 0, 0, 0, [], 0, 0) 130 30 := X_at (r := mi130) rfl rfl
theorem x131_0 {z : P0} : X z 131 0 = XI mT z (X z) (.aload_n 0, 1, 0, 0, 0, [], 0, 0) 131 0 := X_at (r := mi131) rfl rfl
theorem x131_1 {z : P0} : X z 131 1 = XI mT z (X z) (.getfield 31, 3, 11, 10, 3, [141], 0, 0) 131 1 := X_at (r := mi131) rfl rfl
theorem x131_4 {z : P0} : X z 131 4 = XI mT z (X z) (.iload_n 1, 1, 1, 0, 0, [], 0, 0) 131 4 := X_at (r := mi131) rfl rfl
theorem x131_5 {z : P0} : X z 131 5 = XI mT z (X z) (.iaload, 1, 0, 0, 0, [], 0, 0) 131 5 := X_at (r := mi131) rfl rfl
theorem x131_6 {z : P0} : X z 131 6 = XI mT z (X z) (.aload_n 0, 1, 0, 0, 0, [], 0, 0) 131 6 := X_at (r := mi131) rfl rfl
theorem x131_7 {z : P0} : X z 131 7 = XI mT z (X z) (.getfield 7, 3, 11, 0, 3, [134], 0, 0) 131 7 := X_at (r := mi131) rfl rfl
theorem x131_10 {z : P0} : X z 131 10 = XI mT z (X z) (.iconst 4, 1, 0, 0, 0, [], nI 4, 0) 131 10 := X_at (r := mi131) rfl rfl
theorem x131_11 {z : P0} : X z 131 11 = XI mT z (X z) (.iaload, 1, 0, 0, 0, [], 0, 0) 131 11 := X_at (r := mi131) rfl rfl
theorem x131_12 {z : P0} : X z 131 12 = XI mT z (X z) (.if_icmp .gt 7, 3, 19, 0, 0, [], 0, 0) 131 12 := X_at (r := mi131) rfl rfl
theorem x131_15 {z : P0} : X z 131 15 = XI mT z (X z) (.iconst 1, 1, 0, 0, 0, [], nI 1, 0) 131 15 := X_at (r := mi131) rfl rfl
theorem x131_16 {z : P0} : X z 131 16 = XI mT z (X z) (.goto 4, 3, 20, 0, 0, [], 0, 0) 131 16 := X_at (r := mi131) rfl rfl
theorem x131_19 {z : P0} : X z 131 19 = XI mT z (X z) (.iconst 0, 1, 0, 0, 0, [], nI 0, 0) 131 19 := X_at (r := mi131) rfl rfl
theorem x131_20 {z : P0} : X z 131 20 = XI mT z (X z) (.ireturn, 1, 0, 0, 0, [], 0, 0) 131 20 := X_at (r := mi131) rfl rfl
theorem x132_0 {z : P0} : X z 132 0 = XI mT z (X z) (.iconst 0, 1, 0, 0, 0, [], nI 0, 0) 132 0 := X_at (r := mi132) rfl rfl
theorem x132_1 {z : P0} : X z 132 1 = XI mT z (X z) (.istore_n 2, 1, 2, 0, 0, [], 0, 0) 132 1 := X_at (r := mi132) rfl rfl
theorem x132_2 {z : P0} : X z 132 2 = XI mT z (X z) (.iconst 0, 1, 0, 0, 0, [], nI 0, 0) 132 2 := X_at (r := mi132) rfl rfl
theorem x132_3 {z : P0} : X z 132 3 = XI mT z (X z) (.istore_n 3, 1, 3, 0, 0, [], 0, 0) 132 3 := X_at (r := mi132) rfl rfl
theorem x132_4 {z : P0} : X z 132 4 = XI mT z (X z) (.iload_n 3, 1, 3, 0, 0, [], 0, 0) 132 4 := X_at (r := mi132) rfl rfl
theorem x132_5 {z : P0} : X z 132 5 = XI mT z (X z) (.aload_n 0, 1, 0, 0, 0, [], 0, 0) 132 5 := X_at (r := mi132) rfl rfl
theorem x132_6 {z : P0} : X z 132 6 = XI mT z (X z) (.getfield 55, 3, 11, 12, 0, [146], 0, 0) 132 6 := X_at (r := mi132) rfl rfl
theorem x132_9 {z : P0} : X z 132 9 = XI mT z (X z) (.if_icmp .ge 77, 3, 86, 0, 0, [], 0, 0) 132 9 := X_at (r := mi132) rfl rfl
theorem x132_12 {z : P0} : X z 132 12 = XI mT z (X z) (.iload_n 1, 1, 1, 0, 0, [], 0, 0) 132 12 := X_at (r := mi132) rfl rfl
theorem x132_13 {z : P0} : X z 132 13 = XI mT z (X z) (.ifCond .ne 7, 3, 20, 0, 0, [], 0, 0) 132 13 := X_at (r := mi132) rfl rfl
theorem x132_16 {z : P0} : X z 132 16 = XI mT z (X z) (.iconst 1, 1, 0, 0, 0, [], nI 1, 0) 132 16 := X_at (r := mi132) rfl rfl
theorem x132_17 {z : P0} : X z 132 17 = XI mT z (X z) (.goto 44, 3, 61, 0, 0, [], 0, 0) 132 17 := X_at (r := mi132) rfl rfl
theorem x132_20 {z : P0} : X z 132 20 = XI mT z (X z) (.iload_n 1, 1, 1, 0, 0, [], 0, 0) 132 20 := X_at (r := mi132) rfl rfl
theorem x132_21 {z : P0} : X z 132 21 = XI mT z (X z) (.iconst 1, 1, 0, 0, 0, [], nI 1, 0) 132 21 := X_at (r := mi132) rfl rfl
theorem x132_22 {z : P0} : X z 132 22 = XI mT z (X z) (.if_icmp .ne 12, 3, 34, 0, 0, [], 0, 0) 132 22 := X_at (r := mi132) rfl rfl
theorem x132_25 {z : P0} : X z 132 25 = XI mT z (X z) (.aload_n 0, 1, 0, 0, 0, [], 0, 0) 132 25 := X_at (r := mi132) rfl rfl
theorem x132_26 {z : P0} : X z 132 26 = XI mT z (X z) (.getfield 22, 3, 11, 7, 3, [138], 0, 0) 132 26 := X_at (r := mi132) rfl rfl
theorem x132_29 {z : P0} : X z 132 29 = XI mT z (X z) (.iload_n 3, 1, 3, 0, 0, [], 0, 0) 132 29 := X_at (r := mi132) rfl rfl
theorem x132_30 {z : P0} : X z 132 30 = XI mT z (X z) (.iaload, 1, 0, 0, 0, [], 0, 0) 132 30 := X_at (r := mi132) rfl rfl
theorem x132_31 {z : P0} : X z 132 31 = XI mT z (X z) (.goto 30, 3, 61, 0, 0, [], 0, 0) 132 31 := X_at (r := mi132) rfl rfl
theorem x132_34 {z : P0} : X z 132 34 = XI mT z (X z) (.iload_n 1, 1, 1, 0, 0, [], 0, 0) 132 34 := X_at (r := mi132) rfl rfl
theorem x132_35 {z : P0} : X z 132 35 = XI mT z (X z) (.iconst 2, 1, 0, 0, 0, [], nI 2, 0) 132 35 := X_at (r := mi132) rfl rfl
theorem x132_36 {z : P0} : X z 132 36 = XI mT z (X z) (.if_icmp .ne 12, 3, 48, 0, 0, [], 0, 0) 132 36 := X_at (r := mi132) rfl rfl
theorem x132_39 {z : P0} : X z 132 39 = XI mT z (X z) (.aload_n 0, 1, 0, 0, 0, [], 0, 0) 132 39 := X_at (r := mi132) rfl rfl
theorem x132_40 {z : P0} : X z 132 40 = XI mT z (X z) (.getfield 31, 3, 11, 10, 3, [141], 0, 0) 132 40 := X_at (r := mi132) rfl rfl
theorem x132_43 {z : P0} : X z 132 43 = XI mT z (X z) (.iload_n 3, 1, 3, 0, 0, [], 0, 0) 132 43 := X_at (r := mi132) rfl rfl
theorem x132_44 {z : P0} : X z 132 44 = XI mT z (X z) (.iaload, 1, 0, 0, 0, [], 0, 0) 132 44 := X_at (r := mi132) rfl rfl
theorem x132_45 {z : P0} : X z 132 45 = XI mT z (X z) (.goto 16, 3, 61, 0, 0, [], 0, 0) 132 45 := X_at (r := mi132) rfl rfl
theorem x132_48 {z : P0} : X z 132 48 = XI mT z (X z) (.aload_n 0, 1, 0, 0, 0, [], 0, 0) 132 48 := X_at (r := mi132) rfl rfl
theorem x132_49 {z : P0} : X z 132 49 = XI mT z (X z) (.getfield 31, 3, 11, 10, 3, [141], 0, 0) 132 49 := X_at (r := mi132) rfl rfl
theorem x132_52 {z : P0} : X z 132 52 = XI mT z (X z) (.iload_n 3, 1, 3, 0, 0, [], 0, 0) 132 52 := X_at (r := mi132) rfl rfl
theorem x132_53 {z : P0} : X z 132 53 = XI mT z (X z) (.iaload, 1, 0, 0, 0, [], 0, 0) 132 53 := X_at (r := mi132) rfl rfl
theorem x132_54 {z : P0} : X z 132 54 = XI mT z (X z) (.aload_n 0, 1, 0, 0, 0, [], 0, 0) 132 54 := X_at (r := mi132) rfl rfl
theorem x132_55 {z : P0} : X z 132 55 = XI mT z (X z) (.getfield 7, 3, 11, 0, 3, [134], 0, 0) 132 55 := X_at (r := mi132) rfl rfl
theorem x132_58 {z : P0} : X z 132 58 = XI mT z (X z) (.iconst 5, 1, 0, 0, 0, [], nI 5, 0) 132 58 := X_at (r := mi132) rfl rfl
theorem x132_59 {z : P0} : X z 132 59 = XI mT z (X z) (.iaload, 1, 0, 0, 0, [], 0, 0) 132 59 := X_at (r := mi132) rfl rfl
theorem x132_60 {z : P0} : X z 132 60 = XI mT z (X z) (.imul, 1, 0, 0, 0, [], 0, 0) 132 60 := X_at (r := mi132) rfl rfl
theorem x132_61 {z : P0} : X z 132 61 = XI mT z (X z) (.istore 4, 2, 4, 0, 0, [], 0, 0) 132 61 := X_at (r := mi132) rfl rfl
theorem x132_63 {z : P0} : X z 132 63 = XI mT z (X z) (.iload_n 2, 1, 2, 0, 0, [], 0, 0) 132 63 := X_at (r := mi132) rfl rfl
theorem x132_64 {z : P0} : X z 132 64 = XI mT z (X z) (.aload_n 0, 1, 0, 0, 0, [], 0, 0) 132 64 := X_at (r := mi132) rfl rfl
theorem x132_65 {z : P0} : X z 132 65 = XI mT z (X z) (.iload_n 3, 1, 3, 0, 0, [], 0, 0) 132 65 := X_at (r := mi132) rfl rfl
theorem x132_66 {z : P0} : X z 132 66 = XI mT z (X z) (.invokevirtual 128, 3, 1, 131, 0, [127], 0, 0) 132 66 := X_at (r := mi132) rfl rfl
theorem x132_69 {z : P0} : X z 132 69 = XI mT z (X z) (.ifCond .eq 8, 3, 77, 0, 0, [], 0, 0) 132 69 := X_at (r := mi132) rfl rfl
theorem x132_72 {z : P0} : X z 132 72 = XI mT z (X z) (.iload 4, 2, 4, 0, 0, [], 0, 0) 132 72 := X_at (r := mi132) rfl rfl
theorem x132_74 {z : P0} : X z 132 74 = XI mT z (X z) (.goto 4, 3, 78, 0, 0, [], 0, 0) 132 74 := X_at (r := mi132) rfl rfl
theorem x132_77 {z : P0} : X z 132 77 = XI mT z (X z) (.iconst 0, 1, 0, 0, 0, [], nI 0, 0) 132 77 := X_at (r := mi132) rfl rfl
theorem x132_78 {z : P0} : X z 132 78 = XI mT z (X z) (.iadd, 1, 0, 0, 0, [], 0, 0) 132 78 := X_at (r := mi132) rfl rfl
theorem x132_79 {z : P0} : X z 132 79 = XI mT z (X z) (.istore_n 2, 1, 2, 0, 0, [], 0, 0) 132 79 := X_at (r := mi132) rfl rfl
theorem x132_80 {z : P0} : X z 132 80 = XI mT z (X z) (.iinc 3 1, 3, 3, 0, 0, [], nI 1, 0) 132 80 := X_at (r := mi132) rfl rfl
theorem x132_83 {z : P0} : X z 132 83 = XI mT z (X z) (.goto (-79), 3, 4, 0, 0, [], 0, 0) 132 83 := X_at (r := mi132) rfl rfl
theorem x132_86 {z : P0} : X z 132 86 = XI mT z (X z) (.iload_n 2, 1, 2, 0, 0, [], 0, 0) 132 86 := X_at (r := mi132) rfl rfl
theorem x132_87 {z : P0} : X z 132 87 = XI mT z (X z) (.ireturn, 1, 0, 0, 0, [], 0, 0) 132 87 := X_at (r := mi132) rfl rfl
theorem x133_0 {z : P0} : X z 133 0 = XI mT z (X z) (.iload_n 1, 1, 1, 0, 0, [], 0, 0) 133 0 := X_at (r := mi133) rfl rfl
theorem x133_1 {z : P0} : X z 133 1 = XI mT z (X z) (.iconst 0, 1, 0, 0, 0, [], nI 0, 0) 133 1 := X_at (r := mi133) rfl rfl
theorem x133_2 {z : P0} : X z 133 2 = XI mT z (X z) (.bipush 19, 2, 0, 0, 0, [], nI 19, 0) 133 2 := X_at (r := mi133) rfl rfl
theorem x133_4 {z : P0} : X z 133 4 = XI mT z (X z) (.invokestatic 47, 3, 3, 106, 0, [107], 0, 0) 133 4 := X_at (r := mi133) rfl rfl
theorem x133_7 {z : P0} : X z 133 7 = XI mT z (X z) (.ifCond .eq 36, 3, 43, 0, 0, [], 0, 0) 133 7 := X_at (r := mi133) rfl rfl
theorem x133_10 {z : P0} : X z 133 10 = XI mT z (X z) (.iload_n 2, 1, 2, 0, 0, [], 0, 0) 133 10 := X_at (r := mi133) rfl rfl
theorem x133_11 {z : P0} : X z 133 11 = XI mT z (X z) (.iconst 0, 1, 0, 0, 0, [], nI 0, 0) 133 11 := X_at (r := mi133) rfl rfl
theorem x133_12 {z : P0} : X z 133 12 = XI mT z (X z) (.iconst 2, 1, 0, 0, 0, [], nI 2, 0) 133 12 := X_at (r := mi133) rfl rfl
theorem x133_13 {z : P0} : X z 133 13 = XI mT z (X z) (.invokestatic 47, 3, 3, 106, 0, [107], 0, 0) 133 13 := X_at (r := mi133) rfl rfl
theorem x133_16 {z : P0} : X z 133 16 = XI mT z (X z) (.ifCond .eq 27, 3, 43, 0, 0, [], 0, 0) 133 16 := X_at (r := mi133) rfl rfl
theorem x133_19 {z : P0} : X z 133 19 = XI mT z (X z) (.aload_n 0, 1, 0, 0, 0, [], 0, 0) 133 19 := X_at (r := mi133) rfl rfl
theorem x133_20 {z : P0} : X z 133 20 = XI mT z (X z) (.iconst 0, 1, 0, 0, 0, [], nI 0, 0) 133 20 := X_at (r := mi133) rfl rfl
theorem x133_21 {z : P0} : X z 133 21 = XI mT z (X z) (.invokevirtual 132, 3, 1, 150, 0, [128], 0, 0) 133 21 := X_at (r := mi133) rfl rfl
theorem x133_24 {z : P0} : X z 133 24 = XI mT z (X z) (.aload_n 0, 1, 0, 0, 0, [], 0, 0) 133 24 := X_at (r := mi133) rfl rfl
theorem x133_25 {z : P0} : X z 133 25 = XI mT z (X z) (.getfield 135, 3, 11, 3, 0, [151], 0, 0) 133 25 := X_at (r := mi133) rfl rfl
theorem x133_28 {z : P0} : X z 133 28 = XI mT z (X z) (.if_icmp .ne 15, 3, 43, 0, 0, [], 0, 0) 133 28 := X_at (r := mi133) rfl rfl
theorem x133_31 {z : P0} : X z 133 31 = XI mT z (X z) (.aload_n 0, 1, 0, 0, 0, [], 0, 0) 133 31 := X_at (r := mi133) rfl rfl
theorem x133_32 {z : P0} : X z 133 32 = XI mT z (X z) (.iconst 0, 1, 0, 0, 0, [], nI 0, 0) 133 32 := X_at (r := mi133) rfl rfl
theorem x133_33 {z : P0} : X z 133 33 = XI mT z (X z) (.invokevirtual 138, 3, 1, 151, 0, [129], 0, 0) 133 33 := X_at (r := mi133) rfl rfl
theorem x133_36 {z : P0} : X z 133 36 = XI mT z (X z) (.ifCond .eq 7, 3, 43, 0, 0, [], 0, 0) 133 36 := X_at (r := mi133) rfl rfl
theorem x133_39 {z : P0} : X z 133 39 = XI mT z (X z) (.iconst 1, 1, 0, 0, 0, [], nI 1, 0) 133 39 := X_at (r := mi133) rfl rfl
theorem x133_40 {z : P0} : X z 133 40 = XI mT z (X z) (.goto 4, 3, 44, 0, 0, [], 0, 0) 133 40 := X_at (r := mi133) rfl rfl
theorem x133_43 {z : P0} : X z 133 43 = XI mT z (X z) (.iconst 0, 1, 0, 0, 0, [], nI 0, 0) 133 43 := X_at (r := mi133) rfl rfl
theorem x133_44 {z : P0} : X z 133 44 = XI mT z (X z) (.istore_n 3, 1, 3, 0, 0, [], 0, 0) 133 44 := X_at (r := mi133) rfl rfl
theorem x133_45 {z : P0} : X z 133 45 = XI mT z (X z) (.aload_n 0, 1, 0, 0, 0, [], 0, 0) 133 45 := X_at (r := mi133) rfl rfl
theorem x133_46 {z : P0} : X z 133 46 = XI mT z (X z) (.iload_n 3, 1, 3, 0, 0, [], 0, 0) 133 46 := X_at (r := mi133) rfl rfl
theorem x133_47 {z : P0} : X z 133 47 = XI mT z (X z) (.ifCond .ne 7, 3, 54, 0, 0, [], 0, 0) 133 47 := X_at (r := mi133) rfl rfl
theorem x133_50 {z : P0} : X z 133 50 = XI mT z (X z) (.iconst 1, 1, 0, 0, 0, [], nI 1, 0) 133 50 := X_at (r := mi133) rfl rfl
theorem x133_51 {z : P0} : X z 133 51 = XI mT z (X z) (.goto 20, 3, 71, 0, 0, [], 0, 0) 133 51 := X_at (r := mi133) rfl rfl
theorem x133_54 {z : P0} : X z 133 54 = XI mT z (X z) (.aload_n 0, 1, 0, 0, 0, [], 0, 0) 133 54 := X_at (r := mi133) rfl rfl
theorem x133_55 {z : P0} : X z 133 55 = XI mT z (X z) (.getfield 7, 3, 11, 0, 3, [134], 0, 0) 133 55 := X_at (r := mi133) rfl rfl
theorem x133_58 {z : P0} : X z 133 58 = XI mT z (X z) (.bipush 6, 2, 0, 0, 0, [], nI 6, 0) 133 58 := X_at (r := mi133) rfl rfl
theorem x133_60 {z : P0} : X z 133 60 = XI mT z (X z) (.iaload, 1, 0, 0, 0, [], 0, 0) 133 60 := X_at (r := mi133) rfl rfl
theorem x133_61 {z : P0} : X z 133 61 = XI mT z (X z) (.bipush 20, 2, 0, 0, 0, [], nI 20, 0) 133 61 := X_at (r := mi133) rfl rfl
theorem x133_63 {z : P0} : X z 133 63 = XI mT z (X z) (.if_icmp .ne 7, 3, 70, 0, 0, [], 0, 0) 133 63 := X_at (r := mi133) rfl rfl
theorem x133_66 {z : P0} : X z 133 66 = XI mT z (X z) (.iconst 2, 1, 0, 0, 0, [], nI 2, 0) 133 66 := X_at (r := mi133) rfl rfl
theorem x133_67 {z : P0} : X z 133 67 = XI mT z (X z) (.goto 4, 3, 71, 0, 0, [], 0, 0) 133 67 := X_at (r := mi133) rfl rfl
theorem x133_70 {z : P0} : X z 133 70 = XI mT z (X z) (.iconst 0, 1, 0, 0, 0, [], nI 0, 0) 133 70 := X_at (r := mi133) rfl rfl
theorem x133_71 {z : P0} : X z 133 71 = XI mT z (X z) (.putfield 40, 3, 11, 5, 0, [144], 0, 0) 133 71 := X_at (r := mi133) rfl rfl
theorem x133_74 {z : P0} : X z 133 74 = XI mT z (X z) (.aload_n 0, 1, 0, 0, 0, [], 0, 0) 133 74 := X_at (r := mi133) rfl rfl
theorem x133_75 {z : P0} : X z 133 75 = XI mT z (X z) (.getfield 40, 3, 11, 5, 0, [144], 0, 0) 133 75 := X_at (r := mi133) rfl rfl
theorem x133_78 {z : P0} : X z 133 78 = XI mT z (X z) (.ifCond .le 5, 3, 83, 0, 0, [], 0, 0) 133 78 := X_at (r := mi133) rfl rfl
theorem x133_81 {z : P0} : X z 133 81 = XI mT z (X z) (.iconst 0, 1, 0, 0, 0, [], nI 0, 0) 133 81 := X_at (r := mi133) rfl rfl
theorem x133_82 {z : P0} : X z 133 82 = XI mT z (X z) (.ireturn, 1, 0, 0, 0, [], 0, 0) 133 82 := X_at (r := mi133) rfl rfl
theorem x133_83 {z : P0} : X z 133 83 = XI mT z (X z) (.aload_n 0, 1, 0, 0, 0, [], 0, 0) 133 83 := X_at (r := mi133) rfl rfl
theorem x133_84 {z : P0} : X z 133 84 = XI mT z (X z) (.invokevirtual 141, 3, 0, 107, 0, [130], 0, 0) 133 84 := X_at (r := mi133) rfl rfl
theorem x133_87 {z : P0} : X z 133 87 = XI mT z (X z) (.aload_n 0, 1, 0, 0, 0, [], 0, 0) 133 87 := X_at (r := mi133) rfl rfl
theorem x133_88 {z : P0} : X z 133 88 = XI mT z (X z) (.getfield 7, 3, 11, 0, 3, [134], 0, 0) 133 88 := X_at (r := mi133) rfl rfl
theorem x133_91 {z : P0} : X z 133 91 = XI mT z (X z) (.bipush 6, 2, 0, 0, 0, [], nI 6, 0) 133 91 := X_at (r := mi133) rfl rfl
theorem x133_93 {z : P0} : X z 133 93 = XI mT z (X z) (.iaload, 1, 0, 0, 0, [], 0, 0) 133 93 := X_at (r := mi133) rfl rfl
theorem x133_94 {z : P0} : X z 133 94 = XI mT z (X z) (.istore 4, 2, 4, 0, 0, [], 0, 0) 133 94 := X_at (r := mi133) rfl rfl
theorem x133_96 {z : P0} : X z 133 96 = XI mT z (X z) (.aload_n 0, 1, 0, 0, 0, [], 0, 0) 133 96 := X_at (r := mi133) rfl rfl
theorem x133_97 {z : P0} : X z 133 97 = XI mT z (X z) (.getfield 7, 3, 11, 0, 3, [134], 0, 0) 133 97 := X_at (r := mi133) rfl rfl
theorem x133_100 {z : P0} : X z 133 100 = XI mT z (X z) (.bipush 6, 2, 0, 0, 0, [], nI 6, 0) 133 100 := X_at (r := mi133) rfl rfl
theorem x133_102 {z : P0} : X z 133 102 = XI mT z (X z) (.dup2, 1, 0, 0, 0, [], 0, 0) 133 102 := X_at (r := mi133) rfl rfl
theorem x133_103 {z : P0} : X z 133 103 = XI mT z (X z) (.iaload, 1, 0, 0, 0, [], 0, 0) 133 103 := X_at (r := mi133) rfl rfl
theorem x133_104 {z : P0} : X z 133 104 = XI mT z (X z) (.iconst 1, 1, 0, 0, 0, [], nI 1, 0) 133 104 := X_at (r := mi133) rfl rfl
theorem x133_105 {z : P0} : X z 133 105 = XI mT z (X z) (.iadd, 1, 0, 0, 0, [], 0, 0) 133 105 := X_at (r := mi133) rfl rfl
theorem x133_106 {z : P0} : X z 133 106 = XI mT z (X z) (.iastore, 1, 0, 0, 0, [], 0, 0) 133 106 := X_at (r := mi133) rfl rfl
theorem x133_107 {z : P0} : X z 133 107 = XI mT z (X z) (.aload_n 0, 1, 0, 0, 0, [], 0, 0) 133 107 := X_at (r := mi133) rfl rfl
theorem x133_108 {z : P0} : X z 133 108 = XI mT z (X z) (.getfield 7, 3, 11, 0, 3, [134], 0, 0) 133 108 := X_at (r := mi133) rfl rfl
theorem x133_111 {z : P0} : X z 133 111 = XI mT z (X z) (.bipush 13, 2, 0, 0, 0, [], nI 13, 0) 133 111 := X_at (r := mi133) rfl rfl
theorem x133_113 {z : P0} : X z 133 113 = XI mT z (X z) (.iload 4, 2, 4, 0, 0, [], 0, 0) 133 113 := X_at (r := mi133) rfl rfl
theorem x133_115 {z : P0} : X z 133 115 = XI mT z (X z) (.iadd, 1, 0, 0, 0, [], 0, 0) 133 115 := X_at (r := mi133) rfl rfl
theorem x133_116 {z : P0} : X z 133 116 = XI mT z (X z) (.iload_n 1, 1, 1, 0, 0, [], 0, 0) 133 116 := X_at (r := mi133) rfl rfl
theorem x133_117 {z : P0} : X z 133 117 = XI mT z (X z) (.iastore, 1, 0, 0, 0, [], 0, 0) 133 117 := X_at (r := mi133) rfl rfl
theorem x133_118 {z : P0} : X z 133 118 = XI mT z (X z) (.aload_n 0, 1, 0, 0, 0, [], 0, 0) 133 118 := X_at (r := mi133) rfl rfl
theorem x133_119 {z : P0} : X z 133 119 = XI mT z (X z) (.getfield 7, 3, 11, 0, 3, [134], 0, 0) 133 119 := X_at (r := mi133) rfl rfl
theorem x133_122 {z : P0} : X z 133 122 = XI mT z (X z) (.bipush 33, 2, 0, 0, 0, [], nI 33, 0) 133 122 := X_at (r := mi133) rfl rfl
theorem x133_124 {z : P0} : X z 133 124 = XI mT z (X z) (.iload 4, 2, 4, 0, 0, [], 0, 0) 133 124 := X_at (r := mi133) rfl rfl
theorem x133_126 {z : P0} : X z 133 126 = XI mT z (X z) (.iadd, 1, 0, 0, 0, [], 0, 0) 133 126 := X_at (r := mi133) rfl rfl
theorem x133_127 {z : P0} : X z 133 127 = XI mT z (X z) (.iload_n 2, 1, 2, 0, 0, [], 0, 0) 133 127 := X_at (r := mi133) rfl rfl
theorem x133_128 {z : P0} : X z 133 128 = XI mT z (X z) (.iastore, 1, 0, 0, 0, [], 0, 0) 133 128 := X_at (r := mi133) rfl rfl
theorem x133_129 {z : P0} : X z 133 129 = XI mT z (X z) (.aload_n 0, 1, 0, 0, 0, [], 0, 0) 133 129 := X_at (r := mi133) rfl rfl
theorem x133_130 {z : P0} : X z 133 130 = XI mT z (X z) (.getfield 7, 3, 11, 0, 3, [134], 0, 0) 133 130 := X_at (r := mi133) rfl rfl
theorem x133_133 {z : P0} : X z 133 133 = XI mT z (X z) (.bipush 53, 2, 0, 0, 0, [], nI 53, 0) 133 133 := X_at (r := mi133) rfl rfl
theorem x133_135 {z : P0} : X z 133 135 = XI mT z (X z) (.iload 4, 2, 4, 0, 0, [], 0, 0) 133 135 := X_at (r := mi133) rfl rfl
theorem x133_137 {z : P0} : X z 133 137 = XI mT z (X z) (.iadd, 1, 0, 0, 0, [], 0, 0) 133 137 := X_at (r := mi133) rfl rfl
theorem x133_138 {z : P0} : X z 133 138 = XI mT z (X z) (.iconst (-1), 1, 0, 0, 0, [], (-1), 0) 133 138 := X_at (r := mi133) rfl rfl
theorem x133_139 {z : P0} : X z 133 139 = XI mT z (X z) (.iastore, 1, 0, 0, 0, [], 0, 0) 133 139 := X_at (r := mi133) rfl rfl
theorem x133_140 {z : P0} : X z 133 140 = XI mT z (X z) (.aload_n 0, 1, 0, 0, 0, [], 0, 0) 133 140 := X_at (r := mi133) rfl rfl
theorem x133_141 {z : P0} : X z 133 141 = XI mT z (X z) (.getfield 7, 3, 11, 0, 3, [134], 0, 0) 133 141 := X_at (r := mi133) rfl rfl
theorem x133_144 {z : P0} : X z 133 144 = XI mT z (X z) (.bipush 73, 2, 0, 0, 0, [], nI 73, 0) 133 144 := X_at (r := mi133) rfl rfl
theorem x133_146 {z : P0} : X z 133 146 = XI mT z (X z) (.iload 4, 2, 4, 0, 0, [], 0, 0) 133 146 := X_at (r := mi133) rfl rfl
theorem x133_148 {z : P0} : X z 133 148 = XI mT z (X z) (.iadd, 1, 0, 0, 0, [], 0, 0) 133 148 := X_at (r := mi133) rfl rfl
theorem x133_149 {z : P0} : X z 133 149 = XI mT z (X z) (.iconst 0, 1, 0, 0, 0, [], nI 0, 0) 133 149 := X_at (r := mi133) rfl rfl
theorem x133_150 {z : P0} : X z 133 150 = XI mT z (X z) (.iastore, 1, 0, 0, 0, [], 0, 0) 133 150 := X_at (r := mi133) rfl rfl
theorem x133_151 {z : P0} : X z 133 151 = XI mT z (X z) (.aload_n 0, 1, 0, 0, 0, [], 0, 0) 133 151 := X_at (r := mi133) rfl rfl
theorem x133_152 {z : P0} : X z 133 152 = XI mT z (X z) (.getfield 7, 3, 11, 0, 3, [134], 0, 0) 133 152 := X_at (r := mi133) rfl rfl
theorem x133_155 {z : P0} : X z 133 155 = XI mT z (X z) (.bipush 93, 2, 0, 0, 0, [], nI 93, 0) 133 155 := X_at (r := mi133) rfl rfl
theorem x133_157 {z : P0} : X z 133 157 = XI mT z (X z) (.iload 4, 2, 4, 0, 0, [], 0, 0) 133 157 := X_at (r := mi133) rfl rfl
theorem x133_159 {z : P0} : X z 133 159 = XI mT z (X z) (.iadd, 1, 0, 0, 0, [], 0, 0) 133 159 := X_at (r := mi133) rfl rfl
theorem x133_160 {z : P0} : X z 133 160 = XI mT z (X z) (.iconst (-1), 1, 0, 0, 0, [], (-1), 0) 133 160 := X_at (r := mi133) rfl rfl
theorem x133_161 {z : P0} : X z 133 161 = XI mT z (X z) (.iastore, 1, 0, 0, 0, [], 0, 0) 133 161 := X_at (r := mi133) rfl rfl
theorem x133_162 {z : P0} : X z 133 162 = XI mT z (X z) (.aload_n 0, 1, 0, 0, 0, [], 0, 0) 133 162 := X_at (r := mi133) rfl rfl
theorem x133_163 {z : P0} : X z 133 163 = XI mT z (X z) (.getfield 7, 3, 11, 0, 3, [134], 0, 0) 133 163 := X_at (r := mi133) rfl rfl
theorem x133_166 {z : P0} : X z 133 166 = XI mT z (X z) (.bipush 113, 2, 0, 0, 0, [], nI 113, 0) 133 166 := X_at (r := mi133) rfl rfl
theorem x133_168 {z : P0} : X z 133 168 = XI mT z (X z) (.iload 4, 2, 4, 0, 0, [], 0, 0) 133 168 := X_at (r := mi133) rfl rfl
theorem x133_170 {z : P0} : X z 133 170 = XI mT z (X z) (.iadd, 1, 0, 0, 0, [], 0, 0) 133 170 := X_at (r := mi133) rfl rfl
theorem x133_171 {z : P0} : X z 133 171 = XI mT z (X z) (.iconst 0, 1, 0, 0, 0, [], nI 0, 0) 133 171 := X_at (r := mi133) rfl rfl
theorem x133_172 {z : P0} : X z 133 172 = XI mT z (X z) (.iastore, 1, 0, 0, 0, [], 0, 0) 133 172 := X_at (r := mi133) rfl rfl
theorem x133_173 {z : P0} : X z 133 173 = XI mT z (X z) (.aload_n 0, 1, 0, 0, 0, [], 0, 0) 133 173 := X_at (r := mi133) rfl rfl
theorem x133_174 {z : P0} : X z 133 174 = XI mT z (X z) (.getfield 7, 3, 11, 0, 3, [134], 0, 0) 133 174 := X_at (r := mi133) rfl rfl
theorem x133_177 {z : P0} : X z 133 177 = XI mT z (X z) (.sipush 133, 3, 0, 0, 0, [], nI 133, 0) 133 177 := X_at (r := mi133) rfl rfl
theorem x133_180 {z : P0} : X z 133 180 = XI mT z (X z) (.iload 4, 2, 4, 0, 0, [], 0, 0) 133 180 := X_at (r := mi133) rfl rfl
theorem x133_182 {z : P0} : X z 133 182 = XI mT z (X z) (.iadd, 1, 0, 0, 0, [], 0, 0) 133 182 := X_at (r := mi133) rfl rfl
theorem x133_183 {z : P0} : X z 133 183 = XI mT z (X z) (.aload_n 0, 1, 0, 0, 0, [], 0, 0) 133 183 := X_at (r := mi133) rfl rfl
theorem x133_184 {z : P0} : X z 133 184 = XI mT z (X z) (.getfield 135, 3, 11, 3, 0, [151], 0, 0) 133 184 := X_at (r := mi133) rfl rfl
theorem x133_187 {z : P0} : X z 133 187 = XI mT z (X z) (.iastore, 1, 0, 0, 0, [], 0, 0) 133 187 := X_at (r := mi133) rfl rfl
theorem x133_188 {z : P0} : X z 133 188 = XI mT z (X z) (.iconst 0, 1, 0, 0, 0, [], nI 0, 0) 133 188 := X_at (r := mi133) rfl rfl
theorem x133_189 {z : P0} : X z 133 189 = XI mT z (X z) (.istore 5, 2, 5, 0, 0, [], 0, 0) 133 189 := X_at (r := mi133) rfl rfl
theorem x133_191 {z : P0} : X z 133 191 = XI mT z (X z) (.iload 5, 2, 5, 0, 0, [], 0, 0) 133 191 := X_at (r := mi133) rfl rfl
theorem x133_193 {z : P0} : X z 133 193 = XI mT z (X z) (.aload_n 0, 1, 0, 0, 0, [], 0, 0) 133 193 := X_at (r := mi133) rfl rfl
theorem x133_194 {z : P0} : X z 133 194 = XI mT z (X z) (.getfield 135, 3, 11, 3, 0, [151], 0, 0) 133 194 := X_at (r := mi133) rfl rfl
theorem x133_197 {z : P0} : X z 133 197 = XI mT z (X z) (.if_icmp .ge 33, 3, 230, 0, 0, [], 0, 0) 133 197 := X_at (r := mi133) rfl rfl
theorem x133_200 {z : P0} : X z 133 200 = XI mT z (X z) (.aload_n 0, 1, 0, 0, 0, [], 0, 0) 133 200 := X_at (r := mi133) rfl rfl
theorem x133_201 {z : P0} : X z 133 201 = XI mT z (X z) (.getfield 7, 3, 11, 0, 3, [134], 0, 0) 133 201 := X_at (r := mi133) rfl rfl
theorem x133_204 {z : P0} : X z 133 204 = XI mT z (X z) (.sipush 153, 3, 0, 0, 0, [], nI 153, 0) 133 204 := X_at (r := mi133) rfl rfl
theorem x133_207 {z : P0} : X z 133 207 = XI mT z (X z) (.bipush 8, 2, 0, 0, 0, [], nI 8, 0) 133 207 := X_at (r := mi133) rfl rfl
theorem x133_209 {z : P0} : X z 133 209 = XI mT z (X z) (.iload 4, 2, 4, 0, 0, [], 0, 0) 133 209 := X_at (r := mi133) rfl rfl
theorem x133_211 {z : P0} : X z 133 211 = XI mT z (X z) (.imul, 1, 0, 0, 0, [], 0, 0) 133 211 := X_at (r := mi133) rfl rfl
theorem x133_212 {z : P0} : X z 133 212 = XI mT z (X z) (.iadd, 1, 0, 0, 0, [], 0, 0) 133 212 := X_at (r := mi133) rfl rfl
theorem x133_213 {z : P0} : X z 133 213 = XI mT z (X z) (.iload 5, 2, 5, 0, 0, [], 0, 0) 133 213 := X_at (r := mi133) rfl rfl
theorem x133_215 {z : P0} : X z 133 215 = XI mT z (X z) (.iadd, 1, 0, 0, 0, [], 0, 0) 133 215 := X_at (r := mi133) rfl rfl
theorem x133_216 {z : P0} : X z 133 216 = XI mT z (X z) (.aload_n 0, 1, 0, 0, 0, [], 0, 0) 133 216 := X_at (r := mi133) rfl rfl
theorem x133_217 {z : P0} : X z 133 217 = XI mT z (X z) (.getfield 16, 3, 11, 4, 3, [136], 0, 0) 133 217 := X_at (r := mi133) rfl rfl
theorem x133_220 {z : P0} : X z 133 220 = XI mT z (X z) (.iload 5, 2, 5, 0, 0, [], 0, 0) 133 220 := X_at (r := mi133) rfl rfl
theorem x133_222 {z : P0} : X z 133 222 = XI mT z (X z) (.iaload, 1, 0, 0, 0, [], 0, 0) 133 222 := X_at (r := mi133) rfl rfl
theorem x133_223 {z : P0} : X z 133 223 = XI mT z (X z) (.iastore, 1, 0, 0, 0, [], 0, 0) 133 223 := X_at (r := mi133) rfl rfl
theorem x133_224 {z : P0} : X z 133 224 = XI mT z (X z) (.iinc 5 1, 3, 5, 0, 0, [], nI 1, 0) 133 224 := X_at (r := mi133) rfl rfl
theorem x133_227 {z : P0} : X z 133 227 = XI mT z (X z) (.goto (-36), 3, 191, 0, 0, [], 0, 0) 133 227 := X_at (r := mi133) rfl rfl
theorem x133_230 {z : P0} : X z 133 230 = XI mT z (X z) (.aload_n 0, 1, 0, 0, 0, [], 0, 0) 133 230 := X_at (r := mi133) rfl rfl
theorem x133_231 {z : P0} : X z 133 231 = XI mT z (X z) (.iconst 0, 1, 0, 0, 0, [], nI 0, 0) 133 231 := X_at (r := mi133) rfl rfl
theorem x133_232 {z : P0} : X z 133 232 = XI mT z (X z) (.putfield 135, 3, 11, 3, 0, [151], 0, 0) 133 232 := X_at (r := mi133) rfl rfl
theorem x133_235 {z : P0} : X z 133 235 = XI mT z (X z) (.iload 4, 2, 4, 0, 0, [], 0, 0) 133 235 := X_at (r := mi133) rfl rfl
theorem x133_237 {z : P0} : X z 133 237 = XI mT z (X z) (.ireturn, 1, 0, 0, 0, [], 0, 0) 133 237 := X_at (r := mi133) rfl rfl
theorem x134_0 {z : P0} : X z 134 0 = XI mT z (X z) (.aload_n 0, 1, 0, 0, 0, [], 0, 0) 134 0 := X_at (r := mi134) rfl rfl
theorem x134_1 {z : P0} : X z 134 1 = XI mT z (X z) (.iconst 1, 1, 0, 0, 0, [], nI 1, 0) 134 1 := X_at (r := mi134) rfl rfl
theorem x134_2 {z : P0} : X z 134 2 = XI mT z (X z) (.invokevirtual 132, 3, 1, 150, 0, [128], 0, 0) 134 2 := X_at (r := mi134) rfl rfl
theorem x134_5 {z : P0} : X z 134 5 = XI mT z (X z) (.aload_n 0, 1, 0, 0, 0, [], 0, 0) 134 5 := X_at (r := mi134) rfl rfl
theorem x134_6 {z : P0} : X z 134 6 = XI mT z (X z) (.getfield 135, 3, 11, 3, 0, [151], 0, 0) 134 6 := X_at (r := mi134) rfl rfl
theorem x134_9 {z : P0} : X z 134 9 = XI mT z (X z) (.if_icmp .ne 15, 3, 24, 0, 0, [], 0, 0) 134 9 := X_at (r := mi134) rfl rfl
theorem x134_12 {z : P0} : X z 134 12 = XI mT z (X z) (.aload_n 0, 1, 0, 0, 0, [], 0, 0) 134 12 := X_at (r := mi134) rfl rfl
theorem x134_13 {z : P0} : X z 134 13 = XI mT z (X z) (.iconst 1, 1, 0, 0, 0, [], nI 1, 0) 134 13 := X_at (r := mi134) rfl rfl
theorem x134_14 {z : P0} : X z 134 14 = XI mT z (X z) (.invokevirtual 138, 3, 1, 151, 0, [129], 0, 0) 134 14 := X_at (r := mi134) rfl rfl
theorem x134_17 {z : P0} : X z 134 17 = XI mT z (X z) (.ifCond .eq 7, 3, 24, 0, 0, [], 0, 0) 134 17 := X_at (r := mi134) rfl rfl
theorem x134_20 {z : P0} : X z 134 20 = XI mT z (X z) (.iconst 1, 1, 0, 0, 0, [], nI 1, 0) 134 20 := X_at (r := mi134) rfl rfl
theorem x134_21 {z : P0} : X z 134 21 = XI mT z (X z) (.goto 4, 3, 25, 0, 0, [], 0, 0) 134 21 := X_at (r := mi134) rfl rfl
theorem x134_24 {z : P0} : X z 134 24 = XI mT z (X z) (.iconst 0, 1, 0, 0, 0, [], nI 0, 0) 134 24 := X_at (r := mi134) rfl rfl
theorem x134_25 {z : P0} : X z 134 25 = XI mT z (X z) (.istore_n 1, 1, 1, 0, 0, [], 0, 0) 134 25 := X_at (r := mi134) rfl rfl
theorem x134_26 {z : P0} : X z 134 26 = XI mT z (X z) (.aload_n 0, 1, 0, 0, 0, [], 0, 0) 134 26 := X_at (r := mi134) rfl rfl
theorem x134_27 {z : P0} : X z 134 27 = XI mT z (X z) (.iload_n 1, 1, 1, 0, 0, [], 0, 0) 134 27 := X_at (r := mi134) rfl rfl
theorem x134_28 {z : P0} : X z 134 28 = XI mT z (X z) (.ifCond .ne 7, 3, 35, 0, 0, [], 0, 0) 134 28 := X_at (r := mi134) rfl rfl
theorem x134_31 {z : P0} : X z 134 31 = XI mT z (X z) (.iconst 1, 1, 0, 0, 0, [], nI 1, 0) 134 31 := X_at (r := mi134) rfl rfl
theorem x134_32 {z : P0} : X z 134 32 = XI mT z (X z) (.goto 20, 3, 52, 0, 0, [], 0, 0) 134 32 := X_at (r := mi134) rfl rfl
theorem x134_35 {z : P0} : X z 134 35 = XI mT z (X z) (.aload_n 0, 1, 0, 0, 0, [], 0, 0) 134 35 := X_at (r := mi134) rfl rfl
theorem x134_36 {z : P0} : X z 134 36 = XI mT z (X z) (.getfield 7, 3, 11, 0, 3, [134], 0, 0) 134 36 := X_at (r := mi134) rfl rfl
theorem x134_39 {z : P0} : X z 134 39 = XI mT z (X z) (.bipush 7, 2, 0, 0, 0, [], nI 7, 0) 134 39 := X_at (r := mi134) rfl rfl
theorem x134_41 {z : P0} : X z 134 41 = XI mT z (X z) (.iaload, 1, 0, 0, 0, [], 0, 0) 134 41 := X_at (r := mi134) rfl rfl
theorem x134_42 {z : P0} : X z 134 42 = XI mT z (X z) (.bipush 10, 2, 0, 0, 0, [], nI 10, 0) 134 42 := X_at (r := mi134) rfl rfl
theorem x134_44 {z : P0} : X z 134 44 = XI mT z (X z) (.if_icmp .ne 7, 3, 51, 0, 0, [], 0, 0) 134 44 := X_at (r := mi134) rfl rfl
theorem x134_47 {z : P0} : X z 134 47 = XI mT z (X z) (.iconst 2, 1, 0, 0, 0, [], nI 2, 0) 134 47 := X_at (r := mi134) rfl rfl
theorem x134_48 {z : P0} : X z 134 48 = XI mT z (X z) (.goto 4, 3, 52, 0, 0, [], 0, 0) 134 48 := X_at (r := mi134) rfl rfl
theorem x134_51 {z : P0} : X z 134 51 = XI mT z (X z) (.iconst 0, 1, 0, 0, 0, [], nI 0, 0) 134 51 := X_at (r := mi134) rfl rfl
theorem x134_52 {z : P0} : X z 134 52 = XI mT z (X z) (.putfield 40, 3, 11, 5, 0, [144], 0, 0) 134 52 := X_at (r := mi134) rfl rfl
theorem x134_55 {z : P0} : X z 134 55 = XI mT z (X z) (.aload_n 0, 1, 0, 0, 0, [], 0, 0) 134 55 := X_at (r := mi134) rfl rfl
theorem x134_56 {z : P0} : X z 134 56 = XI mT z (X z) (.getfield 40, 3, 11, 5, 0, [144], 0, 0) 134 56 := X_at (r := mi134) rfl rfl
theorem x134_59 {z : P0} : X z 134 59 = XI mT z (X z) (.ifCond .le 5, 3, 64, 0, 0, [], 0, 0) 134 59 := X_at (r := mi134) rfl rfl
theorem x134_62 {z : P0} : X z 134 62 = XI mT z (X z) (.iconst 0, 1, 0, 0, 0, [], nI 0, 0) 134 62 := X_at (r := mi134) rfl rfl
theorem x134_63 {z : P0} : X z 134 63 = XI mT z (X z) (.ireturn, 1, 0, 0, 0, [], 0, 0) 134 63 := X_at (r := mi134) rfl rfl
theorem x134_64 {z : P0} : X z 134 64 = XI mT z (X z) (.aload_n 0, 1, 0, 0, 0, [], 0, 0) 134 64 := X_at (r := mi134) rfl rfl
theorem x134_65 {z : P0} : X z 134 65 = XI mT z (X z) (.invokevirtual 141, 3, 0, 107, 0, [130], 0, 0) 134 65 := X_at (r := mi134) rfl rfl
theorem x134_68 {z : P0} : X z 134 68 = XI mT z (X z) (.aload_n 0, 1, 0, 0, 0, [], 0, 0) 134 68 := X_at (r := mi134) rfl rfl
theorem x134_69 {z : P0} : X z 134 69 = XI mT z (X z) (.getfield 7, 3, 11, 0, 3, [134], 0, 0) 134 69 := X_at (r := mi134) rfl rfl
theorem x134_72 {z : P0} : X z 134 72 = XI mT z (X z) (.bipush 7, 2, 0, 0, 0, [], nI 7, 0) 134 72 := X_at (r := mi134) rfl rfl
theorem x134_74 {z : P0} : X z 134 74 = XI mT z (X z) (.iaload, 1, 0, 0, 0, [], 0, 0) 134 74 := X_at (r := mi134) rfl rfl
theorem x134_75 {z : P0} : X z 134 75 = XI mT z (X z) (.istore_n 2, 1, 2, 0, 0, [], 0, 0) 134 75 := X_at (r := mi134) rfl rfl
theorem x134_76 {z : P0} : X z 134 76 = XI mT z (X z) (.aload_n 0, 1, 0, 0, 0, [], 0, 0) 134 76 := X_at (r := mi134) rfl rfl
theorem x134_77 {z : P0} : X z 134 77 = XI mT z (X z) (.getfield 7, 3, 11, 0, 3, [134], 0, 0) 134 77 := X_at (r := mi134) rfl rfl
theorem x134_80 {z : P0} : X z 134 80 = XI mT z (X z) (.bipush 7, 2, 0, 0, 0, [], nI 7, 0) 134 80 := X_at (r := mi134) rfl rfl
theorem x134_82 {z : P0} : X z 134 82 = XI mT z (X z) (.dup2, 1, 0, 0, 0, [], 0, 0) 134 82 := X_at (r := mi134) rfl rfl
theorem x134_83 {z : P0} : X z 134 83 = XI mT z (X z) (.iaload, 1, 0, 0, 0, [], 0, 0) 134 83 := X_at (r := mi134) rfl rfl
theorem x134_84 {z : P0} : X z 134 84 = XI mT z (X z) (.iconst 1, 1, 0, 0, 0, [], nI 1, 0) 134 84 := X_at (r := mi134) rfl rfl
theorem x134_85 {z : P0} : X z 134 85 = XI mT z (X z) (.iadd, 1, 0, 0, 0, [], 0, 0) 134 85 := X_at (r := mi134) rfl rfl
theorem x134_86 {z : P0} : X z 134 86 = XI mT z (X z) (.iastore, 1, 0, 0, 0, [], 0, 0) 134 86 := X_at (r := mi134) rfl rfl
theorem x134_87 {z : P0} : X z 134 87 = XI mT z (X z) (.aload_n 0, 1, 0, 0, 0, [], 0, 0) 134 87 := X_at (r := mi134) rfl rfl
theorem x134_88 {z : P0} : X z 134 88 = XI mT z (X z) (.getfield 7, 3, 11, 0, 3, [134], 0, 0) 134 88 := X_at (r := mi134) rfl rfl
theorem x134_91 {z : P0} : X z 134 91 = XI mT z (X z) (.sipush 323, 3, 0, 0, 0, [], nI 323, 0) 134 91 := X_at (r := mi134) rfl rfl
theorem x134_94 {z : P0} : X z 134 94 = XI mT z (X z) (.iload_n 2, 1, 2, 0, 0, [], 0, 0) 134 94 := X_at (r := mi134) rfl rfl
theorem x134_95 {z : P0} : X z 134 95 = XI mT z (X z) (.iadd, 1, 0, 0, 0, [], 0, 0) 134 95 := X_at (r := mi134) rfl rfl
theorem x134_96 {z : P0} : X z 134 96 = XI mT z (X z) (.aload_n 0, 1, 0, 0, 0, [], 0, 0) 134 96 := X_at (r := mi134) rfl rfl
theorem x134_97 {z : P0} : X z 134 97 = XI mT z (X z) (.getfield 144, 3, 11, 19, 1, [152], 0, 0) 134 97 := X_at (r := mi134) rfl rfl
theorem x134_100 {z : P0} : X z 134 100 = XI mT z (X z) (.ifCond .eq 7, 3, 107, 0, 0, [], 0, 0) 134 100 := X_at (r := mi134) rfl rfl
theorem x134_103 {z : P0} : X z 134 103 = XI mT z (X z) (.iconst 1, 1, 0, 0, 0, [], nI 1, 0) 134 103 := X_at (r := mi134) rfl rfl
theorem x134_104 {z : P0} : X z 134 104 = XI mT z (X z) (.goto 4, 3, 108, 0, 0, [], 0, 0) 134 104 := X_at (r := mi134) rfl rfl
theorem x134_107 {z : P0} : X z 134 107 = XI mT z (X z) (.iconst 0, 1, 0, 0, 0, [], nI 0, 0) 134 107 := X_at (r := mi134) rfl rfl
theorem x134_108 {z : P0} : X z 134 108 = XI mT z (X z) (.iastore, 1, 0, 0, 0, [], 0, 0) 134 108 := X_at (r := mi134) rfl rfl
theorem x134_109 {z : P0} : X z 134 109 = XI mT z (X z) (.aload_n 0, 1, 0, 0, 0, [], 0, 0) 134 109 := X_at (r := mi134) rfl rfl
theorem x134_110 {z : P0} : X z 134 110 = XI mT z (X z) (.getfield 7, 3, 11, 0, 3, [134], 0, 0) 134 110 := X_at (r := mi134) rfl rfl
theorem x134_113 {z : P0} : X z 134 113 = XI mT z (X z) (.sipush 313, 3, 0, 0, 0, [], nI 313, 0) 134 113 := X_at (r := mi134) rfl rfl
theorem x134_116 {z : P0} : X z 134 116 = XI mT z (X z) (.iload_n 2, 1, 2, 0, 0, [], 0, 0) 134 116 := X_at (r := mi134) rfl rfl
theorem x134_117 {z : P0} : X z 134 117 = XI mT z (X z) (.iadd, 1, 0, 0, 0, [], 0, 0) 134 117 := X_at (r := mi134) rfl rfl
theorem x134_118 {z : P0} : X z 134 118 = XI mT z (X z) (.aload_n 0, 1, 0, 0, 0, [], 0, 0) 134 118 := X_at (r := mi134) rfl rfl
theorem x134_119 {z : P0} : X z 134 119 = XI mT z (X z) (.getfield 147, 3, 11, 18, 0, [153], 0, 0) 134 119 := X_at (r := mi134) rfl rfl
theorem x134_122 {z : P0} : X z 134 122 = XI mT z (X z) (.iastore, 1, 0, 0, 0, [], 0, 0) 134 122 := X_at (r := mi134) rfl rfl
theorem x134_123 {z : P0} : X z 134 123 = XI mT z (X z) (.iconst 0, 1, 0, 0, 0, [], nI 0, 0) 134 123 := X_at (r := mi134) rfl rfl
theorem x134_124 {z : P0} : X z 134 124 = XI mT z (X z) (.istore_n 3, 1, 3, 0, 0, [], 0, 0) 134 124 := X_at (r := mi134) rfl rfl
theorem x134_125 {z : P0} : X z 134 125 = XI mT z (X z) (.iload_n 3, 1, 3, 0, 0, [], 0, 0) 134 125 := X_at (r := mi134) rfl rfl
theorem x134_126 {z : P0} : X z 134 126 = XI mT z (X z) (.aload_n 0, 1, 0, 0, 0, [], 0, 0) 134 126 := X_at (r := mi134) rfl rfl
theorem x134_127 {z : P0} : X z 134 127 = XI mT z (X z) (.getfield 147, 3, 11, 18, 0, [153], 0, 0) 134 127 := X_at (r := mi134) rfl rfl
theorem x134_130 {z : P0} : X z 134 130 = XI mT z (X z) (.if_icmp .ge 30, 3, 160, 0, 0, [], 0, 0) 134 130 := X_at (r := mi134) rfl rfl
theorem x134_133 {z : P0} : X z 134 133 = XI mT z (X z) (.aload_n 0, 1, 0, 0, 0, [], 0, 0) 134 133 := X_at (r := mi134) rfl rfl
theorem x134_134 {z : P0} : X z 134 134 = XI mT z (X z) (.getfield 7, 3, 11, 0, 3, [134], 0, 0) 134 134 := X_at (r := mi134) rfl rfl
theorem x134_137 {z : P0} : X z 134 137 = XI mT z (X z) (.sipush 333, 3, 0, 0, 0, [], nI 333, 0) 134 137 := X_at (r := mi134) rfl rfl
theorem x134_140 {z : P0} : X z 134 140 = XI mT z (X z) (.bipush 8, 2, 0, 0, 0, [], nI 8, 0) 134 140 := X_at (r := mi134) rfl rfl
theorem x134_142 {z : P0} : X z 134 142 = XI mT z (X z) (.iload_n 2, 1, 2, 0, 0, [], 0, 0) 134 142 := X_at (r := mi134) rfl rfl
theorem x134_143 {z : P0} : X z 134 143 = XI mT z (X z) (.imul, 1, 0, 0, 0, [], 0, 0) 134 143 := X_at (r := mi134) rfl rfl
theorem x134_144 {z : P0} : X z 134 144 = XI mT z (X z) (.iadd, 1, 0, 0, 0, [], 0, 0) 134 144 := X_at (r := mi134) rfl rfl
theorem x134_145 {z : P0} : X z 134 145 = XI mT z (X z) (.iload_n 3, 1, 3, 0, 0, [], 0, 0) 134 145 := X_at (r := mi134) rfl rfl
theorem x134_146 {z : P0} : X z 134 146 = XI mT z (X z) (.iadd, 1, 0, 0, 0, [], 0, 0) 134 146 := X_at (r := mi134) rfl rfl
theorem x134_147 {z : P0} : X z 134 147 = XI mT z (X z) (.aload_n 0, 1, 0, 0, 0, [], 0, 0) 134 147 := X_at (r := mi134) rfl rfl
theorem x134_148 {z : P0} : X z 134 148 = XI mT z (X z) (.getfield 16, 3, 11, 4, 3, [136], 0, 0) 134 148 := X_at (r := mi134) rfl rfl
theorem x134_151 {z : P0} : X z 134 151 = XI mT z (X z) (.iload_n 3, 1, 3, 0, 0, [], 0, 0) 134 151 := X_at (r := mi134) rfl rfl
theorem x134_152 {z : P0} : X z 134 152 = XI mT z (X z) (.iaload, 1, 0, 0, 0, [], 0, 0) 134 152 := X_at (r := mi134) rfl rfl
theorem x134_153 {z : P0} : X z 134 153 = XI mT z (X z) (.iastore, 1, 0, 0, 0, [], 0, 0) 134 153 := X_at (r := mi134) rfl rfl
theorem x134_154 {z : P0} : X z 134 154 = XI mT z (X z) (.iinc 3 1, 3, 3, 0, 0, [], nI 1, 0) 134 154 := X_at (r := mi134) rfl rfl
theorem x134_157 {z : P0} : X z 134 157 = XI mT z (X z) (.goto (-32), 3, 125, 0, 0, [], 0, 0) 134 157 := X_at (r := mi134) rfl rfl
theorem x134_160 {z : P0} : X z 134 160 = XI mT z (X z) (.aload_n 0, 1, 0, 0, 0, [], 0, 0) 134 160 := X_at (r := mi134) rfl rfl
theorem x134_161 {z : P0} : X z 134 161 = XI mT z (X z) (.iconst 0, 1, 0, 0, 0, [], nI 0, 0) 134 161 := X_at (r := mi134) rfl rfl
theorem x134_162 {z : P0} : X z 134 162 = XI mT z (X z) (.putfield 135, 3, 11, 3, 0, [151], 0, 0) 134 162 := X_at (r := mi134) rfl rfl
theorem x134_165 {z : P0} : X z 134 165 = XI mT z (X z) (.iload_n 2, 1, 2, 0, 0, [], 0, 0) 134 165 := X_at (r := mi134) rfl rfl
theorem x134_166 {z : P0} : X z 134 166 = XI mT z (X z) (.ireturn, 1, 0, 0, 0, [], 0, 0) 134 166 := X_at (r := mi134) rfl rfl
theorem x135_0 {z : P0} : X z 135 0 = XI mT z (X z) (.aload_n 0, 1, 0, 0, 0, [], 0, 0) 135 0 := X_at (r := mi135) rfl rfl
theorem x135_1 {z : P0} : X z 135 1 = XI mT z (X z) (.iconst 2, 1, 0, 0, 0, [], nI 2, 0) 135 1 := X_at (r := mi135) rfl rfl
theorem x135_2 {z : P0} : X z 135 2 = XI mT z (X z) (.invokevirtual 132, 3, 1, 150, 0, [128], 0, 0) 135 2 := X_at (r := mi135) rfl rfl
theorem x135_5 {z : P0} : X z 135 5 = XI mT z (X z) (.aload_n 0, 1, 0, 0, 0, [], 0, 0) 135 5 := X_at (r := mi135) rfl rfl
theorem x135_6 {z : P0} : X z 135 6 = XI mT z (X z) (.getfield 135, 3, 11, 3, 0, [151], 0, 0) 135 6 := X_at (r := mi135) rfl rfl
theorem x135_9 {z : P0} : X z 135 9 = XI mT z (X z) (.if_icmp .ne 15, 3, 24, 0, 0, [], 0, 0) 135 9 := X_at (r := mi135) rfl rfl
theorem x135_12 {z : P0} : X z 135 12 = XI mT z (X z) (.aload_n 0, 1, 0, 0, 0, [], 0, 0) 135 12 := X_at (r := mi135) rfl rfl
theorem x135_13 {z : P0} : X z 135 13 = XI mT z (X z) (.iconst 2, 1, 0, 0, 0, [], nI 2, 0) 135 13 := X_at (r := mi135) rfl rfl
theorem x135_14 {z : P0} : X z 135 14 = XI mT z (X z) (.invokevirtual 138, 3, 1, 151, 0, [129], 0, 0) 135 14 := X_at (r := mi135) rfl rfl
theorem x135_17 {z : P0} : X z 135 17 = XI mT z (X z) (.ifCond .eq 7, 3, 24, 0, 0, [], 0, 0) 135 17 := X_at (r := mi135) rfl rfl
theorem x135_20 {z : P0} : X z 135 20 = XI mT z (X z) (.iconst 1, 1, 0, 0, 0, [], nI 1, 0) 135 20 := X_at (r := mi135) rfl rfl
theorem x135_21 {z : P0} : X z 135 21 = XI mT z (X z) (.goto 4, 3, 25, 0, 0, [], 0, 0) 135 21 := X_at (r := mi135) rfl rfl
theorem x135_24 {z : P0} : X z 135 24 = XI mT z (X z) (.iconst 0, 1, 0, 0, 0, [], nI 0, 0) 135 24 := X_at (r := mi135) rfl rfl
theorem x135_25 {z : P0} : X z 135 25 = XI mT z (X z) (.istore_n 1, 1, 1, 0, 0, [], 0, 0) 135 25 := X_at (r := mi135) rfl rfl
theorem x135_26 {z : P0} : X z 135 26 = XI mT z (X z) (.aload_n 0, 1, 0, 0, 0, [], 0, 0) 135 26 := X_at (r := mi135) rfl rfl
theorem x135_27 {z : P0} : X z 135 27 = XI mT z (X z) (.iload_n 1, 1, 1, 0, 0, [], 0, 0) 135 27 := X_at (r := mi135) rfl rfl
theorem x135_28 {z : P0} : X z 135 28 = XI mT z (X z) (.ifCond .eq 7, 3, 35, 0, 0, [], 0, 0) 135 28 := X_at (r := mi135) rfl rfl
theorem x135_31 {z : P0} : X z 135 31 = XI mT z (X z) (.iconst 0, 1, 0, 0, 0, [], nI 0, 0) 135 31 := X_at (r := mi135) rfl rfl
theorem x135_32 {z : P0} : X z 135 32 = XI mT z (X z) (.goto 4, 3, 36, 0, 0, [], 0, 0) 135 32 := X_at (r := mi135) rfl rfl
theorem x135_35 {z : P0} : X z 135 35 = XI mT z (X z) (.iconst 1, 1, 0, 0, 0, [], nI 1, 0) 135 35 := X_at (r := mi135) rfl rfl
theorem x135_36 {z : P0} : X z 135 36 = XI mT z (X z) (.putfield 40, 3, 11, 5, 0, [144], 0, 0) 135 36 := X_at (r := mi135) rfl rfl
theorem x135_39 {z : P0} : X z 135 39 = XI mT z (X z) (.aload_n 0, 1, 0, 0, 0, [], 0, 0) 135 39 := X_at (r := mi135) rfl rfl
theorem x135_40 {z : P0} : X z 135 40 = XI mT z (X z) (.getfield 40, 3, 11, 5, 0, [144], 0, 0) 135 40 := X_at (r := mi135) rfl rfl
theorem x135_43 {z : P0} : X z 135 43 = XI mT z (X z) (.ifCond .le 5, 3, 48, 0, 0, [], 0, 0) 135 43 := X_at (r := mi135) rfl rfl
theorem x135_46 {z : P0} : X z 135 46 = XI mT z (X z) (.iconst 0, 1, 0, 0, 0, [], nI 0, 0) 135 46 := X_at (r := mi135) rfl rfl
theorem x135_47 {z : P0} : X z 135 47 = XI mT z (X z) (.ireturn, 1, 0, 0, 0, [], 0, 0) 135 47 := X_at (r := mi135) rfl rfl
theorem x135_48 {z : P0} : X z 135 48 = XI mT z (X z) (.aload_n 0, 1, 0, 0, 0, [], 0, 0) 135 48 := X_at (r := mi135) rfl rfl
theorem x135_49 {z : P0} : X z 135 49 = XI mT z (X z) (.invokevirtual 141, 3, 0, 107, 0, [130], 0, 0) 135 49 := X_at (r := mi135) rfl rfl
theorem x135_52 {z : P0} : X z 135 52 = XI mT z (X z) (.aload_n 0, 1, 0, 0, 0, [], 0, 0) 135 52 := X_at (r := mi135) rfl rfl
theorem x135_53 {z : P0} : X z 135 53 = XI mT z (X z) (.getfield 7, 3, 11, 0, 3, [134], 0, 0) 135 53 := X_at (r := mi135) rfl rfl
theorem x135_56 {z : P0} : X z 135 56 = XI mT z (X z) (.bipush 12, 2, 0, 0, 0, [], nI 12, 0) 135 56 := X_at (r := mi135) rfl rfl
theorem x135_58 {z : P0} : X z 135 58 = XI mT z (X z) (.iconst 0, 1, 0, 0, 0, [], nI 0, 0) 135 58 := X_at (r := mi135) rfl rfl
theorem x135_59 {z : P0} : X z 135 59 = XI mT z (X z) (.iastore, 1, 0, 0, 0, [], 0, 0) 135 59 := X_at (r := mi135) rfl rfl
theorem x135_60 {z : P0} : X z 135 60 = XI mT z (X z) (.iconst 0, 1, 0, 0, 0, [], nI 0, 0) 135 60 := X_at (r := mi135) rfl rfl
theorem x135_61 {z : P0} : X z 135 61 = XI mT z (X z) (.istore_n 2, 1, 2, 0, 0, [], 0, 0) 135 61 := X_at (r := mi135) rfl rfl
theorem x135_62 {z : P0} : X z 135 62 = XI mT z (X z) (.iload_n 2, 1, 2, 0, 0, [], 0, 0) 135 62 := X_at (r := mi135) rfl rfl
theorem x135_63 {z : P0} : X z 135 63 = XI mT z (X z) (.aload_n 0, 1, 0, 0, 0, [], 0, 0) 135 63 := X_at (r := mi135) rfl rfl
theorem x135_64 {z : P0} : X z 135 64 = XI mT z (X z) (.getfield 135, 3, 11, 3, 0, [151], 0, 0) 135 64 := X_at (r := mi135) rfl rfl
theorem x135_67 {z : P0} : X z 135 67 = XI mT z (X z) (.if_icmp .ge 90, 3, 157, 0, 0, [], 0, 0) 135 67 := X_at (r := mi135) rfl rfl
theorem x135_70 {z : P0} : X z 135 70 = XI mT z (X z) (.aload_n 0, 1, 0, 0, 0, [], 0, 0) 135 70 := X_at (r := mi135) rfl rfl
theorem x135_71 {z : P0} : X z 135 71 = XI mT z (X z) (.getfield 16, 3, 11, 4, 3, [136], 0, 0) 135 71 := X_at (r := mi135) rfl rfl
theorem x135_74 {z : P0} : X z 135 74 = XI mT z (X z) (.iload_n 2, 1, 2, 0, 0, [], 0, 0) 135 74 := X_at (r := mi135) rfl rfl
theorem x135_75 {z : P0} : X z 135 75 = XI mT z (X z) (.iaload, 1, 0, 0, 0, [], 0, 0) 135 75 := X_at (r := mi135) rfl rfl
theorem x135_76 {z : P0} : X z 135 76 = XI mT z (X z) (.bipush 60, 2, 0, 0, 0, [], nI 60, 0) 135 76 := X_at (r := mi135) rfl rfl
theorem x135_78 {z : P0} : X z 135 78 = XI mT z (X z) (.if_icmp .ne 7, 3, 85, 0, 0, [], 0, 0) 135 78 := X_at (r := mi135) rfl rfl
theorem x135_81 {z : P0} : X z 135 81 = XI mT z (X z) (.iconst 1, 1, 0, 0, 0, [], nI 1, 0) 135 81 := X_at (r := mi135) rfl rfl
theorem x135_82 {z : P0} : X z 135 82 = XI mT z (X z) (.goto 4, 3, 86, 0, 0, [], 0, 0) 135 82 := X_at (r := mi135) rfl rfl
theorem x135_85 {z : P0} : X z 135 85 = XI mT z (X z) (.iconst 0, 1, 0, 0, 0, [], nI 0, 0) 135 85 := X_at (r := mi135) rfl rfl
theorem x135_86 {z : P0} : X z 135 86 = XI mT z (X z) (.istore_n 3, 1, 3, 0, 0, [], 0, 0) 135 86 := X_at (r := mi135) rfl rfl
theorem x135_87 {z : P0} : X z 135 87 = XI mT z (X z) (.aload_n 0, 1, 0, 0, 0, [], 0, 0) 135 87 := X_at (r := mi135) rfl rfl
theorem x135_88 {z : P0} : X z 135 88 = XI mT z (X z) (.getfield 7, 3, 11, 0, 3, [134], 0, 0) 135 88 := X_at (r := mi135) rfl rfl
theorem x135_91 {z : P0} : X z 135 91 = XI mT z (X z) (.sipush 413, 3, 0, 0, 0, [], nI 413, 0) 135 91 := X_at (r := mi135) rfl rfl
theorem x135_94 {z : P0} : X z 135 94 = XI mT z (X z) (.aload_n 0, 1, 0, 0, 0, [], 0, 0) 135 94 := X_at (r := mi135) rfl rfl
theorem x135_95 {z : P0} : X z 135 95 = XI mT z (X z) (.getfield 7, 3, 11, 0, 3, [134], 0, 0) 135 95 := X_at (r := mi135) rfl rfl
theorem x135_98 {z : P0} : X z 135 98 = XI mT z (X z) (.bipush 12, 2, 0, 0, 0, [], nI 12, 0) 135 98 := X_at (r := mi135) rfl rfl
theorem x135_100 {z : P0} : X z 135 100 = XI mT z (X z) (.iaload, 1, 0, 0, 0, [], 0, 0) 135 100 := X_at (r := mi135) rfl rfl
theorem x135_101 {z : P0} : X z 135 101 = XI mT z (X z) (.iadd, 1, 0, 0, 0, [], 0, 0) 135 101 := X_at (r := mi135) rfl rfl
theorem x135_102 {z : P0} : X z 135 102 = XI mT z (X z) (.iload_n 3, 1, 3, 0, 0, [], 0, 0) 135 102 := X_at (r := mi135) rfl rfl
theorem x135_103 {z : P0} : X z 135 103 = XI mT z (X z) (.ifCond .eq 18, 3, 121, 0, 0, [], 0, 0) 135 103 := X_at (r := mi135) rfl rfl
theorem x135_106 {z : P0} : X z 135 106 = XI mT z (X z) (.sipush 256, 3, 0, 0, 0, [], nI 256, 0) 135 106 := X_at (r := mi135) rfl rfl
theorem x135_109 {z : P0} : X z 135 109 = XI mT z (X z) (.aload_n 0, 1, 0, 0, 0, [], 0, 0) 135 109 := X_at (r := mi135) rfl rfl
theorem x135_110 {z : P0} : X z 135 110 = XI mT z (X z) (.getfield 16, 3, 11, 4, 3, [136], 0, 0) 135 110 := X_at (r := mi135) rfl rfl
theorem x135_113 {z : P0} : X z 135 113 = XI mT z (X z) (.iload_n 2, 1, 2, 0, 0, [], 0, 0) 135 113 := X_at (r := mi135) rfl rfl
theorem x135_114 {z : P0} : X z 135 114 = XI mT z (X z) (.iconst 1, 1, 0, 0, 0, [], nI 1, 0) 135 114 := X_at (r := mi135) rfl rfl
theorem x135_115 {z : P0} : X z 135 115 = XI mT z (X z) (.iadd, 1, 0, 0, 0, [], 0, 0) 135 115 := X_at (r := mi135) rfl rfl
theorem x135_116 {z : P0} : X z 135 116 = XI mT z (X z) (.iaload, 1, 0, 0, 0, [], 0, 0) 135 116 := X_at (r := mi135) rfl rfl
theorem x135_117 {z : P0} : X z 135 117 = XI mT z (X z) (.iadd, 1, 0, 0, 0, [], 0, 0) 135 117 := X_at (r := mi135) rfl rfl
theorem x135_118 {z : P0} : X z 135 118 = XI mT z (X z) (.goto 9, 3, 127, 0, 0, [], 0, 0) 135 118 := X_at (r := mi135) rfl rfl
theorem x135_121 {z : P0} : X z 135 121 = XI mT z (X z) (.aload_n 0, 1, 0, 0, 0, [], 0, 0) 135 121 := X_at (r := mi135) rfl rfl
theorem x135_122 {z : P0} : X z 135 122 = XI mT z (X z) (.getfield 16, 3, 11, 4, 3, [136], 0, 0) 135 122 := X_at (r := mi135) rfl rfl
theorem x135_125 {z : P0} : X z 135 125 = XI mT z (X z) (.iload_n 2, 1, 2, 0, 0, [], 0, 0) 135 125 := X_at (r := mi135) rfl rfl
theorem x135_126 {z : P0} : X z 135 126 = XI mT z (X z) (.iaload, 1, 0, 0, 0, [], 0, 0) 135 126 := X_at (r := mi135) rfl rfl
theorem x135_127 {z : P0} : X z 135 127 = XI mT z (X z) (.iastore, 1, 0, 0, 0, [], 0, 0) 135 127 := X_at (r := mi135) rfl rfl
theorem x135_128 {z : P0} : X z 135 128 = XI mT z (X z) (.aload_n 0, 1, 0, 0, 0, [], 0, 0) 135 128 := X_at (r := mi135) rfl rfl
theorem x135_129 {z : P0} : X z 135 129 = XI mT z (X z) (.getfield 7, 3, 11, 0, 3, [134], 0, 0) 135 129 := X_at (r := mi135) rfl rfl
theorem x135_132 {z : P0} : X z 135 132 = XI mT z (X z) (.bipush 12, 2, 0, 0, 0, [], nI 12, 0) 135 132 := X_at (r := mi135) rfl rfl
theorem x135_134 {z : P0} : X z 135 134 = XI mT z (X z) (.dup2, 1, 0, 0, 0, [], 0, 0) 135 134 := X_at (r := mi135) rfl rfl
theorem x135_135 {z : P0} : X z 135 135 = XI mT z (X z) (.iaload, 1, 0, 0, 0, [], 0, 0) 135 135 := X_at (r := mi135) rfl rfl
theorem x135_136 {z : P0} : X z 135 136 = XI mT z (X z) (.iconst 1, 1, 0, 0, 0, [], nI 1, 0) 135 136 := X_at (r := mi135) rfl rfl
theorem x135_137 {z : P0} : X z 135 137 = XI mT z (X z) (.iadd, 1, 0, 0, 0, [], 0, 0) 135 137 := X_at (r := mi135) rfl rfl
theorem x135_138 {z : P0} : X z 135 138 = XI mT z (X z) (.iastore, 1, 0, 0, 0, [], 0, 0) 135 138 := X_at (r := mi135) rfl rfl
theorem x135_139 {z : P0} : X z 135 139 = XI mT z (X z) (.iload_n 2, 1, 2, 0, 0, [], 0, 0) 135 139 := X_at (r := mi135) rfl rfl
theorem x135_140 {z : P0} : X z 135 140 = XI mT z (X z) (.iload_n 3, 1, 3, 0, 0, [], 0, 0) 135 140 := X_at (r := mi135) rfl rfl
theorem x135_141 {z : P0} : X z 135 141 = XI mT z (X z) (.ifCond .eq 7, 3, 148, 0, 0, [], 0, 0) 135 141 := X_at (r := mi135) rfl rfl
theorem x135_144 {z : P0} : X z 135 144 = XI mT z (X z) (.iconst 2, 1, 0, 0, 0, [], nI 2, 0) 135 144 := X_at (r := mi135) rfl rfl
theorem x135_145 {z : P0} : X z 135 145 = XI mT z (X z) (.goto 4, 3, 149, 0, 0, [], 0, 0) 135 145 := X_at (r := mi135) rfl rfl
theorem x135_148 {z : P0} : X z 135 148 = XI mT z (X z) (.iconst 0, 1, 0, 0, 0, [], nI 0, 0) 135 148 := X_at (r := mi135) rfl rfl
theorem x135_149 {z : P0} : X z 135 149 = XI mT z (X z) (.iadd, 1, 0, 0, 0, [], 0, 0) 135 149 := X_at (r := mi135) rfl rfl
theorem x135_150 {z : P0} : X z 135 150 = XI mT z (X z) (.istore_n 2, 1, 2, 0, 0, [], 0, 0) 135 150 := X_at (r := mi135) rfl rfl
theorem x135_151 {z : P0} : X z 135 151 = XI mT z (X z) (.iinc 2 1, 3, 2, 0, 0, [], nI 1, 0) 135 151 := X_at (r := mi135) rfl rfl
theorem x135_154 {z : P0} : X z 135 154 = XI mT z (X z) (.goto (-92), 3, 62, 0, 0, [], 0, 0) 135 154 := X_at (r := mi135) rfl rfl
theorem x135_157 {z : P0} : X z 135 157 = XI mT z (X z) (.aload_n 0, 1, 0, 0, 0, [], 0, 0) 135 157 := X_at (r := mi135) rfl rfl
theorem x135_158 {z : P0} : X z 135 158 = XI mT z (X z) (.iconst 0, 1, 0, 0, 0, [], nI 0, 0) 135 158 := X_at (r := mi135) rfl rfl
theorem x135_159 {z : P0} : X z 135 159 = XI mT z (X z) (.putfield 135, 3, 11, 3, 0, [151], 0, 0) 135 159 := X_at (r := mi135) rfl rfl
theorem x135_162 {z : P0} : X z 135 162 = XI mT z (X z) (.aload_n 0, 1, 0, 0, 0, [], 0, 0) 135 162 := X_at (r := mi135) rfl rfl
theorem x135_163 {z : P0} : X z 135 163 = XI mT z (X z) (.invokevirtual 150, 3, 0, 111, 0, [131], 0, 0) 135 163 := X_at (r := mi135) rfl rfl
theorem x135_166 {z : P0} : X z 135 166 = XI mT z (X z) (.ireturn, 1, 0, 0, 0, [], 0, 0) 135 166 := X_at (r := mi135) rfl rfl
theorem x136_0 {z : P0} : X z 136 0 = XI mT z (X z) (.aload_n 0, 1, 0, 0, 0, [], 0, 0) 136 0 := X_at (r := mi136) rfl rfl
theorem x136_1 {z : P0} : X z 136 1 = XI mT z (X z) (.aload_n 0, 1, 0, 0, 0, [], 0, 0) 136 1 := X_at (r := mi136) rfl rfl
theorem x136_2 {z : P0} : X z 136 2 = XI mT z (X z) (.iload_n 1, 1, 1, 0, 0, [], 0, 0) 136 2 := X_at (r := mi136) rfl rfl
theorem x136_3 {z : P0} : X z 136 3 = XI mT z (X z) (.invokevirtual 154, 3, 1, 108, 0, [132], 0, 0) 136 3 := X_at (r := mi136) rfl rfl
theorem x136_6 {z : P0} : X z 136 6 = XI mT z (X z) (.ifCond .ne 7, 3, 13, 0, 0, [], 0, 0) 136 6 := X_at (r := mi136) rfl rfl
theorem x136_9 {z : P0} : X z 136 9 = XI mT z (X z) (.iconst 1, 1, 0, 0, 0, [], nI 1, 0) 136 9 := X_at (r := mi136) rfl rfl
theorem x136_10 {z : P0} : X z 136 10 = XI mT z (X z) (.goto 18, 3, 28, 0, 0, [], 0, 0) 136 10 := X_at (r := mi136) rfl rfl
theorem x136_13 {z : P0} : X z 136 13 = XI mT z (X z) (.iload_n 2, 1, 2, 0, 0, [], 0, 0) 136 13 := X_at (r := mi136) rfl rfl
theorem x136_14 {z : P0} : X z 136 14 = XI mT z (X z) (.iconst 0, 1, 0, 0, 0, [], nI 0, 0) 136 14 := X_at (r := mi136) rfl rfl
theorem x136_15 {z : P0} : X z 136 15 = XI mT z (X z) (.bipush 19, 2, 0, 0, 0, [], nI 19, 0) 136 15 := X_at (r := mi136) rfl rfl
theorem x136_17 {z : P0} : X z 136 17 = XI mT z (X z) (.invokestatic 47, 3, 3, 106, 0, [107], 0, 0) 136 17 := X_at (r := mi136) rfl rfl
theorem x136_20 {z : P0} : X z 136 20 = XI mT z (X z) (.ifCond .eq 7, 3, 27, 0, 0, [], 0, 0) 136 20 := X_at (r := mi136) rfl rfl
theorem x136_23 {z : P0} : X z 136 23 = XI mT z (X z) (.iconst 0, 1, 0, 0, 0, [], nI 0, 0) 136 23 := X_at (r := mi136) rfl rfl
theorem x136_24 {z : P0} : X z 136 24 = XI mT z (X z) (.goto 4, 3, 28, 0, 0, [], 0, 0) 136 24 := X_at (r := mi136) rfl rfl
theorem x136_27 {z : P0} : X z 136 27 = XI mT z (X z) (.iconst 2, 1, 0, 0, 0, [], nI 2, 0) 136 27 := X_at (r := mi136) rfl rfl
theorem x136_28 {z : P0} : X z 136 28 = XI mT z (X z) (.putfield 40, 3, 11, 5, 0, [144], 0, 0) 136 28 := X_at (r := mi136) rfl rfl
theorem x136_31 {z : P0} : X z 136 31 = XI mT z (X z) (.aload_n 0, 1, 0, 0, 0, [], 0, 0) 136 31 := X_at (r := mi136) rfl rfl
theorem x136_32 {z : P0} : X z 136 32 = XI mT z (X z) (.getfield 40, 3, 11, 5, 0, [144], 0, 0) 136 32 := X_at (r := mi136) rfl rfl
theorem x136_35 {z : P0} : X z 136 35 = XI mT z (X z) (.ifCond .le 5, 3, 40, 0, 0, [], 0, 0) 136 35 := X_at (r := mi136) rfl rfl
theorem x136_38 {z : P0} : X z 136 38 = XI mT z (X z) (.iconst 0, 1, 0, 0, 0, [], nI 0, 0) 136 38 := X_at (r := mi136) rfl rfl
theorem x136_39 {z : P0} : X z 136 39 = XI mT z (X z) (.ireturn, 1, 0, 0, 0, [], 0, 0) 136 39 := X_at (r := mi136) rfl rfl
theorem x136_40 {z : P0} : X z 136 40 = XI mT z (X z) (.aload_n 0, 1, 0, 0, 0, [], 0, 0) 136 40 := X_at (r := mi136) rfl rfl
theorem x136_41 {z : P0} : X z 136 41 = XI mT z (X z) (.invokevirtual 141, 3, 0, 107, 0, [130], 0, 0) 136 41 := X_at (r := mi136) rfl rfl
theorem x136_44 {z : P0} : X z 136 44 = XI mT z (X z) (.aload_n 0, 1, 0, 0, 0, [], 0, 0) 136 44 := X_at (r := mi136) rfl rfl
theorem x136_45 {z : P0} : X z 136 45 = XI mT z (X z) (.getfield 7, 3, 11, 0, 3, [134], 0, 0) 136 45 := X_at (r := mi136) rfl rfl
theorem x136_48 {z : P0} : X z 136 48 = XI mT z (X z) (.bipush 13, 2, 0, 0, 0, [], nI 13, 0) 136 48 := X_at (r := mi136) rfl rfl
theorem x136_50 {z : P0} : X z 136 50 = XI mT z (X z) (.iload_n 1, 1, 1, 0, 0, [], 0, 0) 136 50 := X_at (r := mi136) rfl rfl
theorem x136_51 {z : P0} : X z 136 51 = XI mT z (X z) (.iadd, 1, 0, 0, 0, [], 0, 0) 136 51 := X_at (r := mi136) rfl rfl
theorem x136_52 {z : P0} : X z 136 52 = XI mT z (X z) (.iaload, 1, 0, 0, 0, [], 0, 0) 136 52 := X_at (r := mi136) rfl rfl
theorem x136_53 {z : P0} : X z 136 53 = XI mT z (X z) (.istore_n 3, 1, 3, 0, 0, [], 0, 0) 136 53 := X_at (r := mi136) rfl rfl
theorem x136_54 {z : P0} : X z 136 54 = XI mT z (X z) (.aload_n 0, 1, 0, 0, 0, [], 0, 0) 136 54 := X_at (r := mi136) rfl rfl
theorem x136_55 {z : P0} : X z 136 55 = XI mT z (X z) (.getfield 7, 3, 11, 0, 3, [134], 0, 0) 136 55 := X_at (r := mi136) rfl rfl
theorem x136_58 {z : P0} : X z 136 58 = XI mT z (X z) (.bipush 13, 2, 0, 0, 0, [], nI 13, 0) 136 58 := X_at (r := mi136) rfl rfl
theorem x136_60 {z : P0} : X z 136 60 = XI mT z (X z) (.iload_n 1, 1, 1, 0, 0, [], 0, 0) 136 60 := X_at (r := mi136) rfl rfl
theorem x136_61 {z : P0} : X z 136 61 = XI mT z (X z) (.iadd, 1, 0, 0, 0, [], 0, 0) 136 61 := X_at (r := mi136) rfl rfl
theorem x136_62 {z : P0} : X z 136 62 = XI mT z (X z) (.iload_n 2, 1, 2, 0, 0, [], 0, 0) 136 62 := X_at (r := mi136) rfl rfl
theorem x136_63 {z : P0} : X z 136 63 = XI mT z (X z) (.iastore, 1, 0, 0, 0, [], 0, 0) 136 63 := X_at (r := mi136) rfl rfl
theorem x136_64 {z : P0} : X z 136 64 = XI mT z (X z) (.iload_n 3, 1, 3, 0, 0, [], 0, 0) 136 64 := X_at (r := mi136) rfl rfl
theorem x136_65 {z : P0} : X z 136 65 = XI mT z (X z) (.ireturn, 1, 0, 0, 0, [], 0, 0) 136 65 := X_at (r := mi136) rfl rfl
theorem x137_0 {z : P0} : X z 137 0 = XI mT z (X z) (.aload_n 0, 1, 0, 0, 0, [], 0, 0) 137 0 := X_at (r := mi137) rfl rfl
theorem x137_1 {z : P0} : X z 137 1 = XI mT z (X z) (.aload_n 0, 1, 0, 0, 0, [], 0, 0) 137 1 := X_at (r := mi137) rfl rfl
theorem x137_2 {z : P0} : X z 137 2 = XI mT z (X z) (.iload_n 1, 1, 1, 0, 0, [], 0, 0) 137 2 := X_at (r := mi137) rfl rfl
theorem x137_3 {z : P0} : X z 137 3 = XI mT z (X z) (.invokevirtual 154, 3, 1, 108, 0, [132], 0, 0) 137 3 := X_at (r := mi137) rfl rfl
theorem x137_6 {z : P0} : X z 137 6 = XI mT z (X z) (.ifCond .eq 20, 3, 26, 0, 0, [], 0, 0) 137 6 := X_at (r := mi137) rfl rfl
theorem x137_9 {z : P0} : X z 137 9 = XI mT z (X z) (.iload_n 2, 1, 2, 0, 0, [], 0, 0) 137 9 := X_at (r := mi137) rfl rfl
theorem x137_10 {z : P0} : X z 137 10 = XI mT z (X z) (.iconst (-1), 1, 0, 0, 0, [], (-1), 0) 137 10 := X_at (r := mi137) rfl rfl
theorem x137_11 {z : P0} : X z 137 11 = XI mT z (X z) (.if_icmp .eq 11, 3, 22, 0, 0, [], 0, 0) 137 11 := X_at (r := mi137) rfl rfl
theorem x137_14 {z : P0} : X z 137 14 = XI mT z (X z) (.aload_n 0, 1, 0, 0, 0, [], 0, 0) 137 14 := X_at (r := mi137) rfl rfl
theorem x137_15 {z : P0} : X z 137 15 = XI mT z (X z) (.iload_n 2, 1, 2, 0, 0, [], 0, 0) 137 15 := X_at (r := mi137) rfl rfl
theorem x137_16 {z : P0} : X z 137 16 = XI mT z (X z) (.invokevirtual 157, 3, 1, 109, 0, [133], 0, 0) 137 16 := X_at (r := mi137) rfl rfl
theorem x137_19 {z : P0} : X z 137 19 = XI mT z (X z) (.ifCond .eq 7, 3, 26, 0, 0, [], 0, 0) 137 19 := X_at (r := mi137) rfl rfl
theorem x137_22 {z : P0} : X z 137 22 = XI mT z (X z) (.iconst 0, 1, 0, 0, 0, [], nI 0, 0) 137 22 := X_at (r := mi137) rfl rfl
theorem x137_23 {z : P0} : X z 137 23 = XI mT z (X z) (.goto 4, 3, 27, 0, 0, [], 0, 0) 137 23 := X_at (r := mi137) rfl rfl
theorem x137_26 {z : P0} : X z 137 26 = XI mT z (X z) (.iconst 1, 1, 0, 0, 0, [], nI 1, 0) 137 26 := X_at (r := mi137) rfl rfl
theorem x137_27 {z : P0} : X z 137 27 = XI mT z (X z) (.putfield 40, 3, 11, 5, 0, [144], 0, 0) 137 27 := X_at (r := mi137) rfl rfl
theorem x137_30 {z : P0} : X z 137 30 = XI mT z (X z) (.aload_n 0, 1, 0, 0, 0, [], 0, 0) 137 30 := X_at (r := mi137) rfl rfl
theorem x137_31 {z : P0} : X z 137 31 = XI mT z (X z) (.getfield 40, 3, 11, 5, 0, [144], 0, 0) 137 31 := X_at (r := mi137) rfl rfl
theorem x137_34 {z : P0} : X z 137 34 = XI mT z (X z) (.ifCond .le 5, 3, 39, 0, 0, [], 0, 0) 137 34 := X_at (r := mi137) rfl rfl
theorem x137_37 {z : P0} : X z 137 37 = XI mT z (X z) (.iconst 0, 1, 0, 0, 0, [], nI 0, 0) 137 37 := X_at (r := mi137) rfl rfl
theorem x137_38 {z : P0} : X z 137 38 = XI mT z (X z) (.ireturn, 1, 0, 0, 0, [], 0, 0) 137 38 := X_at (r := mi137) rfl rfl
theorem x137_39 {z : P0} : X z 137 39 = XI mT z (X z) (.aload_n 0, 1, 0, 0, 0, [], 0, 0) 137 39 := X_at (r := mi137) rfl rfl
theorem x137_40 {z : P0} : X z 137 40 = XI mT z (X z) (.invokevirtual 141, 3, 0, 107, 0, [130], 0, 0) 137 40 := X_at (r := mi137) rfl rfl
theorem x137_43 {z : P0} : X z 137 43 = XI mT z (X z) (.aload_n 0, 1, 0, 0, 0, [], 0, 0) 137 43 := X_at (r := mi137) rfl rfl
theorem x137_44 {z : P0} : X z 137 44 = XI mT z (X z) (.getfield 7, 3, 11, 0, 3, [134], 0, 0) 137 44 := X_at (r := mi137) rfl rfl
theorem x137_47 {z : P0} : X z 137 47 = XI mT z (X z) (.bipush 53, 2, 0, 0, 0, [], nI 53, 0) 137 47 := X_at (r := mi137) rfl rfl
theorem x137_49 {z : P0} : X z 137 49 = XI mT z (X z) (.iload_n 1, 1, 1, 0, 0, [], 0, 0) 137 49 := X_at (r := mi137) rfl rfl
theorem x137_50 {z : P0} : X z 137 50 = XI mT z (X z) (.iadd, 1, 0, 0, 0, [], 0, 0) 137 50 := X_at (r := mi137) rfl rfl
theorem x137_51 {z : P0} : X z 137 51 = XI mT z (X z) (.iaload, 1, 0, 0, 0, [], 0, 0) 137 51 := X_at (r := mi137) rfl rfl
theorem x137_52 {z : P0} : X z 137 52 = XI mT z (X z) (.istore_n 3, 1, 3, 0, 0, [], 0, 0) 137 52 := X_at (r := mi137) rfl rfl
theorem x137_53 {z : P0} : X z 137 53 = XI mT z (X z) (.aload_n 0, 1, 0, 0, 0, [], 0, 0) 137 53 := X_at (r := mi137) rfl rfl
theorem x137_54 {z : P0} : X z 137 54 = XI mT z (X z) (.getfield 7, 3, 11, 0, 3, [134], 0, 0) 137 54 := X_at (r := mi137) rfl rfl
theorem x137_57 {z : P0} : X z 137 57 = XI mT z (X z) (.bipush 53, 2, 0, 0, 0, [], nI 53, 0) 137 57 := X_at (r := mi137) rfl rfl
theorem x137_59 {z : P0} : X z 137 59 = XI mT z (X z) (.iload_n 1, 1, 1, 0, 0, [], 0, 0) 137 59 := X_at (r := mi137) rfl rfl
theorem x137_60 {z : P0} : X z 137 60 = XI mT z (X z) (.iadd, 1, 0, 0, 0, [], 0, 0) 137 60 := X_at (r := mi137) rfl rfl
theorem x137_61 {z : P0} : X z 137 61 = XI mT z (X z) (.iload_n 2, 1, 2, 0, 0, [], 0, 0) 137 61 := X_at (r := mi137) rfl rfl
theorem x137_62 {z : P0} : X z 137 62 = XI mT z (X z) (.iastore, 1, 0, 0, 0, [], 0, 0) 137 62 := X_at (r := mi137) rfl rfl
theorem x137_63 {z : P0} : X z 137 63 = XI mT z (X z) (.iload_n 3, 1, 3, 0, 0, [], 0, 0) 137 63 := X_at (r := mi137) rfl rfl
theorem x137_64 {z : P0} : X z 137 64 = XI mT z (X z) (.ireturn, 1, 0, 0, 0, [], 0, 0) 137 64 := X_at (r := mi137) rfl rfl
theorem x138_0 {z : P0} : X z 138 0 = XI mT z (X z) (.iconst 0, 1, 0, 0, 0, [], nI 0, 0) 138 0 := X_at (r := mi138) rfl rfl
theorem x138_1 {z : P0} : X z 138 1 = XI mT z (X z) (.istore_n 1, 1, 1, 0, 0, [], 0, 0) 138 1 := X_at (r := mi138) rfl rfl
theorem x138_2 {z : P0} : X z 138 2 = XI mT z (X z) (.iconst 0, 1, 0, 0, 0, [], nI 0, 0) 138 2 := X_at (r := mi138) rfl rfl
theorem x138_3 {z : P0} : X z 138 3 = XI mT z (X z) (.istore_n 2, 1, 2, 0, 0, [], 0, 0) 138 3 := X_at (r := mi138) rfl rfl
theorem x138_4 {z : P0} : X z 138 4 = XI mT z (X z) (.iload_n 2, 1, 2, 0, 0, [], 0, 0) 138 4 := X_at (r := mi138) rfl rfl
theorem x138_5 {z : P0} : X z 138 5 = XI mT z (X z) (.aload_n 0, 1, 0, 0, 0, [], 0, 0) 138 5 := X_at (r := mi138) rfl rfl
theorem x138_6 {z : P0} : X z 138 6 = XI mT z (X z) (.getfield 7, 3, 11, 0, 3, [134], 0, 0) 138 6 := X_at (r := mi138) rfl rfl
theorem x138_9 {z : P0} : X z 138 9 = XI mT z (X z) (.bipush 6, 2, 0, 0, 0, [], nI 6, 0) 138 9 := X_at (r := mi138) rfl rfl
theorem x138_11 {z : P0} : X z 138 11 = XI mT z (X z) (.iaload, 1, 0, 0, 0, [], 0, 0) 138 11 := X_at (r := mi138) rfl rfl
theorem x138_12 {z : P0} : X z 138 12 = XI mT z (X z) (.if_icmp .ge 21, 3, 33, 0, 0, [], 0, 0) 138 12 := X_at (r := mi138) rfl rfl
theorem x138_15 {z : P0} : X z 138 15 = XI mT z (X z) (.iload_n 1, 1, 1, 0, 0, [], 0, 0) 138 15 := X_at (r := mi138) rfl rfl
theorem x138_16 {z : P0} : X z 138 16 = XI mT z (X z) (.aload_n 0, 1, 0, 0, 0, [], 0, 0) 138 16 := X_at (r := mi138) rfl rfl
theorem x138_17 {z : P0} : X z 138 17 = XI mT z (X z) (.getfield 7, 3, 11, 0, 3, [134], 0, 0) 138 17 := X_at (r := mi138) rfl rfl
theorem x138_20 {z : P0} : X z 138 20 = XI mT z (X z) (.bipush 73, 2, 0, 0, 0, [], nI 73, 0) 138 20 := X_at (r := mi138) rfl rfl
theorem x138_22 {z : P0} : X z 138 22 = XI mT z (X z) (.iload_n 2, 1, 2, 0, 0, [], 0, 0) 138 22 := X_at (r := mi138) rfl rfl
theorem x138_23 {z : P0} : X z 138 23 = XI mT z (X z) (.iadd, 1, 0, 0, 0, [], 0, 0) 138 23 := X_at (r := mi138) rfl rfl
theorem x138_24 {z : P0} : X z 138 24 = XI mT z (X z) (.iaload, 1, 0, 0, 0, [], 0, 0) 138 24 := X_at (r := mi138) rfl rfl
theorem x138_25 {z : P0} : X z 138 25 = XI mT z (X z) (.iadd, 1, 0, 0, 0, [], 0, 0) 138 25 := X_at (r := mi138) rfl rfl
theorem x138_26 {z : P0} : X z 138 26 = XI mT z (X z) (.istore_n 1, 1, 1, 0, 0, [], 0, 0) 138 26 := X_at (r := mi138) rfl rfl
theorem x138_27 {z : P0} : X z 138 27 = XI mT z (X z) (.iinc 2 1, 3, 2, 0, 0, [], nI 1, 0) 138 27 := X_at (r := mi138) rfl rfl
theorem x138_30 {z : P0} : X z 138 30 = XI mT z (X z) (.goto (-26), 3, 4, 0, 0, [], 0, 0) 138 30 := X_at (r := mi138) rfl rfl
theorem x138_33 {z : P0} : X z 138 33 = XI mT z (X z) (.iload_n 1, 1, 1, 0, 0, [], 0, 0) 138 33 := X_at (r := mi138) rfl rfl
theorem x138_34 {z : P0} : X z 138 34 = XI mT z (X z) (.ireturn, 1, 0, 0, 0, [], 0, 0) 138 34 := X_at (r := mi138) rfl rfl
theorem x139_0 {z : P0} : X z 139 0 = XI mT z (X z) (.aload_n 0, 1, 0, 0, 0, [], 0, 0) 139 0 := X_at (r := mi139) rfl rfl
theorem x139_1 {z : P0} : X z 139 1 = XI mT z (X z) (.aload_n 0, 1, 0, 0, 0, [], 0, 0) 139 1 := X_at (r := mi139) rfl rfl
theorem x139_2 {z : P0} : X z 139 2 = XI mT z (X z) (.iload_n 1, 1, 1, 0, 0, [], 0, 0) 139 2 := X_at (r := mi139) rfl rfl
theorem x139_3 {z : P0} : X z 139 3 = XI mT z (X z) (.invokevirtual 154, 3, 1, 108, 0, [132], 0, 0) 139 3 := X_at (r := mi139) rfl rfl
theorem x139_6 {z : P0} : X z 139 6 = XI mT z (X z) (.ifCond .eq 7, 3, 13, 0, 0, [], 0, 0) 139 6 := X_at (r := mi139) rfl rfl
theorem x139_9 {z : P0} : X z 139 9 = XI mT z (X z) (.iconst 0, 1, 0, 0, 0, [], nI 0, 0) 139 9 := X_at (r := mi139) rfl rfl
theorem x139_10 {z : P0} : X z 139 10 = XI mT z (X z) (.goto 4, 3, 14, 0, 0, [], 0, 0) 139 10 := X_at (r := mi139) rfl rfl
theorem x139_13 {z : P0} : X z 139 13 = XI mT z (X z) (.iconst 1, 1, 0, 0, 0, [], nI 1, 0) 139 13 := X_at (r := mi139) rfl rfl
theorem x139_14 {z : P0} : X z 139 14 = XI mT z (X z) (.putfield 40, 3, 11, 5, 0, [144], 0, 0) 139 14 := X_at (r := mi139) rfl rfl
theorem x139_17 {z : P0} : X z 139 17 = XI mT z (X z) (.aload_n 0, 1, 0, 0, 0, [], 0, 0) 139 17 := X_at (r := mi139) rfl rfl
theorem x139_18 {z : P0} : X z 139 18 = XI mT z (X z) (.getfield 40, 3, 11, 5, 0, [144], 0, 0) 139 18 := X_at (r := mi139) rfl rfl
theorem x139_21 {z : P0} : X z 139 21 = XI mT z (X z) (.ifCond .le 5, 3, 26, 0, 0, [], 0, 0) 139 21 := X_at (r := mi139) rfl rfl
theorem x139_24 {z : P0} : X z 139 24 = XI mT z (X z) (.iconst 0, 1, 0, 0, 0, [], nI 0, 0) 139 24 := X_at (r := mi139) rfl rfl
theorem x139_25 {z : P0} : X z 139 25 = XI mT z (X z) (.ireturn, 1, 0, 0, 0, [], 0, 0) 139 25 := X_at (r := mi139) rfl rfl
theorem x139_26 {z : P0} : X z 139 26 = XI mT z (X z) (.aload_n 0, 1, 0, 0, 0, [], 0, 0) 139 26 := X_at (r := mi139) rfl rfl
theorem x139_27 {z : P0} : X z 139 27 = XI mT z (X z) (.invokevirtual 141, 3, 0, 107, 0, [130], 0, 0) 139 27 := X_at (r := mi139) rfl rfl
theorem x139_30 {z : P0} : X z 139 30 = XI mT z (X z) (.aload_n 0, 1, 0, 0, 0, [], 0, 0) 139 30 := X_at (r := mi139) rfl rfl
theorem x139_31 {z : P0} : X z 139 31 = XI mT z (X z) (.getfield 7, 3, 11, 0, 3, [134], 0, 0) 139 31 := X_at (r := mi139) rfl rfl
theorem x139_34 {z : P0} : X z 139 34 = XI mT z (X z) (.bipush 73, 2, 0, 0, 0, [], nI 73, 0) 139 34 := X_at (r := mi139) rfl rfl
theorem x139_36 {z : P0} : X z 139 36 = XI mT z (X z) (.iload_n 1, 1, 1, 0, 0, [], 0, 0) 139 36 := X_at (r := mi139) rfl rfl
theorem x139_37 {z : P0} : X z 139 37 = XI mT z (X z) (.iadd, 1, 0, 0, 0, [], 0, 0) 139 37 := X_at (r := mi139) rfl rfl
theorem x139_38 {z : P0} : X z 139 38 = XI mT z (X z) (.iload_n 2, 1, 2, 0, 0, [], 0, 0) 139 38 := X_at (r := mi139) rfl rfl
theorem x139_39 {z : P0} : X z 139 39 = XI mT z (X z) (.ifCond .eq 7, 3, 46, 0, 0, [], 0, 0) 139 39 := X_at (r := mi139) rfl rfl
theorem x139_42 {z : P0} : X z 139 42 = XI mT z (X z) (.iconst 1, 1, 0, 0, 0, [], nI 1, 0) 139 42 := X_at (r := mi139) rfl rfl
theorem x139_43 {z : P0} : X z 139 43 = XI mT z (X z) (.goto 4, 3, 47, 0, 0, [], 0, 0) 139 43 := X_at (r := mi139) rfl rfl
theorem x139_46 {z : P0} : X z 139 46 = XI mT z (X z) (.iconst 0, 1, 0, 0, 0, [], nI 0, 0) 139 46 := X_at (r := mi139) rfl rfl
theorem x139_47 {z : P0} : X z 139 47 = XI mT z (X z) (.iastore, 1, 0, 0, 0, [], 0, 0) 139 47 := X_at (r := mi139) rfl rfl
theorem x139_48 {z : P0} : X z 139 48 = XI mT z (X z) (.aload_n 0, 1, 0, 0, 0, [], 0, 0) 139 48 := X_at (r := mi139) rfl rfl
theorem x139_49 {z : P0} : X z 139 49 = XI mT z (X z) (.invokevirtual 160, 3, 0, 138, 0, [134], 0, 0) 139 49 := X_at (r := mi139) rfl rfl
theorem x139_52 {z : P0} : X z 139 52 = XI mT z (X z) (.ireturn, 1, 0, 0, 0, [], 0, 0) 139 52 := X_at (r := mi139) rfl rfl
theorem x140_0 {z : P0} : X z 140 0 = XI mT z (X z) (.iload_n 0, 1, 0, 0, 0, [], 0, 0) 140 0 := X_at (r := mi140) rfl rfl
theorem x140_1 {z : P0} : X z 140 1 = XI mT z (X z) (.iconst 0, 1, 0, 0, 0, [], nI 0, 0) 140 1 := X_at (r := mi140) rfl rfl
theorem x140_2 {z : P0} : X z 140 2 = XI mT z (X z) (.iconst 5, 1, 0, 0, 0, [], nI 5, 0) 140 2 := X_at (r := mi140) rfl rfl
theorem x140_3 {z : P0} : X z 140 3 = XI mT z (X z) (.invokestatic 47, 3, 3, 106, 0, [107], 0, 0) 140 3 := X_at (r := mi140) rfl rfl
theorem x140_6 {z : P0} : X z 140 6 = XI mT z (X z) (.ireturn, 1, 0, 0, 0, [], 0, 0) 140 6 := X_at (r := mi140) rfl rfl
theorem x141_0 {z : P0} : X z 141 0 = XI mT z (X z) (.iload_n 0, 1, 0, 0, 0, [], 0, 0) 141 0 := X_at (r := mi141) rfl rfl
theorem x141_1 {z : P0} : X z 141 1 = XI mT z (X z) (.tableswitch 67 0 4 #[35, 67, 43, 51, 59], 35, 68, 0, 0, [36, 68, 44, 52, 60], 0, 0) 141 1 := X_at (r := mi141) rfl rfl
theorem x141_36 {z : P0} : X z 141 36 = XI mT z (X z) (.iload_n 1, 1, 1, 0, 0, [], 0, 0) 141 36 := X_at (r := mi141) rfl rfl
theorem x141_37 {z : P0} : X z 141 37 = XI mT z (X z) (.iconst 5, 1, 0, 0, 0, [], nI 5, 0) 141 37 := X_at (r := mi141) rfl rfl
theorem x141_38 {z : P0} : X z 141 38 = XI mT z (X z) (.bipush 40, 2, 0, 0, 0, [], nI 40, 0) 141 38 := X_at (r := mi141) rfl rfl
theorem x141_40 {z : P0} : X z 141 40 = XI mT z (X z) (.invokestatic 47, 3, 3, 106, 0, [107], 0, 0) 141 40 := X_at (r := mi141) rfl rfl
theorem x141_43 {z : P0} : X z 141 43 = XI mT z (X z) (.ireturn, 1, 0, 0, 0, [], 0, 0) 141 43 := X_at (r := mi141) rfl rfl
theorem x141_44 {z : P0} : X z 141 44 = XI mT z (X z) (.iload_n 1, 1, 1, 0, 0, [], 0, 0) 141 44 := X_at (r := mi141) rfl rfl
theorem x141_45 {z : P0} : X z 141 45 = XI mT z (X z) (.iconst 1, 1, 0, 0, 0, [], nI 1, 0) 141 45 := X_at (r := mi141) rfl rfl
theorem x141_46 {z : P0} : X z 141 46 = XI mT z (X z) (.bipush 6, 2, 0, 0, 0, [], nI 6, 0) 141 46 := X_at (r := mi141) rfl rfl
theorem x141_48 {z : P0} : X z 141 48 = XI mT z (X z) (.invokestatic 47, 3, 3, 106, 0, [107], 0, 0) 141 48 := X_at (r := mi141) rfl rfl
theorem x141_51 {z : P0} : X z 141 51 = XI mT z (X z) (.ireturn, 1, 0, 0, 0, [], 0, 0) 141 51 := X_at (r := mi141) rfl rfl
theorem x141_52 {z : P0} : X z 141 52 = XI mT z (X z) (.iload_n 1, 1, 1, 0, 0, [], 0, 0) 141 52 := X_at (r := mi141) rfl rfl
theorem x141_53 {z : P0} : X z 141 53 = XI mT z (X z) (.iconst 0, 1, 0, 0, 0, [], nI 0, 0) 141 53 := X_at (r := mi141) rfl rfl
theorem x141_54 {z : P0} : X z 141 54 = XI mT z (X z) (.bipush 30, 2, 0, 0, 0, [], nI 30, 0) 141 54 := X_at (r := mi141) rfl rfl
theorem x141_56 {z : P0} : X z 141 56 = XI mT z (X z) (.invokestatic 47, 3, 3, 106, 0, [107], 0, 0) 141 56 := X_at (r := mi141) rfl rfl
theorem x141_59 {z : P0} : X z 141 59 = XI mT z (X z) (.ireturn, 1, 0, 0, 0, [], 0, 0) 141 59 := X_at (r := mi141) rfl rfl
theorem x141_60 {z : P0} : X z 141 60 = XI mT z (X z) (.iload_n 1, 1, 1, 0, 0, [], 0, 0) 141 60 := X_at (r := mi141) rfl rfl
theorem x141_61 {z : P0} : X z 141 61 = XI mT z (X z) (.iconst 1, 1, 0, 0, 0, [], nI 1, 0) 141 61 := X_at (r := mi141) rfl rfl
theorem x141_62 {z : P0} : X z 141 62 = XI mT z (X z) (.bipush 9, 2, 0, 0, 0, [], nI 9, 0) 141 62 := X_at (r := mi141) rfl rfl
theorem x141_64 {z : P0} : X z 141 64 = XI mT z (X z) (.invokestatic 47, 3, 3, 106, 0, [107], 0, 0) 141 64 := X_at (r := mi141) rfl rfl
theorem x141_67 {z : P0} : X z 141 67 = XI mT z (X z) (.ireturn, 1, 0, 0, 0, [], 0, 0) 141 67 := X_at (r := mi141) rfl rfl
theorem x141_68 {z : P0} : X z 141 68 = XI mT z (X z) (.iload_n 1, 1, 1, 0, 0, [], 0, 0) 141 68 := X_at (r := mi141) rfl rfl
theorem x141_69 {z : P0} : X z 141 69 = XI mT z (X z) (.iconst 1, 1, 0, 0, 0, [], nI 1, 0) 141 69 := X_at (r := mi141) rfl rfl
theorem x141_70 {z : P0} : X z 141 70 = XI mT z (X z) (.bipush 20, 2, 0, 0, 0, [], nI 20, 0) 141 70 := X_at (r := mi141) rfl rfl
theorem x141_72 {z : P0} : X z 141 72 = XI mT z (X z) (.invokestatic 47, 3, 3, 106, 0, [107], 0, 0) 141 72 := X_at (r := mi141) rfl rfl
theorem x141_75 {z : P0} : X z 141 75 = XI mT z (X z) (.ireturn, 1, 0, 0, 0, [], 0, 0) 141 75 := X_at (r := mi141) rfl rfl
theorem x142_0 {z : P0} : X z 142 0 = XI mT z (X z) (.aload_n 0, 1, 0, 0, 0, [], 0, 0) 142 0 := X_at (r := mi142) rfl rfl
theorem x142_1 {z : P0} : X z 142 1 = XI mT z (X z) (.iload_n 1, 1, 1, 0, 0, [], 0, 0) 142 1 := X_at (r := mi142) rfl rfl
theorem x142_2 {z : P0} : X z 142 2 = XI mT z (X z) (.invokestatic 163, 3, 1, 140, 0, [135], 0, 0) 142 2 := X_at (r := mi142) rfl rfl
theorem x142_5 {z : P0} : X z 142 5 = XI mT z (X z) (.ifCond .ne 7, 3, 12, 0, 0, [], 0, 0) 142 5 := X_at (r := mi142) rfl rfl
theorem x142_8 {z : P0} : X z 142 8 = XI mT z (X z) (.iconst 1, 1, 0, 0, 0, [], nI 1, 0) 142 8 := X_at (r := mi142) rfl rfl
theorem x142_9 {z : P0} : X z 142 9 = XI mT z (X z) (.goto 16, 3, 25, 0, 0, [], 0, 0) 142 9 := X_at (r := mi142) rfl rfl
theorem x142_12 {z : P0} : X z 142 12 = XI mT z (X z) (.iload_n 1, 1, 1, 0, 0, [], 0, 0) 142 12 := X_at (r := mi142) rfl rfl
theorem x142_13 {z : P0} : X z 142 13 = XI mT z (X z) (.iload_n 2, 1, 2, 0, 0, [], 0, 0) 142 13 := X_at (r := mi142) rfl rfl
theorem x142_14 {z : P0} : X z 142 14 = XI mT z (X z) (.invokestatic 166, 3, 2, 141, 0, [136], 0, 0) 142 14 := X_at (r := mi142) rfl rfl
theorem x142_17 {z : P0} : X z 142 17 = XI mT z (X z) (.ifCond .eq 7, 3, 24, 0, 0, [], 0, 0) 142 17 := X_at (r := mi142) rfl rfl
theorem x142_20 {z : P0} : X z 142 20 = XI mT z (X z) (.iconst 0, 1, 0, 0, 0, [], nI 0, 0) 142 20 := X_at (r := mi142) rfl rfl
theorem x142_21 {z : P0} : X z 142 21 = XI mT z (X z) (.goto 4, 3, 25, 0, 0, [], 0, 0) 142 21 := X_at (r := mi142) rfl rfl
theorem x142_24 {z : P0} : X z 142 24 = XI mT z (X z) (.iconst 2, 1, 0, 0, 0, [], nI 2, 0) 142 24 := X_at (r := mi142) rfl rfl
theorem x142_25 {z : P0} : X z 142 25 = XI mT z (X z) (.putfield 40, 3, 11, 5, 0, [144], 0, 0) 142 25 := X_at (r := mi142) rfl rfl
theorem x142_28 {z : P0} : X z 142 28 = XI mT z (X z) (.aload_n 0, 1, 0, 0, 0, [], 0, 0) 142 28 := X_at (r := mi142) rfl rfl
theorem x142_29 {z : P0} : X z 142 29 = XI mT z (X z) (.getfield 40, 3, 11, 5, 0, [144], 0, 0) 142 29 := X_at (r := mi142) rfl rfl
theorem x142_32 {z : P0} : X z 142 32 = XI mT z (X z) (.ifCond .le 5, 3, 37, 0, 0, [], 0, 0) 142 32 := X_at (r := mi142) rfl rfl
theorem x142_35 {z : P0} : X z 142 35 = XI mT z (X z) (.iconst 0, 1, 0, 0, 0, [], nI 0, 0) 142 35 := X_at (r := mi142) rfl rfl
theorem x142_36 {z : P0} : X z 142 36 = XI mT z (X z) (.ireturn, 1, 0, 0, 0, [], 0, 0) 142 36 := X_at (r := mi142) rfl rfl
theorem x142_37 {z : P0} : X z 142 37 = XI mT z (X z) (.aload_n 0, 1, 0, 0, 0, [], 0, 0) 142 37 := X_at (r := mi142) rfl rfl
theorem x142_38 {z : P0} : X z 142 38 = XI mT z (X z) (.invokevirtual 141, 3, 0, 107, 0, [130], 0, 0) 142 38 := X_at (r := mi142) rfl rfl
theorem x142_41 {z : P0} : X z 142 41 = XI mT z (X z) (.aload_n 0, 1, 0, 0, 0, [], 0, 0) 142 41 := X_at (r := mi142) rfl rfl
theorem x142_42 {z : P0} : X z 142 42 = XI mT z (X z) (.getfield 7, 3, 11, 0, 3, [134], 0, 0) 142 42 := X_at (r := mi142) rfl rfl
theorem x142_45 {z : P0} : X z 142 45 = XI mT z (X z) (.iconst 0, 1, 0, 0, 0, [], nI 0, 0) 142 45 := X_at (r := mi142) rfl rfl
theorem x142_46 {z : P0} : X z 142 46 = XI mT z (X z) (.iload_n 1, 1, 1, 0, 0, [], 0, 0) 142 46 := X_at (r := mi142) rfl rfl
theorem x142_47 {z : P0} : X z 142 47 = XI mT z (X z) (.iadd, 1, 0, 0, 0, [], 0, 0) 142 47 := X_at (r := mi142) rfl rfl
theorem x142_48 {z : P0} : X z 142 48 = XI mT z (X z) (.iaload, 1, 0, 0, 0, [], 0, 0) 142 48 := X_at (r := mi142) rfl rfl
theorem x142_49 {z : P0} : X z 142 49 = XI mT z (X z) (.istore_n 3, 1, 3, 0, 0, [], 0, 0) 142 49 := X_at (r := mi142) rfl rfl
theorem x142_50 {z : P0} : X z 142 50 = XI mT z (X z) (.aload_n 0, 1, 0, 0, 0, [], 0, 0) 142 50 := X_at (r := mi142) rfl rfl
theorem x142_51 {z : P0} : X z 142 51 = XI mT z (X z) (.getfield 7, 3, 11, 0, 3, [134], 0, 0) 142 51 := X_at (r := mi142) rfl rfl
theorem x142_54 {z : P0} : X z 142 54 = XI mT z (X z) (.iconst 0, 1, 0, 0, 0, [], nI 0, 0) 142 54 := X_at (r := mi142) rfl rfl
theorem x142_55 {z : P0} : X z 142 55 = XI mT z (X z) (.iload_n 1, 1, 1, 0, 0, [], 0, 0) 142 55 := X_at (r := mi142) rfl rfl
theorem x142_56 {z : P0} : X z 142 56 = XI mT z (X z) (.iadd, 1, 0, 0, 0, [], 0, 0) 142 56 := X_at (r := mi142) rfl rfl
theorem x142_57 {z : P0} : X z 142 57 = XI mT z (X z) (.iload_n 2, 1, 2, 0, 0, [], 0, 0) 142 57 := X_at (r := mi142) rfl rfl
theorem x142_58 {z : P0} : X z 142 58 = XI mT z (X z) (.iastore, 1, 0, 0, 0, [], 0, 0) 142 58 := X_at (r := mi142) rfl rfl
theorem x142_59 {z : P0} : X z 142 59 = XI mT z (X z) (.iload_n 3, 1, 3, 0, 0, [], 0, 0) 142 59 := X_at (r := mi142) rfl rfl
theorem x142_60 {z : P0} : X z 142 60 = XI mT z (X z) (.ireturn, 1, 0, 0, 0, [], 0, 0) 142 60 := X_at (r := mi142) rfl rfl
theorem x143_0 {z : P0} : X z 143 0 = XI mT z (X z) (.aload_n 0, 1, 0, 0, 0, [], 0, 0) 143 0 := X_at (r := mi143) rfl rfl
theorem x143_1 {z : P0} : X z 143 1 = XI mT z (X z) (.invokevirtual 170, 3, 0, 130, 0, [137], 0, 0) 143 1 := X_at (r := mi143) rfl rfl
theorem x143_4 {z : P0} : X z 143 4 = XI mT z (X z) (.aload_n 0, 1, 0, 0, 0, [], 0, 0) 143 4 := X_at (r := mi143) rfl rfl
theorem x143_5 {z : P0} : X z 143 5 = XI mT z (X z) (.aload_n 0, 1, 0, 0, 0, [], 0, 0) 143 5 := X_at (r := mi143) rfl rfl
theorem x143_6 {z : P0} : X z 143 6 = XI mT z (X z) (.getfield 7, 3, 11, 0, 3, [134], 0, 0) 143 6 := X_at (r := mi143) rfl rfl
theorem x143_9 {z : P0} : X z 143 9 = XI mT z (X z) (.bipush 12, 2, 0, 0, 0, [], nI 12, 0) 143 9 := X_at (r := mi143) rfl rfl
theorem x143_11 {z : P0} : X z 143 11 = XI mT z (X z) (.iaload, 1, 0, 0, 0, [], 0, 0) 143 11 := X_at (r := mi143) rfl rfl
theorem x143_12 {z : P0} : X z 143 12 = XI mT z (X z) (.ifCond .eq 11, 3, 23, 0, 0, [], 0, 0) 143 12 := X_at (r := mi143) rfl rfl
theorem x143_15 {z : P0} : X z 143 15 = XI mT z (X z) (.aload_n 0, 1, 0, 0, 0, [], 0, 0) 143 15 := X_at (r := mi143) rfl rfl
theorem x143_16 {z : P0} : X z 143 16 = XI mT z (X z) (.iconst 0, 1, 0, 0, 0, [], nI 0, 0) 143 16 := X_at (r := mi143) rfl rfl
theorem x143_17 {z : P0} : X z 143 17 = XI mT z (X z) (.invokevirtual 173, 3, 1, 132, 0, [138], 0, 0) 143 17 := X_at (r := mi143) rfl rfl
theorem x143_20 {z : P0} : X z 143 20 = XI mT z (X z) (.ifCond .ne 7, 3, 27, 0, 0, [], 0, 0) 143 20 := X_at (r := mi143) rfl rfl
theorem x143_23 {z : P0} : X z 143 23 = XI mT z (X z) (.iconst 1, 1, 0, 0, 0, [], nI 1, 0) 143 23 := X_at (r := mi143) rfl rfl
theorem x143_24 {z : P0} : X z 143 24 = XI mT z (X z) (.goto 4, 3, 28, 0, 0, [], 0, 0) 143 24 := X_at (r := mi143) rfl rfl
theorem x143_27 {z : P0} : X z 143 27 = XI mT z (X z) (.iconst 0, 1, 0, 0, 0, [], nI 0, 0) 143 27 := X_at (r := mi143) rfl rfl
theorem x143_28 {z : P0} : X z 143 28 = XI mT z (X z) (.putfield 40, 3, 11, 5, 0, [144], 0, 0) 143 28 := X_at (r := mi143) rfl rfl
theorem x143_31 {z : P0} : X z 143 31 = XI mT z (X z) (.aload_n 0, 1, 0, 0, 0, [], 0, 0) 143 31 := X_at (r := mi143) rfl rfl
theorem x143_32 {z : P0} : X z 143 32 = XI mT z (X z) (.getfield 40, 3, 11, 5, 0, [144], 0, 0) 143 32 := X_at (r := mi143) rfl rfl
theorem x143_35 {z : P0} : X z 143 35 = XI mT z (X z) (.ifCond .le 5, 3, 40, 0, 0, [], 0, 0) 143 35 := X_at (r := mi143) rfl rfl
theorem x143_38 {z : P0} : X z 143 38 = XI mT z (X z) (.iconst 0, 1, 0, 0, 0, [], nI 0, 0) 143 38 := X_at (r := mi143) rfl rfl
theorem x143_39 {z : P0} : X z 143 39 = XI mT z (X z) (.ireturn, 1, 0, 0, 0, [], 0, 0) 143 39 := X_at (r := mi143) rfl rfl
theorem x143_40 {z : P0} : X z 143 40 = XI mT z (X z) (.aload_n 0, 1, 0, 0, 0, [], 0, 0) 143 40 := X_at (r := mi143) rfl rfl
theorem x143_41 {z : P0} : X z 143 41 = XI mT z (X z) (.invokevirtual 141, 3, 0, 107, 0, [130], 0, 0) 143 41 := X_at (r := mi143) rfl rfl
theorem x143_44 {z : P0} : X z 143 44 = XI mT z (X z) (.aload_n 0, 1, 0, 0, 0, [], 0, 0) 143 44 := X_at (r := mi143) rfl rfl
theorem x143_45 {z : P0} : X z 143 45 = XI mT z (X z) (.iconst 0, 1, 0, 0, 0, [], nI 0, 0) 143 45 := X_at (r := mi143) rfl rfl
theorem x143_46 {z : P0} : X z 143 46 = XI mT z (X z) (.invokevirtual 173, 3, 1, 132, 0, [138], 0, 0) 143 46 := X_at (r := mi143) rfl rfl
theorem x143_49 {z : P0} : X z 143 49 = XI mT z (X z) (.istore_n 1, 1, 1, 0, 0, [], 0, 0) 143 49 := X_at (r := mi143) rfl rfl
theorem x143_50 {z : P0} : X z 143 50 = XI mT z (X z) (.aload_n 0, 1, 0, 0, 0, [], 0, 0) 143 50 := X_at (r := mi143) rfl rfl
theorem x143_51 {z : P0} : X z 143 51 = XI mT z (X z) (.getfield 7, 3, 11, 0, 3, [134], 0, 0) 143 51 := X_at (r := mi143) rfl rfl
theorem x143_54 {z : P0} : X z 143 54 = XI mT z (X z) (.bipush 9, 2, 0, 0, 0, [], nI 9, 0) 143 54 := X_at (r := mi143) rfl rfl
theorem x143_56 {z : P0} : X z 143 56 = XI mT z (X z) (.dup2, 1, 0, 0, 0, [], 0, 0) 143 56 := X_at (r := mi143) rfl rfl
theorem x143_57 {z : P0} : X z 143 57 = XI mT z (X z) (.iaload, 1, 0, 0, 0, [], 0, 0) 143 57 := X_at (r := mi143) rfl rfl
theorem x143_58 {z : P0} : X z 143 58 = XI mT z (X z) (.iload_n 1, 1, 1, 0, 0, [], 0, 0) 143 58 := X_at (r := mi143) rfl rfl
theorem x143_59 {z : P0} : X z 143 59 = XI mT z (X z) (.iadd, 1, 0, 0, 0, [], 0, 0) 143 59 := X_at (r := mi143) rfl rfl
theorem x143_60 {z : P0} : X z 143 60 = XI mT z (X z) (.iastore, 1, 0, 0, 0, [], 0, 0) 143 60 := X_at (r := mi143) rfl rfl
theorem x143_61 {z : P0} : X z 143 61 = XI mT z (X z) (.aload_n 0, 1, 0, 0, 0, [], 0, 0) 143 61 := X_at (r := mi143) rfl rfl
theorem x143_62 {z : P0} : X z 143 62 = XI mT z (X z) (.getfield 7, 3, 11, 0, 3, [134], 0, 0) 143 62 := X_at (r := mi143) rfl rfl
theorem x143_65 {z : P0} : X z 143 65 = XI mT z (X z) (.bipush 10, 2, 0, 0, 0, [], nI 10, 0) 143 65 := X_at (r := mi143) rfl rfl
theorem x143_67 {z : P0} : X z 143 67 = XI mT z (X z) (.dup2, 1, 0, 0, 0, [], 0, 0) 143 67 := X_at (r := mi143) rfl rfl
theorem x143_68 {z : P0} : X z 143 68 = XI mT z (X z) (.iaload, 1, 0, 0, 0, [], 0, 0) 143 68 := X_at (r := mi143) rfl rfl
theorem x143_69 {z : P0} : X z 143 69 = XI mT z (X z) (.aload_n 0, 1, 0, 0, 0, [], 0, 0) 143 69 := X_at (r := mi143) rfl rfl
theorem x143_70 {z : P0} : X z 143 70 = XI mT z (X z) (.iconst 2, 1, 0, 0, 0, [], nI 2, 0) 143 70 := X_at (r := mi143) rfl rfl
theorem x143_71 {z : P0} : X z 143 71 = XI mT z (X z) (.invokevirtual 173, 3, 1, 132, 0, [138], 0, 0) 143 71 := X_at (r := mi143) rfl rfl
theorem x143_74 {z : P0} : X z 143 74 = XI mT z (X z) (.iadd, 1, 0, 0, 0, [], 0, 0) 143 74 := X_at (r := mi143) rfl rfl
theorem x143_75 {z : P0} : X z 143 75 = XI mT z (X z) (.iastore, 1, 0, 0, 0, [], 0, 0) 143 75 := X_at (r := mi143) rfl rfl
theorem x143_76 {z : P0} : X z 143 76 = XI mT z (X z) (.aload_n 0, 1, 0, 0, 0, [], 0, 0) 143 76 := X_at (r := mi143) rfl rfl
theorem x143_77 {z : P0} : X z 143 77 = XI mT z (X z) (.getfield 7, 3, 11, 0, 3, [134], 0, 0) 143 77 := X_at (r := mi143) rfl rfl
theorem x143_80 {z : P0} : X z 143 80 = XI mT z (X z) (.bipush 11, 2, 0, 0, 0, [], nI 11, 0) 143 80 := X_at (r := mi143) rfl rfl
theorem x143_82 {z : P0} : X z 143 82 = XI mT z (X z) (.dup2, 1, 0, 0, 0, [], 0, 0) 143 82 := X_at (r := mi143) rfl rfl
theorem x143_83 {z : P0} : X z 143 83 = XI mT z (X z) (.iaload, 1, 0, 0, 0, [], 0, 0) 143 83 := X_at (r := mi143) rfl rfl
theorem x143_84 {z : P0} : X z 143 84 = XI mT z (X z) (.aload_n 0, 1, 0, 0, 0, [], 0, 0) 143 84 := X_at (r := mi143) rfl rfl
theorem x143_85 {z : P0} : X z 143 85 = XI mT z (X z) (.iconst 3, 1, 0, 0, 0, [], nI 3, 0) 143 85 := X_at (r := mi143) rfl rfl
theorem x143_86 {z : P0} : X z 143 86 = XI mT z (X z) (.invokevirtual 173, 3, 1, 132, 0, [138], 0, 0) 143 86 := X_at (r := mi143) rfl rfl
theorem x143_89 {z : P0} : X z 143 89 = XI mT z (X z) (.iadd, 1, 0, 0, 0, [], 0, 0) 143 89 := X_at (r := mi143) rfl rfl
theorem x143_90 {z : P0} : X z 143 90 = XI mT z (X z) (.iastore, 1, 0, 0, 0, [], 0, 0) 143 90 := X_at (r := mi143) rfl rfl
theorem x143_91 {z : P0} : X z 143 91 = XI mT z (X z) (.iconst 0, 1, 0, 0, 0, [], nI 0, 0) 143 91 := X_at (r := mi143) rfl rfl
theorem x143_92 {z : P0} : X z 143 92 = XI mT z (X z) (.istore_n 2, 1, 2, 0, 0, [], 0, 0) 143 92 := X_at (r := mi143) rfl rfl
theorem x143_93 {z : P0} : X z 143 93 = XI mT z (X z) (.iload_n 2, 1, 2, 0, 0, [], 0, 0) 143 93 := X_at (r := mi143) rfl rfl
theorem x143_94 {z : P0} : X z 143 94 = XI mT z (X z) (.aload_n 0, 1, 0, 0, 0, [], 0, 0) 143 94 := X_at (r := mi143) rfl rfl
theorem x143_95 {z : P0} : X z 143 95 = XI mT z (X z) (.getfield 7, 3, 11, 0, 3, [134], 0, 0) 143 95 := X_at (r := mi143) rfl rfl
theorem x143_98 {z : P0} : X z 143 98 = XI mT z (X z) (.bipush 6, 2, 0, 0, 0, [], nI 6, 0) 143 98 := X_at (r := mi143) rfl rfl
theorem x143_100 {z : P0} : X z 143 100 = XI mT z (X z) (.iaload, 1, 0, 0, 0, [], 0, 0) 143 100 := X_at (r := mi143) rfl rfl
theorem x143_101 {z : P0} : X z 143 101 = XI mT z (X z) (.if_icmp .ge 61, 3, 162, 0, 0, [], 0, 0) 143 101 := X_at (r := mi143) rfl rfl
theorem x143_104 {z : P0} : X z 143 104 = XI mT z (X z) (.aload_n 0, 1, 0, 0, 0, [], 0, 0) 143 104 := X_at (r := mi143) rfl rfl
theorem x143_105 {z : P0} : X z 143 105 = XI mT z (X z) (.getfield 34, 3, 11, 11, 3, [142], 0, 0) 143 105 := X_at (r := mi143) rfl rfl
theorem x143_108 {z : P0} : X z 143 108 = XI mT z (X z) (.iload_n 2, 1, 2, 0, 0, [], 0, 0) 143 108 := X_at (r := mi143) rfl rfl
theorem x143_109 {z : P0} : X z 143 109 = XI mT z (X z) (.iaload, 1, 0, 0, 0, [], 0, 0) 143 109 := X_at (r := mi143) rfl rfl
theorem x143_110 {z : P0} : X z 143 110 = XI mT z (X z) (.iconst (-1), 1, 0, 0, 0, [], (-1), 0) 143 110 := X_at (r := mi143) rfl rfl
theorem x143_111 {z : P0} : X z 143 111 = XI mT z (X z) (.if_icmp .eq 45, 3, 156, 0, 0, [], 0, 0) 143 111 := X_at (r := mi143) rfl rfl
theorem x143_114 {z : P0} : X z 143 114 = XI mT z (X z) (.aload_n 0, 1, 0, 0, 0, [], 0, 0) 143 114 := X_at (r := mi143) rfl rfl
theorem x143_115 {z : P0} : X z 143 115 = XI mT z (X z) (.aload_n 0, 1, 0, 0, 0, [], 0, 0) 143 115 := X_at (r := mi143) rfl rfl
theorem x143_116 {z : P0} : X z 143 116 = XI mT z (X z) (.getfield 34, 3, 11, 11, 3, [142], 0, 0) 143 116 := X_at (r := mi143) rfl rfl
theorem x143_119 {z : P0} : X z 143 119 = XI mT z (X z) (.iload_n 2, 1, 2, 0, 0, [], 0, 0) 143 119 := X_at (r := mi143) rfl rfl
theorem x143_120 {z : P0} : X z 143 120 = XI mT z (X z) (.iaload, 1, 0, 0, 0, [], 0, 0) 143 120 := X_at (r := mi143) rfl rfl
theorem x143_121 {z : P0} : X z 143 121 = XI mT z (X z) (.invokevirtual 128, 3, 1, 131, 0, [127], 0, 0) 143 121 := X_at (r := mi143) rfl rfl
theorem x143_124 {z : P0} : X z 143 124 = XI mT z (X z) (.ifCond .eq 32, 3, 156, 0, 0, [], 0, 0) 143 124 := X_at (r := mi143) rfl rfl
theorem x143_127 {z : P0} : X z 143 127 = XI mT z (X z) (.aload_n 0, 1, 0, 0, 0, [], 0, 0) 143 127 := X_at (r := mi143) rfl rfl
theorem x143_128 {z : P0} : X z 143 128 = XI mT z (X z) (.getfield 7, 3, 11, 0, 3, [134], 0, 0) 143 128 := X_at (r := mi143) rfl rfl
theorem x143_131 {z : P0} : X z 143 131 = XI mT z (X z) (.bipush 93, 2, 0, 0, 0, [], nI 93, 0) 143 131 := X_at (r := mi143) rfl rfl
theorem x143_133 {z : P0} : X z 143 133 = XI mT z (X z) (.iload_n 2, 1, 2, 0, 0, [], 0, 0) 143 133 := X_at (r := mi143) rfl rfl
theorem x143_134 {z : P0} : X z 143 134 = XI mT z (X z) (.iadd, 1, 0, 0, 0, [], 0, 0) 143 134 := X_at (r := mi143) rfl rfl
theorem x143_135 {z : P0} : X z 143 135 = XI mT z (X z) (.aload_n 0, 1, 0, 0, 0, [], 0, 0) 143 135 := X_at (r := mi143) rfl rfl
theorem x143_136 {z : P0} : X z 143 136 = XI mT z (X z) (.getfield 7, 3, 11, 0, 3, [134], 0, 0) 143 136 := X_at (r := mi143) rfl rfl
theorem x143_139 {z : P0} : X z 143 139 = XI mT z (X z) (.bipush 8, 2, 0, 0, 0, [], nI 8, 0) 143 139 := X_at (r := mi143) rfl rfl
theorem x143_141 {z : P0} : X z 143 141 = XI mT z (X z) (.iaload, 1, 0, 0, 0, [], 0, 0) 143 141 := X_at (r := mi143) rfl rfl
theorem x143_142 {z : P0} : X z 143 142 = XI mT z (X z) (.iastore, 1, 0, 0, 0, [], 0, 0) 143 142 := X_at (r := mi143) rfl rfl
theorem x143_143 {z : P0} : X z 143 143 = XI mT z (X z) (.aload_n 0, 1, 0, 0, 0, [], 0, 0) 143 143 := X_at (r := mi143) rfl rfl
theorem x143_144 {z : P0} : X z 143 144 = XI mT z (X z) (.getfield 7, 3, 11, 0, 3, [134], 0, 0) 143 144 := X_at (r := mi143) rfl rfl
theorem x143_147 {z : P0} : X z 143 147 = XI mT z (X z) (.bipush 113, 2, 0, 0, 0, [], nI 113, 0) 143 147 := X_at (r := mi143) rfl rfl
theorem x143_149 {z : P0} : X z 143 149 = XI mT z (X z) (.iload_n 2, 1, 2, 0, 0, [], 0, 0) 143 149 := X_at (r := mi143) rfl rfl
theorem x143_150 {z : P0} : X z 143 150 = XI mT z (X z) (.iadd, 1, 0, 0, 0, [], 0, 0) 143 150 := X_at (r := mi143) rfl rfl
theorem x143_151 {z : P0} : X z 143 151 = XI mT z (X z) (.dup2, 1, 0, 0, 0, [], 0, 0) 143 151 := X_at (r := mi143) rfl rfl
theorem x143_152 {z : P0} : X z 143 152 = XI mT z (X z) (.iaload, 1, 0, 0, 0, [], 0, 0) 143 152 := X_at (r := mi143) rfl rfl
theorem x143_153 {z : P0} : X z 143 153 = XI mT z (X z) (.iconst 1, 1, 0, 0, 0, [], nI 1, 0) 143 153 := X_at (r := mi143) rfl rfl
theorem x143_154 {z : P0} : X z 143 154 = XI mT z (X z) (.iadd, 1, 0, 0, 0, [], 0, 0) 143 154 := X_at (r := mi143) rfl rfl
theorem x143_155 {z : P0} : X z 143 155 = XI mT z (X z) (.iastore, 1, 0, 0, 0, [], 0, 0) 143 155 := X_at (r := mi143) rfl rfl
theorem x143_156 {z : P0} : X z 143 156 = XI mT z (X z) (.iinc 2 1, 3, 2, 0, 0, [], nI 1, 0) 143 156 := X_at (r := mi143) rfl rfl
theorem x143_159 {z : P0} : X z 143 159 = XI mT z (X z) (.goto (-66), 3, 93, 0, 0, [], 0, 0) 143 159 := X_at (r := mi143) rfl rfl
theorem x143_162 {z : P0} : X z 143 162 = XI mT z (X z) (.iload_n 1, 1, 1, 0, 0, [], 0, 0) 143 162 := X_at (r := mi143) rfl rfl
theorem x143_163 {z : P0} : X z 143 163 = XI mT z (X z) (.ireturn, 1, 0, 0, 0, [], 0, 0) 143 163 := X_at (r := mi143) rfl rfl
theorem x144_0 {z : P0} : X z 144 0 = XI mT z (X z) (.aload_n 0, 1, 0, 0, 0, [], 0, 0) 144 0 := X_at (r := mi144) rfl rfl
theorem x144_1 {z : P0} : X z 144 1 = XI mT z (X z) (.iload_n 1, 1, 1, 0, 0, [], 0, 0) 144 1 := X_at (r := mi144) rfl rfl
theorem x144_2 {z : P0} : X z 144 2 = XI mT z (X z) (.iconst 1, 1, 0, 0, 0, [], nI 1, 0) 144 2 := X_at (r := mi144) rfl rfl
theorem x144_3 {z : P0} : X z 144 3 = XI mT z (X z) (.bipush 100, 2, 0, 0, 0, [], nI 100, 0) 144 3 := X_at (r := mi144) rfl rfl
theorem x144_5 {z : P0} : X z 144 5 = XI mT z (X z) (.invokestatic 47, 3, 3, 106, 0, [107], 0, 0) 144 5 := X_at (r := mi144) rfl rfl
theorem x144_8 {z : P0} : X z 144 8 = XI mT z (X z) (.ifCond .ne 7, 3, 15, 0, 0, [], 0, 0) 144 8 := X_at (r := mi144) rfl rfl
theorem x144_11 {z : P0} : X z 144 11 = XI mT z (X z) (.iconst 1, 1, 0, 0, 0, [], nI 1, 0) 144 11 := X_at (r := mi144) rfl rfl
theorem x144_12 {z : P0} : X z 144 12 = XI mT z (X z) (.goto 23, 3, 35, 0, 0, [], 0, 0) 144 12 := X_at (r := mi144) rfl rfl
theorem x144_15 {z : P0} : X z 144 15 = XI mT z (X z) (.aload_n 0, 1, 0, 0, 0, [], 0, 0) 144 15 := X_at (r := mi144) rfl rfl
theorem x144_16 {z : P0} : X z 144 16 = XI mT z (X z) (.getfield 7, 3, 11, 0, 3, [134], 0, 0) 144 16 := X_at (r := mi144) rfl rfl
theorem x144_19 {z : P0} : X z 144 19 = XI mT z (X z) (.bipush 8, 2, 0, 0, 0, [], nI 8, 0) 144 19 := X_at (r := mi144) rfl rfl
theorem x144_21 {z : P0} : X z 144 21 = XI mT z (X z) (.iaload, 1, 0, 0, 0, [], 0, 0) 144 21 := X_at (r := mi144) rfl rfl
theorem x144_22 {z : P0} : X z 144 22 = XI mT z (X z) (.iload_n 1, 1, 1, 0, 0, [], 0, 0) 144 22 := X_at (r := mi144) rfl rfl
theorem x144_23 {z : P0} : X z 144 23 = XI mT z (X z) (.iadd, 1, 0, 0, 0, [], 0, 0) 144 23 := X_at (r := mi144) rfl rfl
theorem x144_24 {z : P0} : X z 144 24 = XI mT z (X z) (.sipush 10000, 3, 0, 0, 0, [], nI 10000, 0) 144 24 := X_at (r := mi144) rfl rfl
theorem x144_27 {z : P0} : X z 144 27 = XI mT z (X z) (.if_icmp .le 7, 3, 34, 0, 0, [], 0, 0) 144 27 := X_at (r := mi144) rfl rfl
theorem x144_30 {z : P0} : X z 144 30 = XI mT z (X z) (.iconst 2, 1, 0, 0, 0, [], nI 2, 0) 144 30 := X_at (r := mi144) rfl rfl
theorem x144_31 {z : P0} : X z 144 31 = XI mT z (X z) (.goto 4, 3, 35, 0, 0, [], 0, 0) 144 31 := X_at (r := mi144) rfl rfl
theorem x144_34 {z : P0} : X z 144 34 = XI mT z (X z) (.iconst 0, 1, 0, 0, 0, [], nI 0, 0) 144 34 := X_at (r := mi144) rfl rfl
theorem x144_35 {z : P0} : X z 144 35 = XI mT z (X z) (.putfield 40, 3, 11, 5, 0, [144], 0, 0) 144 35 := X_at (r := mi144) rfl rfl
theorem x144_38 {z : P0} : X z 144 38 = XI mT z (X z) (.aload_n 0, 1, 0, 0, 0, [], 0, 0) 144 38 := X_at (r := mi144) rfl rfl
theorem x144_39 {z : P0} : X z 144 39 = XI mT z (X z) (.getfield 40, 3, 11, 5, 0, [144], 0, 0) 144 39 := X_at (r := mi144) rfl rfl
theorem x144_42 {z : P0} : X z 144 42 = XI mT z (X z) (.ifCond .le 5, 3, 47, 0, 0, [], 0, 0) 144 42 := X_at (r := mi144) rfl rfl
theorem x144_45 {z : P0} : X z 144 45 = XI mT z (X z) (.iconst 0, 1, 0, 0, 0, [], nI 0, 0) 144 45 := X_at (r := mi144) rfl rfl
theorem x144_46 {z : P0} : X z 144 46 = XI mT z (X z) (.ireturn, 1, 0, 0, 0, [], 0, 0) 144 46 := X_at (r := mi144) rfl rfl
theorem x144_47 {z : P0} : X z 144 47 = XI mT z (X z) (.aload_n 0, 1, 0, 0, 0, [], 0, 0) 144 47 := X_at (r := mi144) rfl rfl
theorem x144_48 {z : P0} : X z 144 48 = XI mT z (X z) (.invokevirtual 141, 3, 0, 107, 0, [130], 0, 0) 144 48 := X_at (r := mi144) rfl rfl
theorem x144_51 {z : P0} : X z 144 51 = XI mT z (X z) (.aload_n 0, 1, 0, 0, 0, [], 0, 0) 144 51 := X_at (r := mi144) rfl rfl
theorem x144_52 {z : P0} : X z 144 52 = XI mT z (X z) (.getfield 7, 3, 11, 0, 3, [134], 0, 0) 144 52 := X_at (r := mi144) rfl rfl
theorem x144_55 {z : P0} : X z 144 55 = XI mT z (X z) (.bipush 8, 2, 0, 0, 0, [], nI 8, 0) 144 55 := X_at (r := mi144) rfl rfl
theorem x144_57 {z : P0} : X z 144 57 = XI mT z (X z) (.dup2, 1, 0, 0, 0, [], 0, 0) 144 57 := X_at (r := mi144) rfl rfl
theorem x144_58 {z : P0} : X z 144 58 = XI mT z (X z) (.iaload, 1, 0, 0, 0, [], 0, 0) 144 58 := X_at (r := mi144) rfl rfl
theorem x144_59 {z : P0} : X z 144 59 = XI mT z (X z) (.iload_n 1, 1, 1, 0, 0, [], 0, 0) 144 59 := X_at (r := mi144) rfl rfl
theorem x144_60 {z : P0} : X z 144 60 = XI mT z (X z) (.iadd, 1, 0, 0, 0, [], 0, 0) 144 60 := X_at (r := mi144) rfl rfl
theorem x144_61 {z : P0} : X z 144 61 = XI mT z (X z) (.iastore, 1, 0, 0, 0, [], 0, 0) 144 61 := X_at (r := mi144) rfl rfl
theorem x144_62 {z : P0} : X z 144 62 = XI mT z (X z) (.aload_n 0, 1, 0, 0, 0, [], 0, 0) 144 62 := X_at (r := mi144) rfl rfl
theorem x144_63 {z : P0} : X z 144 63 = XI mT z (X z) (.getfield 7, 3, 11, 0, 3, [134], 0, 0) 144 63 := X_at (r := mi144) rfl rfl
theorem x144_66 {z : P0} : X z 144 66 = XI mT z (X z) (.bipush 8, 2, 0, 0, 0, [], nI 8, 0) 144 66 := X_at (r := mi144) rfl rfl
theorem x144_68 {z : P0} : X z 144 68 = XI mT z (X z) (.iaload, 1, 0, 0, 0, [], 0, 0) 144 68 := X_at (r := mi144) rfl rfl
theorem x144_69 {z : P0} : X z 144 69 = XI mT z (X z) (.ireturn, 1, 0, 0, 0, [], 0, 0) 144 69 := X_at (r := mi144) rfl rfl
theorem x145_0 {z : P0} : X z 145 0 = XI mT z (X z) (.aload_n 0, 1, 0, 0, 0, [], 0, 0) 145 0 := X_at (r := mi145) rfl rfl
theorem x145_1 {z : P0} : X z 145 1 = XI mT z (X z) (.iload_n 1, 1, 1, 0, 0, [], 0, 0) 145 1 := X_at (r := mi145) rfl rfl
theorem x145_2 {z : P0} : X z 145 2 = XI mT z (X z) (.bipush 33, 2, 0, 0, 0, [], nI 33, 0) 145 2 := X_at (r := mi145) rfl rfl
theorem x145_4 {z : P0} : X z 145 4 = XI mT z (X z) (.bipush 126, 2, 0, 0, 0, [], nI 126, 0) 145 4 := X_at (r := mi145) rfl rfl
theorem x145_6 {z : P0} : X z 145 6 = XI mT z (X z) (.invokestatic 47, 3, 3, 106, 0, [107], 0, 0) 145 6 := X_at (r := mi145) rfl rfl
theorem x145_9 {z : P0} : X z 145 9 = XI mT z (X z) (.ifCond .ne 7, 3, 16, 0, 0, [], 0, 0) 145 9 := X_at (r := mi145) rfl rfl
theorem x145_12 {z : P0} : X z 145 12 = XI mT z (X z) (.iconst 1, 1, 0, 0, 0, [], nI 1, 0) 145 12 := X_at (r := mi145) rfl rfl
theorem x145_13 {z : P0} : X z 145 13 = XI mT z (X z) (.goto 17, 3, 30, 0, 0, [], 0, 0) 145 13 := X_at (r := mi145) rfl rfl
theorem x145_16 {z : P0} : X z 145 16 = XI mT z (X z) (.aload_n 0, 1, 0, 0, 0, [], 0, 0) 145 16 := X_at (r := mi145) rfl rfl
theorem x145_17 {z : P0} : X z 145 17 = XI mT z (X z) (.getfield 135, 3, 11, 3, 0, [151], 0, 0) 145 17 := X_at (r := mi145) rfl rfl
theorem x145_20 {z : P0} : X z 145 20 = XI mT z (X z) (.bipush 60, 2, 0, 0, 0, [], nI 60, 0) 145 20 := X_at (r := mi145) rfl rfl
theorem x145_22 {z : P0} : X z 145 22 = XI mT z (X z) (.if_icmp .ne 7, 3, 29, 0, 0, [], 0, 0) 145 22 := X_at (r := mi145) rfl rfl
theorem x145_25 {z : P0} : X z 145 25 = XI mT z (X z) (.iconst 2, 1, 0, 0, 0, [], nI 2, 0) 145 25 := X_at (r := mi145) rfl rfl
theorem x145_26 {z : P0} : X z 145 26 = XI mT z (X z) (.goto 4, 3, 30, 0, 0, [], 0, 0) 145 26 := X_at (r := mi145) rfl rfl
theorem x145_29 {z : P0} : X z 145 29 = XI mT z (X z) (.iconst 0, 1, 0, 0, 0, [], nI 0, 0) 145 29 := X_at (r := mi145) rfl rfl
theorem x145_30 {z : P0} : X z 145 30 = XI mT z (X z) (.putfield 40, 3, 11, 5, 0, [144], 0, 0) 145 30 := X_at (r := mi145) rfl rfl
theorem x145_33 {z : P0} : X z 145 33 = XI mT z (X z) (.aload_n 0, 1, 0, 0, 0, [], 0, 0) 145 33 := X_at (r := mi145) rfl rfl
theorem x145_34 {z : P0} : X z 145 34 = XI mT z (X z) (.getfield 40, 3, 11, 5, 0, [144], 0, 0) 145 34 := X_at (r := mi145) rfl rfl
theorem x145_37 {z : P0} : X z 145 37 = XI mT z (X z) (.ifCond .le 5, 3, 42, 0, 0, [], 0, 0) 145 37 := X_at (r := mi145) rfl rfl
theorem x145_40 {z : P0} : X z 145 40 = XI mT z (X z) (.iconst 0, 1, 0, 0, 0, [], nI 0, 0) 145 40 := X_at (r := mi145) rfl rfl
theorem x145_41 {z : P0} : X z 145 41 = XI mT z (X z) (.ireturn, 1, 0, 0, 0, [], 0, 0) 145 41 := X_at (r := mi145) rfl rfl
theorem x145_42 {z : P0} : X z 145 42 = XI mT z (X z) (.aload_n 0, 1, 0, 0, 0, [], 0, 0) 145 42 := X_at (r := mi145) rfl rfl
theorem x145_43 {z : P0} : X z 145 43 = XI mT z (X z) (.getfield 16, 3, 11, 4, 3, [136], 0, 0) 145 43 := X_at (r := mi145) rfl rfl
theorem x145_46 {z : P0} : X z 145 46 = XI mT z (X z) (.aload_n 0, 1, 0, 0, 0, [], 0, 0) 145 46 := X_at (r := mi145) rfl rfl
theorem x145_47 {z : P0} : X z 145 47 = XI mT z (X z) (.getfield 135, 3, 11, 3, 0, [151], 0, 0) 145 47 := X_at (r := mi145) rfl rfl
theorem x145_50 {z : P0} : X z 145 50 = XI mT z (X z) (.iload_n 1, 1, 1, 0, 0, [], 0, 0) 145 50 := X_at (r := mi145) rfl rfl
theorem x145_51 {z : P0} : X z 145 51 = XI mT z (X z) (.iastore, 1, 0, 0, 0, [], 0, 0) 145 51 := X_at (r := mi145) rfl rfl
theorem x145_52 {z : P0} : X z 145 52 = XI mT z (X z) (.aload_n 0, 1, 0, 0, 0, [], 0, 0) 145 52 := X_at (r := mi145) rfl rfl
theorem x145_53 {z : P0} : X z 145 53 = XI mT z (X z) (.dup, 1, 0, 0, 0, [], 0, 0) 145 53 := X_at (r := mi145) rfl rfl
theorem x145_54 {z : P0} : X z 145 54 = XI mT z (X z) (.getfield 135, 3, 11, 3, 0, [151], 0, 0) 145 54 := X_at (r := mi145) rfl rfl
theorem x145_57 {z : P0} : X z 145 57 = XI mT z (X z) (.iconst 1, 1, 0, 0, 0, [], nI 1, 0) 145 57 := X_at (r := mi145) rfl rfl
theorem x145_58 {z : P0} : X z 145 58 = XI mT z (X z) (.iadd, 1, 0, 0, 0, [], 0, 0) 145 58 := X_at (r := mi145) rfl rfl
theorem x145_59 {z : P0} : X z 145 59 = XI mT z (X z) (.putfield 135, 3, 11, 3, 0, [151], 0, 0) 145 59 := X_at (r := mi145) rfl rfl
theorem x145_62 {z : P0} : X z 145 62 = XI mT z (X z) (.aload_n 0, 1, 0, 0, 0, [], 0, 0) 145 62 := X_at (r := mi145) rfl rfl
theorem x145_63 {z : P0} : X z 145 63 = XI mT z (X z) (.getfield 135, 3, 11, 3, 0, [151], 0, 0) 145 63 := X_at (r := mi145) rfl rfl
theorem x145_66 {z : P0} : X z 145 66 = XI mT z (X z) (.ireturn, 1, 0, 0, 0, [], 0, 0) 145 66 := X_at (r := mi145) rfl rfl
theorem x146_0 {z : P0} : X z 146 0 = XI mT z (X z) (.aload_n 0, 1, 0, 0, 0, [], 0, 0) 146 0 := X_at (r := mi146) rfl rfl
theorem x146_1 {z : P0} : X z 146 1 = XI mT z (X z) (.iconst 0, 1, 0, 0, 0, [], nI 0, 0) 146 1 := X_at (r := mi146) rfl rfl
theorem x146_2 {z : P0} : X z 146 2 = XI mT z (X z) (.putfield 40, 3, 11, 5, 0, [144], 0, 0) 146 2 := X_at (r := mi146) rfl rfl
theorem x146_5 {z : P0} : X z 146 5 = XI mT z (X z) (.aload_n 0, 1, 0, 0, 0, [], 0, 0) 146 5 := X_at (r := mi146) rfl rfl
theorem x146_6 {z : P0} : X z 146 6 = XI mT z (X z) (.getfield 135, 3, 11, 3, 0, [151], 0, 0) 146 6 := X_at (r := mi146) rfl rfl
theorem x146_9 {z : P0} : X z 146 9 = XI mT z (X z) (.istore_n 1, 1, 1, 0, 0, [], 0, 0) 146 9 := X_at (r := mi146) rfl rfl
theorem x146_10 {z : P0} : X z 146 10 = XI mT z (X z) (.aload_n 0, 1, 0, 0, 0, [], 0, 0) 146 10 := X_at (r := mi146) rfl rfl
theorem x146_11 {z : P0} : X z 146 11 = XI mT z (X z) (.iconst 0, 1, 0, 0, 0, [], nI 0, 0) 146 11 := X_at (r := mi146) rfl rfl
theorem x146_12 {z : P0} : X z 146 12 = XI mT z (X z) (.putfield 135, 3, 11, 3, 0, [151], 0, 0) 146 12 := X_at (r := mi146) rfl rfl
theorem x146_15 {z : P0} : X z 146 15 = XI mT z (X z) (.iload_n 1, 1, 1, 0, 0, [], 0, 0) 146 15 := X_at (r := mi146) rfl rfl
theorem x146_16 {z : P0} : X z 146 16 = XI mT z (X z) (.ireturn, 1, 0, 0, 0, [], 0, 0) 146 16 := X_at (r := mi146) rfl rfl
theorem x147_0 {z : P0} : X z 147 0 = XI mT z (X z) (.iload_n 2, 1, 2, 0, 0, [], 0, 0) 147 0 := X_at (r := mi147) rfl rfl
theorem x147_1 {z : P0} : X z 147 1 = XI mT z (X z) (.iconst 1, 1, 0, 0, 0, [], nI 1, 0) 147 1 := X_at (r := mi147) rfl rfl
theorem x147_2 {z : P0} : X z 147 2 = XI mT z (X z) (.if_icmp .ne 36, 3, 38, 0, 0, [], 0, 0) 147 2 := X_at (r := mi147) rfl rfl
theorem x147_5 {z : P0} : X z 147 5 = XI mT z (X z) (.iload_n 1, 1, 1, 0, 0, [], 0, 0) 147 5 := X_at (r := mi147) rfl rfl
theorem x147_6 {z : P0} : X z 147 6 = XI mT z (X z) (.bipush 42, 2, 0, 0, 0, [], nI 42, 0) 147 6 := X_at (r := mi147) rfl rfl
theorem x147_8 {z : P0} : X z 147 8 = XI mT z (X z) (.if_icmp .ne 30, 3, 38, 0, 0, [], 0, 0) 147 8 := X_at (r := mi147) rfl rfl
theorem x147_11 {z : P0} : X z 147 11 = XI mT z (X z) (.aload_n 0, 1, 0, 0, 0, [], 0, 0) 147 11 := X_at (r := mi147) rfl rfl
theorem x147_12 {z : P0} : X z 147 12 = XI mT z (X z) (.getfield 147, 3, 11, 18, 0, [153], 0, 0) 147 12 := X_at (r := mi147) rfl rfl
theorem x147_15 {z : P0} : X z 147 15 = XI mT z (X z) (.ifCond .le 14, 3, 29, 0, 0, [], 0, 0) 147 15 := X_at (r := mi147) rfl rfl
theorem x147_18 {z : P0} : X z 147 18 = XI mT z (X z) (.aload_n 0, 1, 0, 0, 0, [], 0, 0) 147 18 := X_at (r := mi147) rfl rfl
theorem x147_19 {z : P0} : X z 147 19 = XI mT z (X z) (.getfield 144, 3, 11, 19, 1, [152], 0, 0) 147 19 := X_at (r := mi147) rfl rfl
theorem x147_22 {z : P0} : X z 147 22 = XI mT z (X z) (.ifCond .ne 7, 3, 29, 0, 0, [], 0, 0) 147 22 := X_at (r := mi147) rfl rfl
theorem x147_25 {z : P0} : X z 147 25 = XI mT z (X z) (.iconst 1, 1, 0, 0, 0, [], nI 1, 0) 147 25 := X_at (r := mi147) rfl rfl
theorem x147_26 {z : P0} : X z 147 26 = XI mT z (X z) (.goto 4, 3, 30, 0, 0, [], 0, 0) 147 26 := X_at (r := mi147) rfl rfl
theorem x147_29 {z : P0} : X z 147 29 = XI mT z (X z) (.iconst 0, 1, 0, 0, 0, [], nI 0, 0) 147 29 := X_at (r := mi147) rfl rfl
theorem x147_30 {z : P0} : X z 147 30 = XI mT z (X z) (.istore_n 3, 1, 3, 0, 0, [], 0, 0) 147 30 := X_at (r := mi147) rfl rfl
theorem x147_31 {z : P0} : X z 147 31 = XI mT z (X z) (.aload_n 0, 1, 0, 0, 0, [], 0, 0) 147 31 := X_at (r := mi147) rfl rfl
theorem x147_32 {z : P0} : X z 147 32 = XI mT z (X z) (.iconst 1, 1, 0, 0, 0, [], nI 1, 0) 147 32 := X_at (r := mi147) rfl rfl
theorem x147_33 {z : P0} : X z 147 33 = XI mT z (X z) (.putfield 144, 3, 11, 19, 1, [152], 0, 0) 147 33 := X_at (r := mi147) rfl rfl
theorem x147_36 {z : P0} : X z 147 36 = XI mT z (X z) (.iload_n 3, 1, 3, 0, 0, [], 0, 0) 147 36 := X_at (r := mi147) rfl rfl
theorem x147_37 {z : P0} : X z 147 37 = XI mT z (X z) (.ireturn, 1, 0, 0, 0, [], 0, 0) 147 37 := X_at (r := mi147) rfl rfl
theorem x147_38 {z : P0} : X z 147 38 = XI mT z (X z) (.iload_n 1, 1, 1, 0, 0, [], 0, 0) 147 38 := X_at (r := mi147) rfl rfl
theorem x147_39 {z : P0} : X z 147 39 = XI mT z (X z) (.bipush 97, 2, 0, 0, 0, [], nI 97, 0) 147 39 := X_at (r := mi147) rfl rfl
theorem x147_41 {z : P0} : X z 147 41 = XI mT z (X z) (.bipush 122, 2, 0, 0, 0, [], nI 122, 0) 147 41 := X_at (r := mi147) rfl rfl
theorem x147_43 {z : P0} : X z 147 43 = XI mT z (X z) (.invokestatic 47, 3, 3, 106, 0, [107], 0, 0) 147 43 := X_at (r := mi147) rfl rfl
theorem x147_46 {z : P0} : X z 147 46 = XI mT z (X z) (.ifCond .eq 23, 3, 69, 0, 0, [], 0, 0) 147 46 := X_at (r := mi147) rfl rfl
theorem x147_49 {z : P0} : X z 147 49 = XI mT z (X z) (.aload_n 0, 1, 0, 0, 0, [], 0, 0) 147 49 := X_at (r := mi147) rfl rfl
theorem x147_50 {z : P0} : X z 147 50 = XI mT z (X z) (.getfield 147, 3, 11, 18, 0, [153], 0, 0) 147 50 := X_at (r := mi147) rfl rfl
theorem x147_53 {z : P0} : X z 147 53 = XI mT z (X z) (.bipush 8, 2, 0, 0, 0, [], nI 8, 0) 147 53 := X_at (r := mi147) rfl rfl
theorem x147_55 {z : P0} : X z 147 55 = XI mT z (X z) (.if_icmp .ge 14, 3, 69, 0, 0, [], 0, 0) 147 55 := X_at (r := mi147) rfl rfl
theorem x147_58 {z : P0} : X z 147 58 = XI mT z (X z) (.aload_n 0, 1, 0, 0, 0, [], 0, 0) 147 58 := X_at (r := mi147) rfl rfl
theorem x147_59 {z : P0} : X z 147 59 = XI mT z (X z) (.getfield 144, 3, 11, 19, 1, [152], 0, 0) 147 59 := X_at (r := mi147) rfl rfl
theorem x147_62 {z : P0} : X z 147 62 = XI mT z (X z) (.ifCond .ne 7, 3, 69, 0, 0, [], 0, 0) 147 62 := X_at (r := mi147) rfl rfl
theorem x147_65 {z : P0} : X z 147 65 = XI mT z (X z) (.iconst 1, 1, 0, 0, 0, [], nI 1, 0) 147 65 := X_at (r := mi147) rfl rfl
theorem x147_66 {z : P0} : X z 147 66 = XI mT z (X z) (.goto 4, 3, 70, 0, 0, [], 0, 0) 147 66 := X_at (r := mi147) rfl rfl
theorem x147_69 {z : P0} : X z 147 69 = XI mT z (X z) (.iconst 0, 1, 0, 0, 0, [], nI 0, 0) 147 69 := X_at (r := mi147) rfl rfl
theorem x147_70 {z : P0} : X z 147 70 = XI mT z (X z) (.istore_n 3, 1, 3, 0, 0, [], 0, 0) 147 70 := X_at (r := mi147) rfl rfl
theorem x147_71 {z : P0} : X z 147 71 = XI mT z (X z) (.aload_n 0, 1, 0, 0, 0, [], 0, 0) 147 71 := X_at (r := mi147) rfl rfl
theorem x147_72 {z : P0} : X z 147 72 = XI mT z (X z) (.dup, 1, 0, 0, 0, [], 0, 0) 147 72 := X_at (r := mi147) rfl rfl
theorem x147_73 {z : P0} : X z 147 73 = XI mT z (X z) (.getfield 147, 3, 11, 18, 0, [153], 0, 0) 147 73 := X_at (r := mi147) rfl rfl
theorem x147_76 {z : P0} : X z 147 76 = XI mT z (X z) (.iload_n 3, 1, 3, 0, 0, [], 0, 0) 147 76 := X_at (r := mi147) rfl rfl
theorem x147_77 {z : P0} : X z 147 77 = XI mT z (X z) (.ifCond .eq 7, 3, 84, 0, 0, [], 0, 0) 147 77 := X_at (r := mi147) rfl rfl
theorem x147_80 {z : P0} : X z 147 80 = XI mT z (X z) (.iconst 1, 1, 0, 0, 0, [], nI 1, 0) 147 80 := X_at (r := mi147) rfl rfl
theorem x147_81 {z : P0} : X z 147 81 = XI mT z (X z) (.goto 4, 3, 85, 0, 0, [], 0, 0) 147 81 := X_at (r := mi147) rfl rfl
theorem x147_84 {z : P0} : X z 147 84 = XI mT z (X z) (.iconst 0, 1, 0, 0, 0, [], nI 0, 0) 147 84 := X_at (r := mi147) rfl rfl
theorem x147_85 {z : P0} : X z 147 85 = XI mT z (X z) (.iadd, 1, 0, 0, 0, [], 0, 0) 147 85 := X_at (r := mi147) rfl rfl
theorem x147_86 {z : P0} : X z 147 86 = XI mT z (X z) (.putfield 147, 3, 11, 18, 0, [153], 0, 0) 147 86 := X_at (r := mi147) rfl rfl
theorem x147_89 {z : P0} : X z 147 89 = XI mT z (X z) (.iload_n 3, 1, 3, 0, 0, [], 0, 0) 147 89 := X_at (r := mi147) rfl rfl
theorem x147_90 {z : P0} : X z 147 90 = XI mT z (X z) (.ireturn, 1, 0, 0, 0, [], 0, 0) 147 90 := X_at (r := mi147) rfl rfl
theorem x148_0 {z : P0} : X z 148 0 = XI mT z (X z) (.aload_n 0, 1, 0, 0, 0, [], 0, 0) 148 0 := X_at (r := mi148) rfl rfl
theorem x148_1 {z : P0} : X z 148 1 = XI mT z (X z) (.getfield 176, 3, 11, 21, 0, [154], 0, 0) 148 1 := X_at (r := mi148) rfl rfl
theorem x148_4 {z : P0} : X z 148 4 = XI mT z (X z) (.iconst 1, 1, 0, 0, 0, [], nI 1, 0) 148 4 := X_at (r := mi148) rfl rfl
theorem x148_5 {z : P0} : X z 148 5 = XI mT z (X z) (.if_icmp .ne 35, 3, 40, 0, 0, [], 0, 0) 148 5 := X_at (r := mi148) rfl rfl
theorem x148_8 {z : P0} : X z 148 8 = XI mT z (X z) (.iload_n 1, 1, 1, 0, 0, [], 0, 0) 148 8 := X_at (r := mi148) rfl rfl
theorem x148_9 {z : P0} : X z 148 9 = XI mT z (X z) (.bipush 110, 2, 0, 0, 0, [], nI 110, 0) 148 9 := X_at (r := mi148) rfl rfl
theorem x148_11 {z : P0} : X z 148 11 = XI mT z (X z) (.if_icmp .eq 21, 3, 32, 0, 0, [], 0, 0) 148 11 := X_at (r := mi148) rfl rfl
theorem x148_14 {z : P0} : X z 148 14 = XI mT z (X z) (.iload_n 1, 1, 1, 0, 0, [], 0, 0) 148 14 := X_at (r := mi148) rfl rfl
theorem x148_15 {z : P0} : X z 148 15 = XI mT z (X z) (.bipush 103, 2, 0, 0, 0, [], nI 103, 0) 148 15 := X_at (r := mi148) rfl rfl
theorem x148_17 {z : P0} : X z 148 17 = XI mT z (X z) (.if_icmp .eq 15, 3, 32, 0, 0, [], 0, 0) 148 17 := X_at (r := mi148) rfl rfl
theorem x148_20 {z : P0} : X z 148 20 = XI mT z (X z) (.iload_n 1, 1, 1, 0, 0, [], 0, 0) 148 20 := X_at (r := mi148) rfl rfl
theorem x148_21 {z : P0} : X z 148 21 = XI mT z (X z) (.bipush 119, 2, 0, 0, 0, [], nI 119, 0) 148 21 := X_at (r := mi148) rfl rfl
theorem x148_23 {z : P0} : X z 148 23 = XI mT z (X z) (.if_icmp .eq 9, 3, 32, 0, 0, [], 0, 0) 148 23 := X_at (r := mi148) rfl rfl
theorem x148_26 {z : P0} : X z 148 26 = XI mT z (X z) (.iload_n 1, 1, 1, 0, 0, [], 0, 0) 148 26 := X_at (r := mi148) rfl rfl
theorem x148_27 {z : P0} : X z 148 27 = XI mT z (X z) (.bipush 99, 2, 0, 0, 0, [], nI 99, 0) 148 27 := X_at (r := mi148) rfl rfl
theorem x148_29 {z : P0} : X z 148 29 = XI mT z (X z) (.if_icmp .ne 7, 3, 36, 0, 0, [], 0, 0) 148 29 := X_at (r := mi148) rfl rfl
theorem x148_32 {z : P0} : X z 148 32 = XI mT z (X z) (.iconst 1, 1, 0, 0, 0, [], nI 1, 0) 148 32 := X_at (r := mi148) rfl rfl
theorem x148_33 {z : P0} : X z 148 33 = XI mT z (X z) (.goto 18, 3, 51, 0, 0, [], 0, 0) 148 33 := X_at (r := mi148) rfl rfl
theorem x148_36 {z : P0} : X z 148 36 = XI mT z (X z) (.iconst 0, 1, 0, 0, 0, [], nI 0, 0) 148 36 := X_at (r := mi148) rfl rfl
theorem x148_37 {z : P0} : X z 148 37 = XI mT z (X z) (.goto 14, 3, 51, 0, 0, [], 0, 0) 148 37 := X_at (r := mi148) rfl rfl
theorem x148_40 {z : P0} : X z 148 40 = XI mT z (X z) (.iload_n 1, 1, 1, 0, 0, [], 0, 0) 148 40 := X_at (r := mi148) rfl rfl
theorem x148_41 {z : P0} : X z 148 41 = XI mT z (X z) (.bipush 62, 2, 0, 0, 0, [], nI 62, 0) 148 41 := X_at (r := mi148) rfl rfl
theorem x148_43 {z : P0} : X z 148 43 = XI mT z (X z) (.if_icmp .ne 7, 3, 50, 0, 0, [], 0, 0) 148 43 := X_at (r := mi148) rfl rfl
theorem x148_46 {z : P0} : X z 148 46 = XI mT z (X z) (.iconst 1, 1, 0, 0, 0, [], nI 1, 0) 148 46 := X_at (r := mi148) rfl rfl
theorem x148_47 {z : P0} : X z 148 47 = XI mT z (X z) (.goto 4, 3, 51, 0, 0, [], 0, 0) 148 47 := X_at (r := mi148) rfl rfl
theorem x148_50 {z : P0} : X z 148 50 = XI mT z (X z) (.iconst 0, 1, 0, 0, 0, [], nI 0, 0) 148 50 := X_at (r := mi148) rfl rfl
theorem x148_51 {z : P0} : X z 148 51 = XI mT z (X z) (.istore_n 2, 1, 2, 0, 0, [], 0, 0) 148 51 := X_at (r := mi148) rfl rfl
theorem x148_52 {z : P0} : X z 148 52 = XI mT z (X z) (.aload_n 0, 1, 0, 0, 0, [], 0, 0) 148 52 := X_at (r := mi148) rfl rfl
theorem x148_53 {z : P0} : X z 148 53 = XI mT z (X z) (.dup, 1, 0, 0, 0, [], 0, 0) 148 53 := X_at (r := mi148) rfl rfl
theorem x148_54 {z : P0} : X z 148 54 = XI mT z (X z) (.getfield 147, 3, 11, 18, 0, [153], 0, 0) 148 54 := X_at (r := mi148) rfl rfl
theorem x148_57 {z : P0} : X z 148 57 = XI mT z (X z) (.iload_n 2, 1, 2, 0, 0, [], 0, 0) 148 57 := X_at (r := mi148) rfl rfl
theorem x148_58 {z : P0} : X z 148 58 = XI mT z (X z) (.ifCond .eq 15, 3, 73, 0, 0, [], 0, 0) 148 58 := X_at (r := mi148) rfl rfl
theorem x148_61 {z : P0} : X z 148 61 = XI mT z (X z) (.aload_n 0, 1, 0, 0, 0, [], 0, 0) 148 61 := X_at (r := mi148) rfl rfl
theorem x148_62 {z : P0} : X z 148 62 = XI mT z (X z) (.getfield 176, 3, 11, 21, 0, [154], 0, 0) 148 62 := X_at (r := mi148) rfl rfl
theorem x148_65 {z : P0} : X z 148 65 = XI mT z (X z) (.iconst 2, 1, 0, 0, 0, [], nI 2, 0) 148 65 := X_at (r := mi148) rfl rfl
theorem x148_66 {z : P0} : X z 148 66 = XI mT z (X z) (.if_icmp .ne 7, 3, 73, 0, 0, [], 0, 0) 148 66 := X_at (r := mi148) rfl rfl
theorem x148_69 {z : P0} : X z 148 69 = XI mT z (X z) (.iconst 1, 1, 0, 0, 0, [], nI 1, 0) 148 69 := X_at (r := mi148) rfl rfl
theorem x148_70 {z : P0} : X z 148 70 = XI mT z (X z) (.goto 4, 3, 74, 0, 0, [], 0, 0) 148 70 := X_at (r := mi148) rfl rfl
theorem x148_73 {z : P0} : X z 148 73 = XI mT z (X z) (.iconst 0, 1, 0, 0, 0, [], nI 0, 0) 148 73 := X_at (r := mi148) rfl rfl
theorem x148_74 {z : P0} : X z 148 74 = XI mT z (X z) (.iadd, 1, 0, 0, 0, [], 0, 0) 148 74 := X_at (r := mi148) rfl rfl
theorem x148_75 {z : P0} : X z 148 75 = XI mT z (X z) (.putfield 147, 3, 11, 18, 0, [153], 0, 0) 148 75 := X_at (r := mi148) rfl rfl
theorem x148_78 {z : P0} : X z 148 78 = XI mT z (X z) (.aload_n 0, 1, 0, 0, 0, [], 0, 0) 148 78 := X_at (r := mi148) rfl rfl
theorem x148_79 {z : P0} : X z 148 79 = XI mT z (X z) (.aload_n 0, 1, 0, 0, 0, [], 0, 0) 148 79 := X_at (r := mi148) rfl rfl
theorem x148_80 {z : P0} : X z 148 80 = XI mT z (X z) (.getfield 176, 3, 11, 21, 0, [154], 0, 0) 148 80 := X_at (r := mi148) rfl rfl
theorem x148_83 {z : P0} : X z 148 83 = XI mT z (X z) (.iconst 1, 1, 0, 0, 0, [], nI 1, 0) 148 83 := X_at (r := mi148) rfl rfl
theorem x148_84 {z : P0} : X z 148 84 = XI mT z (X z) (.if_icmp .ne 7, 3, 91, 0, 0, [], 0, 0) 148 84 := X_at (r := mi148) rfl rfl
theorem x148_87 {z : P0} : X z 148 87 = XI mT z (X z) (.iconst 2, 1, 0, 0, 0, [], nI 2, 0) 148 87 := X_at (r := mi148) rfl rfl
theorem x148_88 {z : P0} : X z 148 88 = XI mT z (X z) (.goto 4, 3, 92, 0, 0, [], 0, 0) 148 88 := X_at (r := mi148) rfl rfl
theorem x148_91 {z : P0} : X z 148 91 = XI mT z (X z) (.iconst 0, 1, 0, 0, 0, [], nI 0, 0) 148 91 := X_at (r := mi148) rfl rfl
theorem x148_92 {z : P0} : X z 148 92 = XI mT z (X z) (.putfield 176, 3, 11, 21, 0, [154], 0, 0) 148 92 := X_at (r := mi148) rfl rfl
theorem x148_95 {z : P0} : X z 148 95 = XI mT z (X z) (.iload_n 2, 1, 2, 0, 0, [], 0, 0) 148 95 := X_at (r := mi148) rfl rfl
theorem x148_96 {z : P0} : X z 148 96 = XI mT z (X z) (.ireturn, 1, 0, 0, 0, [], 0, 0) 148 96 := X_at (r := mi148) rfl rfl
theorem x149_0 {z : P0} : X z 149 0 = XI mT z (X z) (.aload_n 0, 1, 0, 0, 0, [], 0, 0) 149 0 := X_at (r := mi149) rfl rfl
theorem x149_1 {z : P0} : X z 149 1 = XI mT z (X z) (.getfield 176, 3, 11, 21, 0, [154], 0, 0) 149 1 := X_at (r := mi149) rfl rfl
theorem x149_4 {z : P0} : X z 149 4 = XI mT z (X z) (.ifCond .le 9, 3, 13, 0, 0, [], 0, 0) 149 4 := X_at (r := mi149) rfl rfl
theorem x149_7 {z : P0} : X z 149 7 = XI mT z (X z) (.aload_n 0, 1, 0, 0, 0, [], 0, 0) 149 7 := X_at (r := mi149) rfl rfl
theorem x149_8 {z : P0} : X z 149 8 = XI mT z (X z) (.iload_n 1, 1, 1, 0, 0, [], 0, 0) 149 8 := X_at (r := mi149) rfl rfl
theorem x149_9 {z : P0} : X z 149 9 = XI mT z (X z) (.invokevirtual 179, 3, 1, 148, 0, [139], 0, 0) 149 9 := X_at (r := mi149) rfl rfl
theorem x149_12 {z : P0} : X z 149 12 = XI mT z (X z) (.ireturn, 1, 0, 0, 0, [], 0, 0) 149 12 := X_at (r := mi149) rfl rfl
theorem x149_13 {z : P0} : X z 149 13 = XI mT z (X z) (.iload_n 1, 1, 1, 0, 0, [], 0, 0) 149 13 := X_at (r := mi149) rfl rfl
theorem x149_14 {z : P0} : X z 149 14 = XI mT z (X z) (.bipush 60, 2, 0, 0, 0, [], nI 60, 0) 149 14 := X_at (r := mi149) rfl rfl
theorem x149_16 {z : P0} : X z 149 16 = XI mT z (X z) (.if_icmp .ne 10, 3, 26, 0, 0, [], 0, 0) 149 16 := X_at (r := mi149) rfl rfl
theorem x149_19 {z : P0} : X z 149 19 = XI mT z (X z) (.aload_n 0, 1, 0, 0, 0, [], 0, 0) 149 19 := X_at (r := mi149) rfl rfl
theorem x149_20 {z : P0} : X z 149 20 = XI mT z (X z) (.iconst 1, 1, 0, 0, 0, [], nI 1, 0) 149 20 := X_at (r := mi149) rfl rfl
theorem x149_21 {z : P0} : X z 149 21 = XI mT z (X z) (.putfield 176, 3, 11, 21, 0, [154], 0, 0) 149 21 := X_at (r := mi149) rfl rfl
theorem x149_24 {z : P0} : X z 149 24 = XI mT z (X z) (.iconst 1, 1, 0, 0, 0, [], nI 1, 0) 149 24 := X_at (r := mi149) rfl rfl
theorem x149_25 {z : P0} : X z 149 25 = XI mT z (X z) (.ireturn, 1, 0, 0, 0, [], 0, 0) 149 25 := X_at (r := mi149) rfl rfl
theorem x149_26 {z : P0} : X z 149 26 = XI mT z (X z) (.iload_n 1, 1, 1, 0, 0, [], 0, 0) 149 26 := X_at (r := mi149) rfl rfl
theorem x149_27 {z : P0} : X z 149 27 = XI mT z (X z) (.bipush 123, 2, 0, 0, 0, [], nI 123, 0) 149 27 := X_at (r := mi149) rfl rfl
theorem x149_29 {z : P0} : X z 149 29 = XI mT z (X z) (.if_icmp .eq 9, 3, 38, 0, 0, [], 0, 0) 149 29 := X_at (r := mi149) rfl rfl
theorem x149_32 {z : P0} : X z 149 32 = XI mT z (X z) (.iload_n 1, 1, 1, 0, 0, [], 0, 0) 149 32 := X_at (r := mi149) rfl rfl
theorem x149_33 {z : P0} : X z 149 33 = XI mT z (X z) (.bipush 125, 2, 0, 0, 0, [], nI 125, 0) 149 33 := X_at (r := mi149) rfl rfl
theorem x149_35 {z : P0} : X z 149 35 = XI mT z (X z) (.if_icmp .ne 76, 3, 111, 0, 0, [], 0, 0) 149 35 := X_at (r := mi149) rfl rfl
theorem x149_38 {z : P0} : X z 149 38 = XI mT z (X z) (.iload_n 1, 1, 1, 0, 0, [], 0, 0) 149 38 := X_at (r := mi149) rfl rfl
theorem x149_39 {z : P0} : X z 149 39 = XI mT z (X z) (.bipush 123, 2, 0, 0, 0, [], nI 123, 0) 149 39 := X_at (r := mi149) rfl rfl
theorem x149_41 {z : P0} : X z 149 41 = XI mT z (X z) (.if_icmp .ne 18, 3, 59, 0, 0, [], 0, 0) 149 41 := X_at (r := mi149) rfl rfl
theorem x149_44 {z : P0} : X z 149 44 = XI mT z (X z) (.aload_n 0, 1, 0, 0, 0, [], 0, 0) 149 44 := X_at (r := mi149) rfl rfl
theorem x149_45 {z : P0} : X z 149 45 = XI mT z (X z) (.getfield 182, 3, 11, 20, 1, [155], 0, 0) 149 45 := X_at (r := mi149) rfl rfl
theorem x149_48 {z : P0} : X z 149 48 = XI mT z (X z) (.ifCond .ne 7, 3, 55, 0, 0, [], 0, 0) 149 48 := X_at (r := mi149) rfl rfl
theorem x149_51 {z : P0} : X z 149 51 = XI mT z (X z) (.iconst 1, 1, 0, 0, 0, [], nI 1, 0) 149 51 := X_at (r := mi149) rfl rfl
theorem x149_52 {z : P0} : X z 149 52 = XI mT z (X z) (.goto 26, 3, 78, 0, 0, [], 0, 0) 149 52 := X_at (r := mi149) rfl rfl
theorem x149_55 {z : P0} : X z 149 55 = XI mT z (X z) (.iconst 0, 1, 0, 0, 0, [], nI 0, 0) 149 55 := X_at (r := mi149) rfl rfl
theorem x149_56 {z : P0} : X z 149 56 = XI mT z (X z) (.goto 22, 3, 78, 0, 0, [], 0, 0) 149 56 := X_at (r := mi149) rfl rfl
theorem x149_59 {z : P0} : X z 149 59 = XI mT z (X z) (.aload_n 0, 1, 0, 0, 0, [], 0, 0) 149 59 := X_at (r := mi149) rfl rfl
theorem x149_60 {z : P0} : X z 149 60 = XI mT z (X z) (.getfield 182, 3, 11, 20, 1, [155], 0, 0) 149 60 := X_at (r := mi149) rfl rfl
theorem x149_63 {z : P0} : X z 149 63 = XI mT z (X z) (.ifCond .eq 14, 3, 77, 0, 0, [], 0, 0) 149 63 := X_at (r := mi149) rfl rfl
theorem x149_66 {z : P0} : X z 149 66 = XI mT z (X z) (.aload_n 0, 1, 0, 0, 0, [], 0, 0) 149 66 := X_at (r := mi149) rfl rfl
theorem x149_67 {z : P0} : X z 149 67 = XI mT z (X z) (.getfield 147, 3, 11, 18, 0, [153], 0, 0) 149 67 := X_at (r := mi149) rfl rfl
theorem x149_70 {z : P0} : X z 149 70 = XI mT z (X z) (.ifCond .le 7, 3, 77, 0, 0, [], 0, 0) 149 70 := X_at (r := mi149) rfl rfl
theorem x149_73 {z : P0} : X z 149 73 = XI mT z (X z) (.iconst 1, 1, 0, 0, 0, [], nI 1, 0) 149 73 := X_at (r := mi149) rfl rfl
theorem x149_74 {z : P0} : X z 149 74 = XI mT z (X z) (.goto 4, 3, 78, 0, 0, [], 0, 0) 149 74 := X_at (r := mi149) rfl rfl
theorem x149_77 {z : P0} : X z 149 77 = XI mT z (X z) (.iconst 0, 1, 0, 0, 0, [], nI 0, 0) 149 77 := X_at (r := mi149) rfl rfl
theorem x149_78 {z : P0} : X z 149 78 = XI mT z (X z) (.istore_n 2, 1, 2, 0, 0, [], 0, 0) 149 78 := X_at (r := mi149) rfl rfl
theorem x149_79 {z : P0} : X z 149 79 = XI mT z (X z) (.aload_n 0, 1, 0, 0, 0, [], 0, 0) 149 79 := X_at (r := mi149) rfl rfl
theorem x149_80 {z : P0} : X z 149 80 = XI mT z (X z) (.iload_n 1, 1, 1, 0, 0, [], 0, 0) 149 80 := X_at (r := mi149) rfl rfl
theorem x149_81 {z : P0} : X z 149 81 = XI mT z (X z) (.bipush 123, 2, 0, 0, 0, [], nI 123, 0) 149 81 := X_at (r := mi149) rfl rfl
theorem x149_83 {z : P0} : X z 149 83 = XI mT z (X z) (.if_icmp .ne 7, 3, 90, 0, 0, [], 0, 0) 149 83 := X_at (r := mi149) rfl rfl
theorem x149_86 {z : P0} : X z 149 86 = XI mT z (X z) (.iconst 1, 1, 0, 0, 0, [], nI 1, 0) 149 86 := X_at (r := mi149) rfl rfl
theorem x149_87 {z : P0} : X z 149 87 = XI mT z (X z) (.goto 4, 3, 91, 0, 0, [], 0, 0) 149 87 := X_at (r := mi149) rfl rfl
theorem x149_90 {z : P0} : X z 149 90 = XI mT z (X z) (.iconst 0, 1, 0, 0, 0, [], nI 0, 0) 149 90 := X_at (r := mi149) rfl rfl
theorem x149_91 {z : P0} : X z 149 91 = XI mT z (X z) (.putfield 182, 3, 11, 20, 1, [155], 0, 0) 149 91 := X_at (r := mi149) rfl rfl
theorem x149_94 {z : P0} : X z 149 94 = XI mT z (X z) (.aload_n 0, 1, 0, 0, 0, [], 0, 0) 149 94 := X_at (r := mi149) rfl rfl
theorem x149_95 {z : P0} : X z 149 95 = XI mT z (X z) (.iload_n 1, 1, 1, 0, 0, [], 0, 0) 149 95 := X_at (r := mi149) rfl rfl
theorem x149_96 {z : P0} : X z 149 96 = XI mT z (X z) (.bipush 123, 2, 0, 0, 0, [], nI 123, 0) 149 96 := X_at (r := mi149) rfl rfl
theorem x149_98 {z : P0} : X z 149 98 = XI mT z (X z) (.if_icmp .ne 7, 3, 105, 0, 0, [], 0, 0) 149 98 := X_at (r := mi149) rfl rfl
theorem x149_101 {z : P0} : X z 149 101 = XI mT z (X z) (.iconst 0, 1, 0, 0, 0, [], nI 0, 0) 149 101 := X_at (r := mi149) rfl rfl
theorem x149_102 {z : P0} : X z 149 102 = XI mT z (X z) (.goto 4, 3, 106, 0, 0, [], 0, 0) 149 102 := X_at (r := mi149) rfl rfl
theorem x149_105 {z : P0} : X z 149 105 = XI mT z (X z) (.iconst 1, 1, 0, 0, 0, [], nI 1, 0) 149 105 := X_at (r := mi149) rfl rfl
theorem x149_106 {z : P0} : X z 149 106 = XI mT z (X z) (.putfield 147, 3, 11, 18, 0, [153], 0, 0) 149 106 := X_at (r := mi149) rfl rfl
theorem x149_109 {z : P0} : X z 149 109 = XI mT z (X z) (.iload_n 2, 1, 2, 0, 0, [], 0, 0) 149 109 := X_at (r := mi149) rfl rfl
theorem x149_110 {z : P0} : X z 149 110 = XI mT z (X z) (.ireturn, 1, 0, 0, 0, [], 0, 0) 149 110 := X_at (r := mi149) rfl rfl
theorem x149_111 {z : P0} : X z 149 111 = XI mT z (X z) (.aload_n 0, 1, 0, 0, 0, [], 0, 0) 149 111 := X_at (r := mi149) rfl rfl
theorem x149_112 {z : P0} : X z 149 112 = XI mT z (X z) (.dup, 1, 0, 0, 0, [], 0, 0) 149 112 := X_at (r := mi149) rfl rfl
theorem x149_113 {z : P0} : X z 149 113 = XI mT z (X z) (.getfield 147, 3, 11, 18, 0, [153], 0, 0) 149 113 := X_at (r := mi149) rfl rfl
theorem x149_116 {z : P0} : X z 149 116 = XI mT z (X z) (.iconst 1, 1, 0, 0, 0, [], nI 1, 0) 149 116 := X_at (r := mi149) rfl rfl
theorem x149_117 {z : P0} : X z 149 117 = XI mT z (X z) (.iadd, 1, 0, 0, 0, [], 0, 0) 149 117 := X_at (r := mi149) rfl rfl
theorem x149_118 {z : P0} : X z 149 118 = XI mT z (X z) (.putfield 147, 3, 11, 18, 0, [153], 0, 0) 149 118 := X_at (r := mi149) rfl rfl
theorem x149_121 {z : P0} : X z 149 121 = XI mT z (X z) (.iload_n 1, 1, 1, 0, 0, [], 0, 0) 149 121 := X_at (r := mi149) rfl rfl
theorem x149_122 {z : P0} : X z 149 122 = XI mT z (X z) (.bipush 97, 2, 0, 0, 0, [], nI 97, 0) 149 122 := X_at (r := mi149) rfl rfl
theorem x149_124 {z : P0} : X z 149 124 = XI mT z (X z) (.bipush 122, 2, 0, 0, 0, [], nI 122, 0) 149 124 := X_at (r := mi149) rfl rfl
theorem x149_126 {z : P0} : X z 149 126 = XI mT z (X z) (.invokestatic 47, 3, 3, 106, 0, [107], 0, 0) 149 126 := X_at (r := mi149) rfl rfl
theorem x149_129 {z : P0} : X z 149 129 = XI mT z (X z) (.ifCond .ne 33, 3, 162, 0, 0, [], 0, 0) 149 129 := X_at (r := mi149) rfl rfl
theorem x149_132 {z : P0} : X z 149 132 = XI mT z (X z) (.iload_n 1, 1, 1, 0, 0, [], 0, 0) 149 132 := X_at (r := mi149) rfl rfl
theorem x149_133 {z : P0} : X z 149 133 = XI mT z (X z) (.bipush 95, 2, 0, 0, 0, [], nI 95, 0) 149 133 := X_at (r := mi149) rfl rfl
theorem x149_135 {z : P0} : X z 149 135 = XI mT z (X z) (.if_icmp .eq 27, 3, 162, 0, 0, [], 0, 0) 149 135 := X_at (r := mi149) rfl rfl
theorem x149_138 {z : P0} : X z 149 138 = XI mT z (X z) (.iload_n 1, 1, 1, 0, 0, [], 0, 0) 149 138 := X_at (r := mi149) rfl rfl
theorem x149_139 {z : P0} : X z 149 139 = XI mT z (X z) (.bipush 44, 2, 0, 0, 0, [], nI 44, 0) 149 139 := X_at (r := mi149) rfl rfl
theorem x149_141 {z : P0} : X z 149 141 = XI mT z (X z) (.if_icmp .eq 21, 3, 162, 0, 0, [], 0, 0) 149 141 := X_at (r := mi149) rfl rfl
theorem x149_144 {z : P0} : X z 149 144 = XI mT z (X z) (.iload_n 1, 1, 1, 0, 0, [], 0, 0) 149 144 := X_at (r := mi149) rfl rfl
theorem x149_145 {z : P0} : X z 149 145 = XI mT z (X z) (.bipush 46, 2, 0, 0, 0, [], nI 46, 0) 149 145 := X_at (r := mi149) rfl rfl
theorem x149_147 {z : P0} : X z 149 147 = XI mT z (X z) (.if_icmp .eq 15, 3, 162, 0, 0, [], 0, 0) 149 147 := X_at (r := mi149) rfl rfl
theorem x149_150 {z : P0} : X z 149 150 = XI mT z (X z) (.iload_n 1, 1, 1, 0, 0, [], 0, 0) 149 150 := X_at (r := mi149) rfl rfl
theorem x149_151 {z : P0} : X z 149 151 = XI mT z (X z) (.bipush 47, 2, 0, 0, 0, [], nI 47, 0) 149 151 := X_at (r := mi149) rfl rfl
theorem x149_153 {z : P0} : X z 149 153 = XI mT z (X z) (.if_icmp .eq 9, 3, 162, 0, 0, [], 0, 0) 149 153 := X_at (r := mi149) rfl rfl
theorem x149_156 {z : P0} : X z 149 156 = XI mT z (X z) (.iload_n 1, 1, 1, 0, 0, [], 0, 0) 149 156 := X_at (r := mi149) rfl rfl
theorem x149_157 {z : P0} : X z 149 157 = XI mT z (X z) (.bipush 124, 2, 0, 0, 0, [], nI 124, 0) 149 157 := X_at (r := mi149) rfl rfl
theorem x149_159 {z : P0} : X z 149 159 = XI mT z (X z) (.if_icmp .ne 7, 3, 166, 0, 0, [], 0, 0) 149 159 := X_at (r := mi149) rfl rfl
theorem x149_162 {z : P0} : X z 149 162 = XI mT z (X z) (.iconst 1, 1, 0, 0, 0, [], nI 1, 0) 149 162 := X_at (r := mi149) rfl rfl
theorem x149_163 {z : P0} : X z 149 163 = XI mT z (X z) (.goto 4, 3, 167, 0, 0, [], 0, 0) 149 163 := X_at (r := mi149) rfl rfl
theorem x149_166 {z : P0} : X z 149 166 = XI mT z (X z) (.iconst 0, 1, 0, 0, 0, [], nI 0, 0) 149 166 := X_at (r := mi149) rfl rfl
theorem x149_167 {z : P0} : X z 149 167 = XI mT z (X z) (.ireturn, 1, 0, 0, 0, [], 0, 0) 149 167 := X_at (r := mi149) rfl rfl
theorem x150_0 {z : P0} : X z 150 0 = XI mT z (X z) (.aload_n 0, 1, 0, 0, 0, [], 0, 0) 150 0 := X_at (r := mi150) rfl rfl
theorem x150_1 {z : P0} : X z 150 1 = XI mT z (X z) (.iconst 0, 1, 0, 0, 0, [], nI 0, 0) 150 1 := X_at (r := mi150) rfl rfl
theorem x150_2 {z : P0} : X z 150 2 = XI mT z (X z) (.putfield 147, 3, 11, 18, 0, [153], 0, 0) 150 2 := X_at (r := mi150) rfl rfl
theorem x150_5 {z : P0} : X z 150 5 = XI mT z (X z) (.aload_n 0, 1, 0, 0, 0, [], 0, 0) 150 5 := X_at (r := mi150) rfl rfl
theorem x150_6 {z : P0} : X z 150 6 = XI mT z (X z) (.iconst 0, 1, 0, 0, 0, [], nI 0, 0) 150 6 := X_at (r := mi150) rfl rfl
theorem x150_7 {z : P0} : X z 150 7 = XI mT z (X z) (.putfield 144, 3, 11, 19, 1, [152], 0, 0) 150 7 := X_at (r := mi150) rfl rfl
theorem x150_10 {z : P0} : X z 150 10 = XI mT z (X z) (.aload_n 0, 1, 0, 0, 0, [], 0, 0) 150 10 := X_at (r := mi150) rfl rfl
theorem x150_11 {z : P0} : X z 150 11 = XI mT z (X z) (.iconst 0, 1, 0, 0, 0, [], nI 0, 0) 150 11 := X_at (r := mi150) rfl rfl
theorem x150_12 {z : P0} : X z 150 12 = XI mT z (X z) (.putfield 182, 3, 11, 20, 1, [155], 0, 0) 150 12 := X_at (r := mi150) rfl rfl
theorem x150_15 {z : P0} : X z 150 15 = XI mT z (X z) (.aload_n 0, 1, 0, 0, 0, [], 0, 0) 150 15 := X_at (r := mi150) rfl rfl
theorem x150_16 {z : P0} : X z 150 16 = XI mT z (X z) (.iconst 0, 1, 0, 0, 0, [], nI 0, 0) 150 16 := X_at (r := mi150) rfl rfl
theorem x150_17 {z : P0} : X z 150 17 = XI mT z (X z) (.putfield 176, 3, 11, 21, 0, [154], 0, 0) 150 17 := X_at (r := mi150) rfl rfl
theorem x150_20 {z : P0} : X z 150 20 = XI mT z (X z) (.iconst 0, 1, 0, 0, 0, [], nI 0, 0) 150 20 := X_at (r := mi150) rfl rfl
theorem x150_21 {z : P0} : X z 150 21 = XI mT z (X z) (.istore_n 2, 1, 2, 0, 0, [], 0, 0) 150 21 := X_at (r := mi150) rfl rfl
theorem x150_22 {z : P0} : X z 150 22 = XI mT z (X z) (.iload_n 2, 1, 2, 0, 0, [], 0, 0) 150 22 := X_at (r := mi150) rfl rfl
theorem x150_23 {z : P0} : X z 150 23 = XI mT z (X z) (.aload_n 0, 1, 0, 0, 0, [], 0, 0) 150 23 := X_at (r := mi150) rfl rfl
theorem x150_24 {z : P0} : X z 150 24 = XI mT z (X z) (.getfield 135, 3, 11, 3, 0, [151], 0, 0) 150 24 := X_at (r := mi150) rfl rfl
theorem x150_27 {z : P0} : X z 150 27 = XI mT z (X z) (.if_icmp .ge 44, 3, 71, 0, 0, [], 0, 0) 150 27 := X_at (r := mi150) rfl rfl
theorem x150_30 {z : P0} : X z 150 30 = XI mT z (X z) (.iload_n 1, 1, 1, 0, 0, [], 0, 0) 150 30 := X_at (r := mi150) rfl rfl
theorem x150_31 {z : P0} : X z 150 31 = XI mT z (X z) (.iconst 2, 1, 0, 0, 0, [], nI 2, 0) 150 31 := X_at (r := mi150) rfl rfl
theorem x150_32 {z : P0} : X z 150 32 = XI mT z (X z) (.if_icmp .ne 19, 3, 51, 0, 0, [], 0, 0) 150 32 := X_at (r := mi150) rfl rfl
theorem x150_35 {z : P0} : X z 150 35 = XI mT z (X z) (.aload_n 0, 1, 0, 0, 0, [], 0, 0) 150 35 := X_at (r := mi150) rfl rfl
theorem x150_36 {z : P0} : X z 150 36 = XI mT z (X z) (.aload_n 0, 1, 0, 0, 0, [], 0, 0) 150 36 := X_at (r := mi150) rfl rfl
theorem x150_37 {z : P0} : X z 150 37 = XI mT z (X z) (.getfield 16, 3, 11, 4, 3, [136], 0, 0) 150 37 := X_at (r := mi150) rfl rfl
theorem x150_40 {z : P0} : X z 150 40 = XI mT z (X z) (.iload_n 2, 1, 2, 0, 0, [], 0, 0) 150 40 := X_at (r := mi150) rfl rfl
theorem x150_41 {z : P0} : X z 150 41 = XI mT z (X z) (.iaload, 1, 0, 0, 0, [], 0, 0) 150 41 := X_at (r := mi150) rfl rfl
theorem x150_42 {z : P0} : X z 150 42 = XI mT z (X z) (.invokevirtual 185, 3, 1, 149, 0, [140], 0, 0) 150 42 := X_at (r := mi150) rfl rfl
theorem x150_45 {z : P0} : X z 150 45 = XI mT z (X z) (.ifCond .eq 26, 3, 71, 0, 0, [], 0, 0) 150 45 := X_at (r := mi150) rfl rfl
theorem x150_48 {z : P0} : X z 150 48 = XI mT z (X z) (.goto 17, 3, 65, 0, 0, [], 0, 0) 150 48 := X_at (r := mi150) rfl rfl
theorem x150_51 {z : P0} : X z 150 51 = XI mT z (X z) (.aload_n 0, 1, 0, 0, 0, [], 0, 0) 150 51 := X_at (r := mi150) rfl rfl
theorem x150_52 {z : P0} : X z 150 52 = XI mT z (X z) (.aload_n 0, 1, 0, 0, 0, [], 0, 0) 150 52 := X_at (r := mi150) rfl rfl
theorem x150_53 {z : P0} : X z 150 53 = XI mT z (X z) (.getfield 16, 3, 11, 4, 3, [136], 0, 0) 150 53 := X_at (r := mi150) rfl rfl
theorem x150_56 {z : P0} : X z 150 56 = XI mT z (X z) (.iload_n 2, 1, 2, 0, 0, [], 0, 0) 150 56 := X_at (r := mi150) rfl rfl
theorem x150_57 {z : P0} : X z 150 57 = XI mT z (X z) (.iaload, 1, 0, 0, 0, [], 0, 0) 150 57 := X_at (r := mi150) rfl rfl
theorem x150_58 {z : P0} : X z 150 58 = XI mT z (X z) (.iload_n 1, 1, 1, 0, 0, [], 0, 0) 150 58 := X_at (r := mi150) rfl rfl
theorem x150_59 {z : P0} : X z 150 59 = XI mT z (X z) (.invokevirtual 188, 3, 2, 147, 0, [141], 0, 0) 150 59 := X_at (r := mi150) rfl rfl
theorem x150_62 {z : P0} : X z 150 62 = XI mT z (X z) (.ifCond .eq 9, 3, 71, 0, 0, [], 0, 0) 150 62 := X_at (r := mi150) rfl rfl
theorem x150_65 {z : P0} : X z 150 65 = XI mT z (X z) (.iinc 2 1, 3, 2, 0, 0, [], nI 1, 0) 150 65 := X_at (r := mi150) rfl rfl
theorem x150_68 {z : P0} : X z 150 68 = XI mT z (X z) (.goto (-46), 3, 22, 0, 0, [], 0, 0) 150 68 := X_at (r := mi150) rfl rfl
theorem x150_71 {z : P0} : X z 150 71 = XI mT z (X z) (.iload_n 2, 1, 2, 0, 0, [], 0, 0) 150 71 := X_at (r := mi150) rfl rfl
theorem x150_72 {z : P0} : X z 150 72 = XI mT z (X z) (.ireturn, 1, 0, 0, 0, [], 0, 0) 150 72 := X_at (r := mi150) rfl rfl
theorem x151_0 {z : P0} : X z 151 0 = XI mT z (X z) (.aload_n 0, 1, 0, 0, 0, [], 0, 0) 151 0 := X_at (r := mi151) rfl rfl
theorem x151_1 {z : P0} : X z 151 1 = XI mT z (X z) (.getfield 147, 3, 11, 18, 0, [153], 0, 0) 151 1 := X_at (r := mi151) rfl rfl
theorem x151_4 {z : P0} : X z 151 4 = XI mT z (X z) (.ifCond .le 26, 3, 30, 0, 0, [], 0, 0) 151 4 := X_at (r := mi151) rfl rfl
theorem x151_7 {z : P0} : X z 151 7 = XI mT z (X z) (.iload_n 1, 1, 1, 0, 0, [], 0, 0) 151 7 := X_at (r := mi151) rfl rfl
theorem x151_8 {z : P0} : X z 151 8 = XI mT z (X z) (.iconst 2, 1, 0, 0, 0, [], nI 2, 0) 151 8 := X_at (r := mi151) rfl rfl
theorem x151_9 {z : P0} : X z 151 9 = XI mT z (X z) (.if_icmp .lt 17, 3, 26, 0, 0, [], 0, 0) 151 9 := X_at (r := mi151) rfl rfl
theorem x151_12 {z : P0} : X z 151 12 = XI mT z (X z) (.aload_n 0, 1, 0, 0, 0, [], 0, 0) 151 12 := X_at (r := mi151) rfl rfl
theorem x151_13 {z : P0} : X z 151 13 = XI mT z (X z) (.getfield 182, 3, 11, 20, 1, [155], 0, 0) 151 13 := X_at (r := mi151) rfl rfl
theorem x151_16 {z : P0} : X z 151 16 = XI mT z (X z) (.ifCond .ne 14, 3, 30, 0, 0, [], 0, 0) 151 16 := X_at (r := mi151) rfl rfl
theorem x151_19 {z : P0} : X z 151 19 = XI mT z (X z) (.aload_n 0, 1, 0, 0, 0, [], 0, 0) 151 19 := X_at (r := mi151) rfl rfl
theorem x151_20 {z : P0} : X z 151 20 = XI mT z (X z) (.getfield 176, 3, 11, 21, 0, [154], 0, 0) 151 20 := X_at (r := mi151) rfl rfl
theorem x151_23 {z : P0} : X z 151 23 = XI mT z (X z) (.ifCond .ne 7, 3, 30, 0, 0, [], 0, 0) 151 23 := X_at (r := mi151) rfl rfl
theorem x151_26 {z : P0} : X z 151 26 = XI mT z (X z) (.iconst 1, 1, 0, 0, 0, [], nI 1, 0) 151 26 := X_at (r := mi151) rfl rfl
theorem x151_27 {z : P0} : X z 151 27 = XI mT z (X z) (.goto 4, 3, 31, 0, 0, [], 0, 0) 151 27 := X_at (r := mi151) rfl rfl
theorem x151_30 {z : P0} : X z 151 30 = XI mT z (X z) (.iconst 0, 1, 0, 0, 0, [], nI 0, 0) 151 30 := X_at (r := mi151) rfl rfl
theorem x151_31 {z : P0} : X z 151 31 = XI mT z (X z) (.ireturn, 1, 0, 0, 0, [], 0, 0) 151 31 := X_at (r := mi151) rfl rfl
theorem x152_0 {z : P0} : X z 152 0 = XI mT z (X z) (.aload_n 0, 1, 0, 0, 0, [], 0, 0) 152 0 := X_at (r := mi152) rfl rfl
theorem x152_1 {z : P0} : X z 152 1 = XI mT z (X z) (.iload_n 1, 1, 1, 0, 0, [], 0, 0) 152 1 := X_at (r := mi152) rfl rfl
theorem x152_2 {z : P0} : X z 152 2 = XI mT z (X z) (.iconst 0, 1, 0, 0, 0, [], nI 0, 0) 152 2 := X_at (r := mi152) rfl rfl
theorem x152_3 {z : P0} : X z 152 3 = XI mT z (X z) (.iconst 2, 1, 0, 0, 0, [], nI 2, 0) 152 3 := X_at (r := mi152) rfl rfl
theorem x152_4 {z : P0} : X z 152 4 = XI mT z (X z) (.invokestatic 47, 3, 3, 106, 0, [107], 0, 0) 152 4 := X_at (r := mi152) rfl rfl
theorem x152_7 {z : P0} : X z 152 7 = XI mT z (X z) (.ifCond .eq 7, 3, 14, 0, 0, [], 0, 0) 152 7 := X_at (r := mi152) rfl rfl
theorem x152_10 {z : P0} : X z 152 10 = XI mT z (X z) (.iconst 0, 1, 0, 0, 0, [], nI 0, 0) 152 10 := X_at (r := mi152) rfl rfl
theorem x152_11 {z : P0} : X z 152 11 = XI mT z (X z) (.goto 4, 3, 15, 0, 0, [], 0, 0) 152 11 := X_at (r := mi152) rfl rfl
theorem x152_14 {z : P0} : X z 152 14 = XI mT z (X z) (.iconst 1, 1, 0, 0, 0, [], nI 1, 0) 152 14 := X_at (r := mi152) rfl rfl
theorem x152_15 {z : P0} : X z 152 15 = XI mT z (X z) (.putfield 40, 3, 11, 5, 0, [144], 0, 0) 152 15 := X_at (r := mi152) rfl rfl
theorem x152_18 {z : P0} : X z 152 18 = XI mT z (X z) (.aload_n 0, 1, 0, 0, 0, [], 0, 0) 152 18 := X_at (r := mi152) rfl rfl
theorem x152_19 {z : P0} : X z 152 19 = XI mT z (X z) (.getfield 40, 3, 11, 5, 0, [144], 0, 0) 152 19 := X_at (r := mi152) rfl rfl
theorem x152_22 {z : P0} : X z 152 22 = XI mT z (X z) (.ifCond .le 7, 3, 29, 0, 0, [], 0, 0) 152 22 := X_at (r := mi152) rfl rfl
theorem x152_25 {z : P0} : X z 152 25 = XI mT z (X z) (.iconst 0, 1, 0, 0, 0, [], nI 0, 0) 152 25 := X_at (r := mi152) rfl rfl
theorem x152_26 {z : P0} : X z 152 26 = XI mT z (X z) (.goto 8, 3, 34, 0, 0, [], 0, 0) 152 26 := X_at (r := mi152) rfl rfl
theorem x152_29 {z : P0} : X z 152 29 = XI mT z (X z) (.aload_n 0, 1, 0, 0, 0, [], 0, 0) 152 29 := X_at (r := mi152) rfl rfl
theorem x152_30 {z : P0} : X z 152 30 = XI mT z (X z) (.iload_n 1, 1, 1, 0, 0, [], 0, 0) 152 30 := X_at (r := mi152) rfl rfl
theorem x152_31 {z : P0} : X z 152 31 = XI mT z (X z) (.invokevirtual 132, 3, 1, 150, 0, [128], 0, 0) 152 31 := X_at (r := mi152) rfl rfl
theorem x152_34 {z : P0} : X z 152 34 = XI mT z (X z) (.ireturn, 1, 0, 0, 0, [], 0, 0) 152 34 := X_at (r := mi152) rfl rfl
theorem x153_0 {z : P0} : X z 153 0 = XI mT z (X z) (.aload_n 0, 1, 0, 0, 0, [], 0, 0) 153 0 := X_at (r := mi153) rfl rfl
theorem x153_1 {z : P0} : X z 153 1 = XI mT z (X z) (.aload_n 0, 1, 0, 0, 0, [], 0, 0) 153 1 := X_at (r := mi153) rfl rfl
theorem x153_2 {z : P0} : X z 153 2 = XI mT z (X z) (.getfield 44, 3, 11, 1, 0, [145], 0, 0) 153 2 := X_at (r := mi153) rfl rfl
theorem x153_5 {z : P0} : X z 153 5 = XI mT z (X z) (.ifCond .le 7, 3, 12, 0, 0, [], 0, 0) 153 5 := X_at (r := mi153) rfl rfl
theorem x153_8 {z : P0} : X z 153 8 = XI mT z (X z) (.iconst 0, 1, 0, 0, 0, [], nI 0, 0) 153 8 := X_at (r := mi153) rfl rfl
theorem x153_9 {z : P0} : X z 153 9 = XI mT z (X z) (.goto 4, 3, 13, 0, 0, [], 0, 0) 153 9 := X_at (r := mi153) rfl rfl
theorem x153_12 {z : P0} : X z 153 12 = XI mT z (X z) (.iconst 1, 1, 0, 0, 0, [], nI 1, 0) 153 12 := X_at (r := mi153) rfl rfl
theorem x153_13 {z : P0} : X z 153 13 = XI mT z (X z) (.putfield 40, 3, 11, 5, 0, [144], 0, 0) 153 13 := X_at (r := mi153) rfl rfl
theorem x153_16 {z : P0} : X z 153 16 = XI mT z (X z) (.aload_n 0, 1, 0, 0, 0, [], 0, 0) 153 16 := X_at (r := mi153) rfl rfl
theorem x153_17 {z : P0} : X z 153 17 = XI mT z (X z) (.getfield 40, 3, 11, 5, 0, [144], 0, 0) 153 17 := X_at (r := mi153) rfl rfl
theorem x153_20 {z : P0} : X z 153 20 = XI mT z (X z) (.ifCond .le 5, 3, 25, 0, 0, [], 0, 0) 153 20 := X_at (r := mi153) rfl rfl
theorem x153_23 {z : P0} : X z 153 23 = XI mT z (X z) (.iconst 0, 1, 0, 0, 0, [], nI 0, 0) 153 23 := X_at (r := mi153) rfl rfl
theorem x153_24 {z : P0} : X z 153 24 = XI mT z (X z) (.ireturn, 1, 0, 0, 0, [], 0, 0) 153 24 := X_at (r := mi153) rfl rfl
theorem x153_25 {z : P0} : X z 153 25 = XI mT z (X z) (.aload_n 0, 1, 0, 0, 0, [], 0, 0) 153 25 := X_at (r := mi153) rfl rfl
theorem x153_26 {z : P0} : X z 153 26 = XI mT z (X z) (.dup, 1, 0, 0, 0, [], 0, 0) 153 26 := X_at (r := mi153) rfl rfl
theorem x153_27 {z : P0} : X z 153 27 = XI mT z (X z) (.getfield 44, 3, 11, 1, 0, [145], 0, 0) 153 27 := X_at (r := mi153) rfl rfl
theorem x153_30 {z : P0} : X z 153 30 = XI mT z (X z) (.iconst 1, 1, 0, 0, 0, [], nI 1, 0) 153 30 := X_at (r := mi153) rfl rfl
theorem x153_31 {z : P0} : X z 153 31 = XI mT z (X z) (.isub, 1, 0, 0, 0, [], 0, 0) 153 31 := X_at (r := mi153) rfl rfl
theorem x153_32 {z : P0} : X z 153 32 = XI mT z (X z) (.putfield 44, 3, 11, 1, 0, [145], 0, 0) 153 32 := X_at (r := mi153) rfl rfl
theorem x153_35 {z : P0} : X z 153 35 = XI mT z (X z) (.iconst 0, 1, 0, 0, 0, [], nI 0, 0) 153 35 := X_at (r := mi153) rfl rfl
theorem x153_36 {z : P0} : X z 153 36 = XI mT z (X z) (.istore_n 1, 1, 1, 0, 0, [], 0, 0) 153 36 := X_at (r := mi153) rfl rfl
theorem x153_37 {z : P0} : X z 153 37 = XI mT z (X z) (.iload_n 1, 1, 1, 0, 0, [], 0, 0) 153 37 := X_at (r := mi153) rfl rfl
theorem x153_38 {z : P0} : X z 153 38 = XI mT z (X z) (.sipush 473, 3, 0, 0, 0, [], nI 473, 0) 153 38 := X_at (r := mi153) rfl rfl
theorem x153_41 {z : P0} : X z 153 41 = XI mT z (X z) (.if_icmp .ge 30, 3, 71, 0, 0, [], 0, 0) 153 41 := X_at (r := mi153) rfl rfl
theorem x153_44 {z : P0} : X z 153 44 = XI mT z (X z) (.aload_n 0, 1, 0, 0, 0, [], 0, 0) 153 44 := X_at (r := mi153) rfl rfl
theorem x153_45 {z : P0} : X z 153 45 = XI mT z (X z) (.getfield 7, 3, 11, 0, 3, [134], 0, 0) 153 45 := X_at (r := mi153) rfl rfl
theorem x153_48 {z : P0} : X z 153 48 = XI mT z (X z) (.iload_n 1, 1, 1, 0, 0, [], 0, 0) 153 48 := X_at (r := mi153) rfl rfl
theorem x153_49 {z : P0} : X z 153 49 = XI mT z (X z) (.aload_n 0, 1, 0, 0, 0, [], 0, 0) 153 49 := X_at (r := mi153) rfl rfl
theorem x153_50 {z : P0} : X z 153 50 = XI mT z (X z) (.getfield 13, 3, 11, 2, 3, [135], 0, 0) 153 50 := X_at (r := mi153) rfl rfl
theorem x153_53 {z : P0} : X z 153 53 = XI mT z (X z) (.sipush 473, 3, 0, 0, 0, [], nI 473, 0) 153 53 := X_at (r := mi153) rfl rfl
theorem x153_56 {z : P0} : X z 153 56 = XI mT z (X z) (.aload_n 0, 1, 0, 0, 0, [], 0, 0) 153 56 := X_at (r := mi153) rfl rfl
theorem x153_57 {z : P0} : X z 153 57 = XI mT z (X z) (.getfield 44, 3, 11, 1, 0, [145], 0, 0) 153 57 := X_at (r := mi153) rfl rfl
theorem x153_60 {z : P0} : X z 153 60 = XI mT z (X z) (.imul, 1, 0, 0, 0, [], 0, 0) 153 60 := X_at (r := mi153) rfl rfl
theorem x153_61 {z : P0} : X z 153 61 = XI mT z (X z) (.iload_n 1, 1, 1, 0, 0, [], 0, 0) 153 61 := X_at (r := mi153) rfl rfl
theorem x153_62 {z : P0} : X z 153 62 = XI mT z (X z) (.iadd, 1, 0, 0, 0, [], 0, 0) 153 62 := X_at (r := mi153) rfl rfl
theorem x153_63 {z : P0} : X z 153 63 = XI mT z (X z) (.iaload, 1, 0, 0, 0, [], 0, 0) 153 63 := X_at (r := mi153) rfl rfl
theorem x153_64 {z : P0} : X z 153 64 = XI mT z (X z) (.iastore, 1, 0, 0, 0, [], 0, 0) 153 64 := X_at (r := mi153) rfl rfl
theorem x153_65 {z : P0} : X z 153 65 = XI mT z (X z) (.iinc 1 1, 3, 1, 0, 0, [], nI 1, 0) 153 65 := X_at (r := mi153) rfl rfl
theorem x153_68 {z : P0} : X z 153 68 = XI mT z (X z) (.goto (-31), 3, 37, 0, 0, [], 0, 0) 153 68 := X_at (r := mi153) rfl rfl
theorem x153_71 {z : P0} : X z 153 71 = XI mT z (X z) (.aload_n 0, 1, 0, 0, 0, [], 0, 0) 153 71 := X_at (r := mi153) rfl rfl
theorem x153_72 {z : P0} : X z 153 72 = XI mT z (X z) (.getfield 44, 3, 11, 1, 0, [145], 0, 0) 153 72 := X_at (r := mi153) rfl rfl
theorem x153_75 {z : P0} : X z 153 75 = XI mT z (X z) (.ireturn, 1, 0, 0, 0, [], 0, 0) 153 75 := X_at (r := mi153) rfl rfl
