theorem x0_0 {z : P0} : X z 0 0 = XI mT z (X z) (.aload_n 0, 1, 0, 0, 0, [], 0, 0) 0 0 := X_at (r := mi0) rfl rfl
theorem x0_1 {z : P0} : X z 0 1 = XI mT z (X z) (.invokespecial 3, 3, 0, 9003, 0, [0], 0, 0) 0 1 := X_at (r := mi0) rfl rfl
theorem x0_4 {z : P0} : X z 0 4 = XI mT z (X z) (.aload_n 0, 1, 0, 0, 0, [], 0, 0) 0 4 := X_at (r := mi0) rfl rfl
theorem x0_5 {z : P0} : X z 0 5 = XI mT z (X z) (.bipush 60, 2, 0, 0, 0, [], nI 60, 0) 0 5 := X_at (r := mi0) rfl rfl
theorem x0_7 {z : P0} : X z 0 7 = XI mT z (X z) (.newarray .int, 2, 20, 0, 0, [], 0, 0) 0 7 := X_at (r := mi0) rfl rfl
theorem x0_9 {z : P0} : X z 0 9 = XI mT z (X z) (.putfield 9, 3, 0, 0, 3, [0], 0, 0) 0 9 := X_at (r := mi0) rfl rfl
theorem x0_12 {z : P0} : X z 0 12 = XI mT z (X z) (.return_, 1, 0, 0, 0, [], 0, 0) 0 12 := X_at (r := mi0) rfl rfl
theorem x1_0 {z : P0} : X z 1 0 = XI mT z (X z) (.iload_n 1, 1, 1, 0, 0, [], 0, 0) 1 0 := X_at (r := mi1) rfl rfl
theorem x1_1 {z : P0} : X z 1 1 = XI mT z (X z) (.iconst 2, 1, 0, 0, 0, [], nI 2, 0) 1 1 := X_at (r := mi1) rfl rfl
theorem x1_2 {z : P0} : X z 1 2 = XI mT z (X z) (.if_icmp .eq 18, 3, 20, 0, 0, [], 0, 0) 1 2 := X_at (r := mi1) rfl rfl
theorem x1_5 {z : P0} : X z 1 5 = XI mT z (X z) (.aload_n 0, 1, 0, 0, 0, [], 0, 0) 1 5 := X_at (r := mi1) rfl rfl
theorem x1_6 {z : P0} : X z 1 6 = XI mT z (X z) (.iload_n 1, 1, 1, 0, 0, [], 0, 0) 1 6 := X_at (r := mi1) rfl rfl
theorem x1_7 {z : P0} : X z 1 7 = XI mT z (X z) (.iconst 1, 1, 0, 0, 0, [], nI 1, 0) 1 7 := X_at (r := mi1) rfl rfl
theorem x1_8 {z : P0} : X z 1 8 = XI mT z (X z) (.if_icmp .ne 7, 3, 15, 0, 0, [], 0, 0) 1 8 := X_at (r := mi1) rfl rfl
theorem x1_11 {z : P0} : X z 1 11 = XI mT z (X z) (.iconst 1, 1, 0, 0, 0, [], nI 1, 0) 1 11 := X_at (r := mi1) rfl rfl
theorem x1_12 {z : P0} : X z 1 12 = XI mT z (X z) (.goto 4, 3, 16, 0, 0, [], 0, 0) 1 12 := X_at (r := mi1) rfl rfl
theorem x1_15 {z : P0} : X z 1 15 = XI mT z (X z) (.iconst 0, 1, 0, 0, 0, [], nI 0, 0) 1 15 := X_at (r := mi1) rfl rfl
theorem x1_16 {z : P0} : X z 1 16 = XI mT z (X z) (.invokevirtual 15, 3, 1, 3, 0, [1], 0, 0) 1 16 := X_at (r := mi1) rfl rfl
theorem x1_19 {z : P0} : X z 1 19 = XI mT z (X z) (.ireturn, 1, 0, 0, 0, [], 0, 0) 1 19 := X_at (r := mi1) rfl rfl
theorem x1_20 {z : P0} : X z 1 20 = XI mT z (X z) (.iconst 0, 1, 0, 0, 0, [], nI 0, 0) 1 20 := X_at (r := mi1) rfl rfl
theorem x1_21 {z : P0} : X z 1 21 = XI mT z (X z) (.istore_n 2, 1, 2, 0, 0, [], 0, 0) 1 21 := X_at (r := mi1) rfl rfl
theorem x1_22 {z : P0} : X z 1 22 = XI mT z (X z) (.iconst 0, 1, 0, 0, 0, [], nI 0, 0) 1 22 := X_at (r := mi1) rfl rfl
theorem x1_23 {z : P0} : X z 1 23 = XI mT z (X z) (.istore_n 3, 1, 3, 0, 0, [], 0, 0) 1 23 := X_at (r := mi1) rfl rfl
theorem x1_24 {z : P0} : X z 1 24 = XI mT z (X z) (.iload_n 3, 1, 3, 0, 0, [], 0, 0) 1 24 := X_at (r := mi1) rfl rfl
theorem x1_25 {z : P0} : X z 1 25 = XI mT z (X z) (.aload_n 0, 1, 0, 0, 0, [], 0, 0) 1 25 := X_at (r := mi1) rfl rfl
theorem x1_26 {z : P0} : X z 1 26 = XI mT z (X z) (.getfield 19, 3, 0, 1, 0, [1], 0, 0) 1 26 := X_at (r := mi1) rfl rfl
theorem x1_29 {z : P0} : X z 1 29 = XI mT z (X z) (.if_icmp .ge 28, 3, 57, 0, 0, [], 0, 0) 1 29 := X_at (r := mi1) rfl rfl
theorem x1_32 {z : P0} : X z 1 32 = XI mT z (X z) (.iload_n 2, 1, 2, 0, 0, [], 0, 0) 1 32 := X_at (r := mi1) rfl rfl
theorem x1_33 {z : P0} : X z 1 33 = XI mT z (X z) (.aload_n 0, 1, 0, 0, 0, [], 0, 0) 1 33 := X_at (r := mi1) rfl rfl
theorem x1_34 {z : P0} : X z 1 34 = XI mT z (X z) (.getfield 9, 3, 0, 0, 3, [0], 0, 0) 1 34 := X_at (r := mi1) rfl rfl
theorem x1_37 {z : P0} : X z 1 37 = XI mT z (X z) (.iload_n 3, 1, 3, 0, 0, [], 0, 0) 1 37 := X_at (r := mi1) rfl rfl
theorem x1_38 {z : P0} : X z 1 38 = XI mT z (X z) (.iaload, 1, 0, 0, 0, [], 0, 0) 1 38 := X_at (r := mi1) rfl rfl
theorem x1_39 {z : P0} : X z 1 39 = XI mT z (X z) (.invokestatic 23, 3, 2, 4, 0, [2], 0, 0) 1 39 := X_at (r := mi1) rfl rfl
theorem x1_42 {z : P0} : X z 1 42 = XI mT z (X z) (.istore_n 2, 1, 2, 0, 0, [], 0, 0) 1 42 := X_at (r := mi1) rfl rfl
theorem x1_43 {z : P0} : X z 1 43 = XI mT z (X z) (.iload_n 2, 1, 2, 0, 0, [], 0, 0) 1 43 := X_at (r := mi1) rfl rfl
theorem x1_44 {z : P0} : X z 1 44 = XI mT z (X z) (.bipush 7, 2, 0, 0, 0, [], nI 7, 0) 1 44 := X_at (r := mi1) rfl rfl
theorem x1_46 {z : P0} : X z 1 46 = XI mT z (X z) (.if_icmp .ne 5, 3, 51, 0, 0, [], 0, 0) 1 46 := X_at (r := mi1) rfl rfl
theorem x1_49 {z : P0} : X z 1 49 = XI mT z (X z) (.iload_n 3, 1, 3, 0, 0, [], 0, 0) 1 49 := X_at (r := mi1) rfl rfl
theorem x1_50 {z : P0} : X z 1 50 = XI mT z (X z) (.ireturn, 1, 0, 0, 0, [], 0, 0) 1 50 := X_at (r := mi1) rfl rfl
theorem x1_51 {z : P0} : X z 1 51 = XI mT z (X z) (.iinc 3 1, 3, 3, 0, 0, [], nI 1, 0) 1 51 := X_at (r := mi1) rfl rfl
theorem x1_54 {z : P0} : X z 1 54 = XI mT z (X z) (.goto (-30), 3, 24, 0, 0, [], 0, 0) 1 54 := X_at (r := mi1) rfl rfl
theorem x1_57 {z : P0} : X z 1 57 = XI mT z (X z) (.aload_n 0, 1, 0, 0, 0, [], 0, 0) 1 57 := X_at (r := mi1) rfl rfl
theorem x1_58 {z : P0} : X z 1 58 = XI mT z (X z) (.getfield 19, 3, 0, 1, 0, [1], 0, 0) 1 58 := X_at (r := mi1) rfl rfl
theorem x1_61 {z : P0} : X z 1 61 = XI mT z (X z) (.ireturn, 1, 0, 0, 0, [], 0, 0) 1 61 := X_at (r := mi1) rfl rfl
theorem x2_0 {z : P0} : X z 2 0 = XI mT z (X z) (.aload_n 0, 1, 0, 0, 0, [], 0, 0) 2 0 := X_at (r := mi2) rfl rfl
theorem x2_1 {z : P0} : X z 2 1 = XI mT z (X z) (.getfield 19, 3, 0, 1, 0, [1], 0, 0) 2 1 := X_at (r := mi2) rfl rfl
theorem x2_4 {z : P0} : X z 2 4 = XI mT z (X z) (.ifCond .ne 5, 3, 9, 0, 0, [], 0, 0) 2 4 := X_at (r := mi2) rfl rfl
theorem x2_7 {z : P0} : X z 2 7 = XI mT z (X z) (.iconst 0, 1, 0, 0, 0, [], nI 0, 0) 2 7 := X_at (r := mi2) rfl rfl
theorem x2_8 {z : P0} : X z 2 8 = XI mT z (X z) (.ireturn, 1, 0, 0, 0, [], 0, 0) 2 8 := X_at (r := mi2) rfl rfl
theorem x2_9 {z : P0} : X z 2 9 = XI mT z (X z) (.iload_n 1, 1, 1, 0, 0, [], 0, 0) 2 9 := X_at (r := mi2) rfl rfl
theorem x2_10 {z : P0} : X z 2 10 = XI mT z (X z) (.iconst 2, 1, 0, 0, 0, [], nI 2, 0) 2 10 := X_at (r := mi2) rfl rfl
theorem x2_11 {z : P0} : X z 2 11 = XI mT z (X z) (.if_icmp .eq 30, 3, 41, 0, 0, [], 0, 0) 2 11 := X_at (r := mi2) rfl rfl
theorem x2_14 {z : P0} : X z 2 14 = XI mT z (X z) (.aload_n 0, 1, 0, 0, 0, [], 0, 0) 2 14 := X_at (r := mi2) rfl rfl
theorem x2_15 {z : P0} : X z 2 15 = XI mT z (X z) (.iload_n 1, 1, 1, 0, 0, [], 0, 0) 2 15 := X_at (r := mi2) rfl rfl
theorem x2_16 {z : P0} : X z 2 16 = XI mT z (X z) (.iconst 1, 1, 0, 0, 0, [], nI 1, 0) 2 16 := X_at (r := mi2) rfl rfl
theorem x2_17 {z : P0} : X z 2 17 = XI mT z (X z) (.if_icmp .ne 7, 3, 24, 0, 0, [], 0, 0) 2 17 := X_at (r := mi2) rfl rfl
theorem x2_20 {z : P0} : X z 2 20 = XI mT z (X z) (.iconst 1, 1, 0, 0, 0, [], nI 1, 0) 2 20 := X_at (r := mi2) rfl rfl
theorem x2_21 {z : P0} : X z 2 21 = XI mT z (X z) (.goto 4, 3, 25, 0, 0, [], 0, 0) 2 21 := X_at (r := mi2) rfl rfl
theorem x2_24 {z : P0} : X z 2 24 = XI mT z (X z) (.iconst 0, 1, 0, 0, 0, [], nI 0, 0) 2 24 := X_at (r := mi2) rfl rfl
theorem x2_25 {z : P0} : X z 2 25 = XI mT z (X z) (.invokevirtual 15, 3, 1, 3, 0, [1], 0, 0) 2 25 := X_at (r := mi2) rfl rfl
theorem x2_28 {z : P0} : X z 2 28 = XI mT z (X z) (.aload_n 0, 1, 0, 0, 0, [], 0, 0) 2 28 := X_at (r := mi2) rfl rfl
theorem x2_29 {z : P0} : X z 2 29 = XI mT z (X z) (.getfield 19, 3, 0, 1, 0, [1], 0, 0) 2 29 := X_at (r := mi2) rfl rfl
theorem x2_32 {z : P0} : X z 2 32 = XI mT z (X z) (.if_icmp .ne 7, 3, 39, 0, 0, [], 0, 0) 2 32 := X_at (r := mi2) rfl rfl
theorem x2_35 {z : P0} : X z 2 35 = XI mT z (X z) (.iconst 1, 1, 0, 0, 0, [], nI 1, 0) 2 35 := X_at (r := mi2) rfl rfl
theorem x2_36 {z : P0} : X z 2 36 = XI mT z (X z) (.goto 4, 3, 40, 0, 0, [], 0, 0) 2 36 := X_at (r := mi2) rfl rfl
theorem x2_39 {z : P0} : X z 2 39 = XI mT z (X z) (.iconst 0, 1, 0, 0, 0, [], nI 0, 0) 2 39 := X_at (r := mi2) rfl rfl
theorem x2_40 {z : P0} : X z 2 40 = XI mT z (X z) (.ireturn, 1, 0, 0, 0, [], 0, 0) 2 40 := X_at (r := mi2) rfl rfl
theorem x2_41 {z : P0} : X z 2 41 = XI mT z (X z) (.iconst 0, 1, 0, 0, 0, [], nI 0, 0) 2 41 := X_at (r := mi2) rfl rfl
theorem x2_42 {z : P0} : X z 2 42 = XI mT z (X z) (.istore_n 2, 1, 2, 0, 0, [], 0, 0) 2 42 := X_at (r := mi2) rfl rfl
theorem x2_43 {z : P0} : X z 2 43 = XI mT z (X z) (.iconst 0, 1, 0, 0, 0, [], nI 0, 0) 2 43 := X_at (r := mi2) rfl rfl
theorem x2_44 {z : P0} : X z 2 44 = XI mT z (X z) (.istore_n 3, 1, 3, 0, 0, [], 0, 0) 2 44 := X_at (r := mi2) rfl rfl
theorem x2_45 {z : P0} : X z 2 45 = XI mT z (X z) (.iload_n 3, 1, 3, 0, 0, [], 0, 0) 2 45 := X_at (r := mi2) rfl rfl
theorem x2_46 {z : P0} : X z 2 46 = XI mT z (X z) (.aload_n 0, 1, 0, 0, 0, [], 0, 0) 2 46 := X_at (r := mi2) rfl rfl
theorem x2_47 {z : P0} : X z 2 47 = XI mT z (X z) (.getfield 19, 3, 0, 1, 0, [1], 0, 0) 2 47 := X_at (r := mi2) rfl rfl
theorem x2_50 {z : P0} : X z 2 50 = XI mT z (X z) (.if_icmp .ge 20, 3, 70, 0, 0, [], 0, 0) 2 50 := X_at (r := mi2) rfl rfl
theorem x2_53 {z : P0} : X z 2 53 = XI mT z (X z) (.iload_n 2, 1, 2, 0, 0, [], 0, 0) 2 53 := X_at (r := mi2) rfl rfl
theorem x2_54 {z : P0} : X z 2 54 = XI mT z (X z) (.aload_n 0, 1, 0, 0, 0, [], 0, 0) 2 54 := X_at (r := mi2) rfl rfl
theorem x2_55 {z : P0} : X z 2 55 = XI mT z (X z) (.getfield 9, 3, 0, 0, 3, [0], 0, 0) 2 55 := X_at (r := mi2) rfl rfl
theorem x2_58 {z : P0} : X z 2 58 = XI mT z (X z) (.iload_n 3, 1, 3, 0, 0, [], 0, 0) 2 58 := X_at (r := mi2) rfl rfl
theorem x2_59 {z : P0} : X z 2 59 = XI mT z (X z) (.iaload, 1, 0, 0, 0, [], 0, 0) 2 59 := X_at (r := mi2) rfl rfl
theorem x2_60 {z : P0} : X z 2 60 = XI mT z (X z) (.invokestatic 23, 3, 2, 4, 0, [2], 0, 0) 2 60 := X_at (r := mi2) rfl rfl
theorem x2_63 {z : P0} : X z 2 63 = XI mT z (X z) (.istore_n 2, 1, 2, 0, 0, [], 0, 0) 2 63 := X_at (r := mi2) rfl rfl
theorem x2_64 {z : P0} : X z 2 64 = XI mT z (X z) (.iinc 3 1, 3, 3, 0, 0, [], nI 1, 0) 2 64 := X_at (r := mi2) rfl rfl
theorem x2_67 {z : P0} : X z 2 67 = XI mT z (X z) (.goto (-22), 3, 45, 0, 0, [], 0, 0) 2 67 := X_at (r := mi2) rfl rfl
theorem x2_70 {z : P0} : X z 2 70 = XI mT z (X z) (.iload_n 2, 1, 2, 0, 0, [], 0, 0) 2 70 := X_at (r := mi2) rfl rfl
theorem x2_71 {z : P0} : X z 2 71 = XI mT z (X z) (.ifCond .ne 7, 3, 78, 0, 0, [], 0, 0) 2 71 := X_at (r := mi2) rfl rfl
theorem x2_74 {z : P0} : X z 2 74 = XI mT z (X z) (.iconst 1, 1, 0, 0, 0, [], nI 1, 0) 2 74 := X_at (r := mi2) rfl rfl
theorem x2_75 {z : P0} : X z 2 75 = XI mT z (X z) (.goto 4, 3, 79, 0, 0, [], 0, 0) 2 75 := X_at (r := mi2) rfl rfl
theorem x2_78 {z : P0} : X z 2 78 = XI mT z (X z) (.iconst 0, 1, 0, 0, 0, [], nI 0, 0) 2 78 := X_at (r := mi2) rfl rfl
theorem x2_79 {z : P0} : X z 2 79 = XI mT z (X z) (.ireturn, 1, 0, 0, 0, [], 0, 0) 2 79 := X_at (r := mi2) rfl rfl
theorem x3_0 {z : P0} : X z 3 0 = XI mT z (X z) (.iconst 0, 1, 0, 0, 0, [], nI 0, 0) 3 0 := X_at (r := mi3) rfl rfl
theorem x3_1 {z : P0} : X z 3 1 = XI mT z (X z) (.istore_n 2, 1, 2, 0, 0, [], 0, 0) 3 1 := X_at (r := mi3) rfl rfl
theorem x3_2 {z : P0} : X z 3 2 = XI mT z (X z) (.iload_n 2, 1, 2, 0, 0, [], 0, 0) 3 2 := X_at (r := mi3) rfl rfl
theorem x3_3 {z : P0} : X z 3 3 = XI mT z (X z) (.aload_n 0, 1, 0, 0, 0, [], 0, 0) 3 3 := X_at (r := mi3) rfl rfl
theorem x3_4 {z : P0} : X z 3 4 = XI mT z (X z) (.getfield 19, 3, 0, 1, 0, [1], 0, 0) 3 4 := X_at (r := mi3) rfl rfl
theorem x3_7 {z : P0} : X z 3 7 = XI mT z (X z) (.if_icmp .ge 27, 3, 34, 0, 0, [], 0, 0) 3 7 := X_at (r := mi3) rfl rfl
theorem x3_10 {z : P0} : X z 3 10 = XI mT z (X z) (.iload_n 2, 1, 2, 0, 0, [], 0, 0) 3 10 := X_at (r := mi3) rfl rfl
theorem x3_11 {z : P0} : X z 3 11 = XI mT z (X z) (.bipush 8, 2, 0, 0, 0, [], nI 8, 0) 3 11 := X_at (r := mi3) rfl rfl
theorem x3_13 {z : P0} : X z 3 13 = XI mT z (X z) (.if_icmp .ge 21, 3, 34, 0, 0, [], 0, 0) 3 13 := X_at (r := mi3) rfl rfl
theorem x3_16 {z : P0} : X z 3 16 = XI mT z (X z) (.aload_n 0, 1, 0, 0, 0, [], 0, 0) 3 16 := X_at (r := mi3) rfl rfl
theorem x3_17 {z : P0} : X z 3 17 = XI mT z (X z) (.getfield 9, 3, 0, 0, 3, [0], 0, 0) 3 17 := X_at (r := mi3) rfl rfl
theorem x3_20 {z : P0} : X z 3 20 = XI mT z (X z) (.iload_n 2, 1, 2, 0, 0, [], 0, 0) 3 20 := X_at (r := mi3) rfl rfl
theorem x3_21 {z : P0} : X z 3 21 = XI mT z (X z) (.iaload, 1, 0, 0, 0, [], 0, 0) 3 21 := X_at (r := mi3) rfl rfl
theorem x3_22 {z : P0} : X z 3 22 = XI mT z (X z) (.invokestatic 27, 3, 1, 88, 1, [3], 0, 0) 3 22 := X_at (r := mi3) rfl rfl
theorem x3_25 {z : P0} : X z 3 25 = XI mT z (X z) (.ifCond .eq 9, 3, 34, 0, 0, [], 0, 0) 3 25 := X_at (r := mi3) rfl rfl
theorem x3_28 {z : P0} : X z 3 28 = XI mT z (X z) (.iinc 2 1, 3, 2, 0, 0, [], nI 1, 0) 3 28 := X_at (r := mi3) rfl rfl
theorem x3_31 {z : P0} : X z 3 31 = XI mT z (X z) (.goto (-29), 3, 2, 0, 0, [], 0, 0) 3 31 := X_at (r := mi3) rfl rfl
theorem x3_34 {z : P0} : X z 3 34 = XI mT z (X z) (.iload_n 1, 1, 1, 0, 0, [], 0, 0) 3 34 := X_at (r := mi3) rfl rfl
theorem x3_35 {z : P0} : X z 3 35 = XI mT z (X z) (.ifCond .eq 29, 3, 64, 0, 0, [], 0, 0) 3 35 := X_at (r := mi3) rfl rfl
theorem x3_38 {z : P0} : X z 3 38 = XI mT z (X z) (.iload_n 2, 1, 2, 0, 0, [], 0, 0) 3 38 := X_at (r := mi3) rfl rfl
theorem x3_39 {z : P0} : X z 3 39 = XI mT z (X z) (.ifCond .le 25, 3, 64, 0, 0, [], 0, 0) 3 39 := X_at (r := mi3) rfl rfl
theorem x3_42 {z : P0} : X z 3 42 = XI mT z (X z) (.iload_n 2, 1, 2, 0, 0, [], 0, 0) 3 42 := X_at (r := mi3) rfl rfl
theorem x3_43 {z : P0} : X z 3 43 = XI mT z (X z) (.aload_n 0, 1, 0, 0, 0, [], 0, 0) 3 43 := X_at (r := mi3) rfl rfl
theorem x3_44 {z : P0} : X z 3 44 = XI mT z (X z) (.getfield 19, 3, 0, 1, 0, [1], 0, 0) 3 44 := X_at (r := mi3) rfl rfl
theorem x3_47 {z : P0} : X z 3 47 = XI mT z (X z) (.if_icmp .ge 17, 3, 64, 0, 0, [], 0, 0) 3 47 := X_at (r := mi3) rfl rfl
theorem x3_50 {z : P0} : X z 3 50 = XI mT z (X z) (.aload_n 0, 1, 0, 0, 0, [], 0, 0) 3 50 := X_at (r := mi3) rfl rfl
theorem x3_51 {z : P0} : X z 3 51 = XI mT z (X z) (.getfield 9, 3, 0, 0, 3, [0], 0, 0) 3 51 := X_at (r := mi3) rfl rfl
theorem x3_54 {z : P0} : X z 3 54 = XI mT z (X z) (.iload_n 2, 1, 2, 0, 0, [], 0, 0) 3 54 := X_at (r := mi3) rfl rfl
theorem x3_55 {z : P0} : X z 3 55 = XI mT z (X z) (.iaload, 1, 0, 0, 0, [], 0, 0) 3 55 := X_at (r := mi3) rfl rfl
theorem x3_56 {z : P0} : X z 3 56 = XI mT z (X z) (.bipush 42, 2, 0, 0, 0, [], nI 42, 0) 3 56 := X_at (r := mi3) rfl rfl
theorem x3_58 {z : P0} : X z 3 58 = XI mT z (X z) (.if_icmp .ne 6, 3, 64, 0, 0, [], 0, 0) 3 58 := X_at (r := mi3) rfl rfl
theorem x3_61 {z : P0} : X z 3 61 = XI mT z (X z) (.iinc 2 1, 3, 2, 0, 0, [], nI 1, 0) 3 61 := X_at (r := mi3) rfl rfl
theorem x3_64 {z : P0} : X z 3 64 = XI mT z (X z) (.iload_n 2, 1, 2, 0, 0, [], 0, 0) 3 64 := X_at (r := mi3) rfl rfl
theorem x3_65 {z : P0} : X z 3 65 = XI mT z (X z) (.ireturn, 1, 0, 0, 0, [], 0, 0) 3 65 := X_at (r := mi3) rfl rfl
theorem x4_0 {z : P0} : X z 4 0 = XI mT z (X z) (.iload_n 0, 1, 0, 0, 0, [], 0, 0) 4 0 := X_at (r := mi4) rfl rfl
theorem x4_1 {z : P0} : X z 4 1 = XI mT z (X z) (.tableswitch 123 0 6 #[98, 103, 108, 43, 72, 57, 85], 43, 124, 0, 0, [99, 104, 109, 44, 73, 58, 86], 0, 0) 4 1 := X_at (r := mi4) rfl rfl
theorem x4_44 {z : P0} : X z 4 44 = XI mT z (X z) (.iload_n 1, 1, 1, 0, 0, [], 0, 0) 4 44 := X_at (r := mi4) rfl rfl
theorem x4_45 {z : P0} : X z 4 45 = XI mT z (X z) (.invokestatic 31, 3, 1, 7, 0, [4], 0, 0) 4 45 := X_at (r := mi4) rfl rfl
theorem x4_48 {z : P0} : X z 4 48 = XI mT z (X z) (.ifCond .eq 7, 3, 55, 0, 0, [], 0, 0) 4 48 := X_at (r := mi4) rfl rfl
theorem x4_51 {z : P0} : X z 4 51 = XI mT z (X z) (.iconst 4, 1, 0, 0, 0, [], nI 4, 0) 4 51 := X_at (r := mi4) rfl rfl
theorem x4_52 {z : P0} : X z 4 52 = XI mT z (X z) (.goto 5, 3, 57, 0, 0, [], 0, 0) 4 52 := X_at (r := mi4) rfl rfl
theorem x4_55 {z : P0} : X z 4 55 = XI mT z (X z) (.bipush 7, 2, 0, 0, 0, [], nI 7, 0) 4 55 := X_at (r := mi4) rfl rfl
theorem x4_57 {z : P0} : X z 4 57 = XI mT z (X z) (.ireturn, 1, 0, 0, 0, [], 0, 0) 4 57 := X_at (r := mi4) rfl rfl
theorem x4_58 {z : P0} : X z 4 58 = XI mT z (X z) (.iload_n 1, 1, 1, 0, 0, [], 0, 0) 4 58 := X_at (r := mi4) rfl rfl
theorem x4_59 {z : P0} : X z 4 59 = XI mT z (X z) (.invokestatic 31, 3, 1, 7, 0, [4], 0, 0) 4 59 := X_at (r := mi4) rfl rfl
theorem x4_62 {z : P0} : X z 4 62 = XI mT z (X z) (.ifCond .eq 8, 3, 70, 0, 0, [], 0, 0) 4 62 := X_at (r := mi4) rfl rfl
theorem x4_65 {z : P0} : X z 4 65 = XI mT z (X z) (.bipush 6, 2, 0, 0, 0, [], nI 6, 0) 4 65 := X_at (r := mi4) rfl rfl
theorem x4_67 {z : P0} : X z 4 67 = XI mT z (X z) (.goto 5, 3, 72, 0, 0, [], 0, 0) 4 67 := X_at (r := mi4) rfl rfl
theorem x4_70 {z : P0} : X z 4 70 = XI mT z (X z) (.bipush 7, 2, 0, 0, 0, [], nI 7, 0) 4 70 := X_at (r := mi4) rfl rfl
theorem x4_72 {z : P0} : X z 4 72 = XI mT z (X z) (.ireturn, 1, 0, 0, 0, [], 0, 0) 4 72 := X_at (r := mi4) rfl rfl
theorem x4_73 {z : P0} : X z 4 73 = XI mT z (X z) (.iload_n 1, 1, 1, 0, 0, [], 0, 0) 4 73 := X_at (r := mi4) rfl rfl
theorem x4_74 {z : P0} : X z 4 74 = XI mT z (X z) (.bipush 62, 2, 0, 0, 0, [], nI 62, 0) 4 74 := X_at (r := mi4) rfl rfl
theorem x4_76 {z : P0} : X z 4 76 = XI mT z (X z) (.if_icmp .ne 7, 3, 83, 0, 0, [], 0, 0) 4 76 := X_at (r := mi4) rfl rfl
theorem x4_79 {z : P0} : X z 4 79 = XI mT z (X z) (.iconst 0, 1, 0, 0, 0, [], nI 0, 0) 4 79 := X_at (r := mi4) rfl rfl
theorem x4_80 {z : P0} : X z 4 80 = XI mT z (X z) (.goto 5, 3, 85, 0, 0, [], 0, 0) 4 80 := X_at (r := mi4) rfl rfl
theorem x4_83 {z : P0} : X z 4 83 = XI mT z (X z) (.bipush 7, 2, 0, 0, 0, [], nI 7, 0) 4 83 := X_at (r := mi4) rfl rfl
theorem x4_85 {z : P0} : X z 4 85 = XI mT z (X z) (.ireturn, 1, 0, 0, 0, [], 0, 0) 4 85 := X_at (r := mi4) rfl rfl
theorem x4_86 {z : P0} : X z 4 86 = XI mT z (X z) (.iload_n 1, 1, 1, 0, 0, [], 0, 0) 4 86 := X_at (r := mi4) rfl rfl
theorem x4_87 {z : P0} : X z 4 87 = XI mT z (X z) (.bipush 62, 2, 0, 0, 0, [], nI 62, 0) 4 87 := X_at (r := mi4) rfl rfl
theorem x4_89 {z : P0} : X z 4 89 = XI mT z (X z) (.if_icmp .ne 7, 3, 96, 0, 0, [], 0, 0) 4 89 := X_at (r := mi4) rfl rfl
theorem x4_92 {z : P0} : X z 4 92 = XI mT z (X z) (.iconst 2, 1, 0, 0, 0, [], nI 2, 0) 4 92 := X_at (r := mi4) rfl rfl
theorem x4_93 {z : P0} : X z 4 93 = XI mT z (X z) (.goto 5, 3, 98, 0, 0, [], 0, 0) 4 93 := X_at (r := mi4) rfl rfl
theorem x4_96 {z : P0} : X z 4 96 = XI mT z (X z) (.bipush 7, 2, 0, 0, 0, [], nI 7, 0) 4 96 := X_at (r := mi4) rfl rfl
theorem x4_98 {z : P0} : X z 4 98 = XI mT z (X z) (.ireturn, 1, 0, 0, 0, [], 0, 0) 4 98 := X_at (r := mi4) rfl rfl
theorem x4_99 {z : P0} : X z 4 99 = XI mT z (X z) (.iload_n 1, 1, 1, 0, 0, [], 0, 0) 4 99 := X_at (r := mi4) rfl rfl
theorem x4_100 {z : P0} : X z 4 100 = XI mT z (X z) (.invokestatic 34, 3, 1, 5, 0, [5], 0, 0) 4 100 := X_at (r := mi4) rfl rfl
theorem x4_103 {z : P0} : X z 4 103 = XI mT z (X z) (.ireturn, 1, 0, 0, 0, [], 0, 0) 4 103 := X_at (r := mi4) rfl rfl
theorem x4_104 {z : P0} : X z 4 104 = XI mT z (X z) (.iload_n 1, 1, 1, 0, 0, [], 0, 0) 4 104 := X_at (r := mi4) rfl rfl
theorem x4_105 {z : P0} : X z 4 105 = XI mT z (X z) (.invokestatic 38, 3, 1, 6, 0, [6], 0, 0) 4 105 := X_at (r := mi4) rfl rfl
theorem x4_108 {z : P0} : X z 4 108 = XI mT z (X z) (.ireturn, 1, 0, 0, 0, [], 0, 0) 4 108 := X_at (r := mi4) rfl rfl
theorem x4_109 {z : P0} : X z 4 109 = XI mT z (X z) (.iload_n 1, 1, 1, 0, 0, [], 0, 0) 4 109 := X_at (r := mi4) rfl rfl
theorem x4_110 {z : P0} : X z 4 110 = XI mT z (X z) (.bipush 125, 2, 0, 0, 0, [], nI 125, 0) 4 110 := X_at (r := mi4) rfl rfl
theorem x4_112 {z : P0} : X z 4 112 = XI mT z (X z) (.if_icmp .ne 7, 3, 119, 0, 0, [], 0, 0) 4 112 := X_at (r := mi4) rfl rfl
theorem x4_115 {z : P0} : X z 4 115 = XI mT z (X z) (.iconst 0, 1, 0, 0, 0, [], nI 0, 0) 4 115 := X_at (r := mi4) rfl rfl
theorem x4_116 {z : P0} : X z 4 116 = XI mT z (X z) (.goto 7, 3, 123, 0, 0, [], 0, 0) 4 116 := X_at (r := mi4) rfl rfl
theorem x4_119 {z : P0} : X z 4 119 = XI mT z (X z) (.iload_n 1, 1, 1, 0, 0, [], 0, 0) 4 119 := X_at (r := mi4) rfl rfl
theorem x4_120 {z : P0} : X z 4 120 = XI mT z (X z) (.invokestatic 38, 3, 1, 6, 0, [6], 0, 0) 4 120 := X_at (r := mi4) rfl rfl
theorem x4_123 {z : P0} : X z 4 123 = XI mT z (X z) (.ireturn, 1, 0, 0, 0, [], 0, 0) 4 123 := X_at (r := mi4) rfl rfl
theorem x4_124 {z : P0} : X z 4 124 = XI mT z (X z) (.bipush 7, 2, 0, 0, 0, [], nI 7, 0) 4 124 := X_at (r := mi4) rfl rfl
theorem x4_126 {z : P0} : X z 4 126 = XI mT z (X z) (.ireturn, 1, 0, 0, 0, [], 0, 0) 4 126 := X_at (r := mi4) rfl rfl
theorem x5_0 {z : P0} : X z 5 0 = XI mT z (X z) (.iload_n 0, 1, 0, 0, 0, [], 0, 0) 5 0 := X_at (r := mi5) rfl rfl
theorem x5_1 {z : P0} : X z 5 1 = XI mT z (X z) (.bipush 123, 2, 0, 0, 0, [], nI 123, 0) 5 1 := X_at (r := mi5) rfl rfl
theorem x5_3 {z : P0} : X z 5 3 = XI mT z (X z) (.if_icmp .ne 5, 3, 8, 0, 0, [], 0, 0) 5 3 := X_at (r := mi5) rfl rfl
theorem x5_6 {z : P0} : X z 5 6 = XI mT z (X z) (.iconst 1, 1, 0, 0, 0, [], nI 1, 0) 5 6 := X_at (r := mi5) rfl rfl
theorem x5_7 {z : P0} : X z 5 7 = XI mT z (X z) (.ireturn, 1, 0, 0, 0, [], 0, 0) 5 7 := X_at (r := mi5) rfl rfl
theorem x5_8 {z : P0} : X z 5 8 = XI mT z (X z) (.iload_n 0, 1, 0, 0, 0, [], 0, 0) 5 8 := X_at (r := mi5) rfl rfl
theorem x5_9 {z : P0} : X z 5 9 = XI mT z (X z) (.bipush 60, 2, 0, 0, 0, [], nI 60, 0) 5 9 := X_at (r := mi5) rfl rfl
theorem x5_11 {z : P0} : X z 5 11 = XI mT z (X z) (.if_icmp .ne 5, 3, 16, 0, 0, [], 0, 0) 5 11 := X_at (r := mi5) rfl rfl
theorem x5_14 {z : P0} : X z 5 14 = XI mT z (X z) (.iconst 3, 1, 0, 0, 0, [], nI 3, 0) 5 14 := X_at (r := mi5) rfl rfl
theorem x5_15 {z : P0} : X z 5 15 = XI mT z (X z) (.ireturn, 1, 0, 0, 0, [], 0, 0) 5 15 := X_at (r := mi5) rfl rfl
theorem x5_16 {z : P0} : X z 5 16 = XI mT z (X z) (.iload_n 0, 1, 0, 0, 0, [], 0, 0) 5 16 := X_at (r := mi5) rfl rfl
theorem x5_17 {z : P0} : X z 5 17 = XI mT z (X z) (.invokestatic 41, 3, 1, 8, 0, [7], 0, 0) 5 17 := X_at (r := mi5) rfl rfl
theorem x5_20 {z : P0} : X z 5 20 = XI mT z (X z) (.ifCond .eq 7, 3, 27, 0, 0, [], 0, 0) 5 20 := X_at (r := mi5) rfl rfl
theorem x5_23 {z : P0} : X z 5 23 = XI mT z (X z) (.iconst 0, 1, 0, 0, 0, [], nI 0, 0) 5 23 := X_at (r := mi5) rfl rfl
theorem x5_24 {z : P0} : X z 5 24 = XI mT z (X z) (.goto 5, 3, 29, 0, 0, [], 0, 0) 5 24 := X_at (r := mi5) rfl rfl
theorem x5_27 {z : P0} : X z 5 27 = XI mT z (X z) (.bipush 7, 2, 0, 0, 0, [], nI 7, 0) 5 27 := X_at (r := mi5) rfl rfl
theorem x5_29 {z : P0} : X z 5 29 = XI mT z (X z) (.ireturn, 1, 0, 0, 0, [], 0, 0) 5 29 := X_at (r := mi5) rfl rfl
theorem x6_0 {z : P0} : X z 6 0 = XI mT z (X z) (.iload_n 0, 1, 0, 0, 0, [], 0, 0) 6 0 := X_at (r := mi6) rfl rfl
theorem x6_1 {z : P0} : X z 6 1 = XI mT z (X z) (.bipush 60, 2, 0, 0, 0, [], nI 60, 0) 6 1 := X_at (r := mi6) rfl rfl
theorem x6_3 {z : P0} : X z 6 3 = XI mT z (X z) (.if_icmp .ne 5, 3, 8, 0, 0, [], 0, 0) 6 3 := X_at (r := mi6) rfl rfl
theorem x6_6 {z : P0} : X z 6 6 = XI mT z (X z) (.iconst 5, 1, 0, 0, 0, [], nI 5, 0) 6 6 := X_at (r := mi6) rfl rfl
theorem x6_7 {z : P0} : X z 6 7 = XI mT z (X z) (.ireturn, 1, 0, 0, 0, [], 0, 0) 6 7 := X_at (r := mi6) rfl rfl
theorem x6_8 {z : P0} : X z 6 8 = XI mT z (X z) (.iload_n 0, 1, 0, 0, 0, [], 0, 0) 6 8 := X_at (r := mi6) rfl rfl
theorem x6_9 {z : P0} : X z 6 9 = XI mT z (X z) (.invokestatic 41, 3, 1, 8, 0, [7], 0, 0) 6 9 := X_at (r := mi6) rfl rfl
theorem x6_12 {z : P0} : X z 6 12 = XI mT z (X z) (.ifCond .eq 7, 3, 19, 0, 0, [], 0, 0) 6 12 := X_at (r := mi6) rfl rfl
theorem x6_15 {z : P0} : X z 6 15 = XI mT z (X z) (.iconst 2, 1, 0, 0, 0, [], nI 2, 0) 6 15 := X_at (r := mi6) rfl rfl
theorem x6_16 {z : P0} : X z 6 16 = XI mT z (X z) (.goto 5, 3, 21, 0, 0, [], 0, 0) 6 16 := X_at (r := mi6) rfl rfl
theorem x6_19 {z : P0} : X z 6 19 = XI mT z (X z) (.bipush 7, 2, 0, 0, 0, [], nI 7, 0) 6 19 := X_at (r := mi6) rfl rfl
theorem x6_21 {z : P0} : X z 6 21 = XI mT z (X z) (.ireturn, 1, 0, 0, 0, [], 0, 0) 6 21 := X_at (r := mi6) rfl rfl
theorem x7_0 {z : P0} : X z 7 0 = XI mT z (X z) (.iload_n 0, 1, 0, 0, 0, [], 0, 0) 7 0 := X_at (r := mi7) rfl rfl
theorem x7_1 {z : P0} : X z 7 1 = XI mT z (X z) (.bipush 110, 2, 0, 0, 0, [], nI 110, 0) 7 1 := X_at (r := mi7) rfl rfl
theorem x7_3 {z : P0} : X z 7 3 = XI mT z (X z) (.if_icmp .eq 21, 3, 24, 0, 0, [], 0, 0) 7 3 := X_at (r := mi7) rfl rfl
theorem x7_6 {z : P0} : X z 7 6 = XI mT z (X z) (.iload_n 0, 1, 0, 0, 0, [], 0, 0) 7 6 := X_at (r := mi7) rfl rfl
theorem x7_7 {z : P0} : X z 7 7 = XI mT z (X z) (.bipush 103, 2, 0, 0, 0, [], nI 103, 0) 7 7 := X_at (r := mi7) rfl rfl
theorem x7_9 {z : P0} : X z 7 9 = XI mT z (X z) (.if_icmp .eq 15, 3, 24, 0, 0, [], 0, 0) 7 9 := X_at (r := mi7) rfl rfl
theorem x7_12 {z : P0} : X z 7 12 = XI mT z (X z) (.iload_n 0, 1, 0, 0, 0, [], 0, 0) 7 12 := X_at (r := mi7) rfl rfl
theorem x7_13 {z : P0} : X z 7 13 = XI mT z (X z) (.bipush 119, 2, 0, 0, 0, [], nI 119, 0) 7 13 := X_at (r := mi7) rfl rfl
theorem x7_15 {z : P0} : X z 7 15 = XI mT z (X z) (.if_icmp .eq 9, 3, 24, 0, 0, [], 0, 0) 7 15 := X_at (r := mi7) rfl rfl
theorem x7_18 {z : P0} : X z 7 18 = XI mT z (X z) (.iload_n 0, 1, 0, 0, 0, [], 0, 0) 7 18 := X_at (r := mi7) rfl rfl
theorem x7_19 {z : P0} : X z 7 19 = XI mT z (X z) (.bipush 99, 2, 0, 0, 0, [], nI 99, 0) 7 19 := X_at (r := mi7) rfl rfl
theorem x7_21 {z : P0} : X z 7 21 = XI mT z (X z) (.if_icmp .ne 7, 3, 28, 0, 0, [], 0, 0) 7 21 := X_at (r := mi7) rfl rfl
theorem x7_24 {z : P0} : X z 7 24 = XI mT z (X z) (.iconst 1, 1, 0, 0, 0, [], nI 1, 0) 7 24 := X_at (r := mi7) rfl rfl
theorem x7_25 {z : P0} : X z 7 25 = XI mT z (X z) (.goto 4, 3, 29, 0, 0, [], 0, 0) 7 25 := X_at (r := mi7) rfl rfl
theorem x7_28 {z : P0} : X z 7 28 = XI mT z (X z) (.iconst 0, 1, 0, 0, 0, [], nI 0, 0) 7 28 := X_at (r := mi7) rfl rfl
theorem x7_29 {z : P0} : X z 7 29 = XI mT z (X z) (.ireturn, 1, 0, 0, 0, [], 0, 0) 7 29 := X_at (r := mi7) rfl rfl
theorem x8_0 {z : P0} : X z 8 0 = XI mT z (X z) (.iload_n 0, 1, 0, 0, 0, [], 0, 0) 8 0 := X_at (r := mi8) rfl rfl
theorem x8_1 {z : P0} : X z 8 1 = XI mT z (X z) (.invokestatic 27, 3, 1, 88, 1, [3], 0, 0) 8 1 := X_at (r := mi8) rfl rfl
theorem x8_4 {z : P0} : X z 8 4 = XI mT z (X z) (.ifCond .ne 33, 3, 37, 0, 0, [], 0, 0) 8 4 := X_at (r := mi8) rfl rfl
theorem x8_7 {z : P0} : X z 8 7 = XI mT z (X z) (.iload_n 0, 1, 0, 0, 0, [], 0, 0) 8 7 := X_at (r := mi8) rfl rfl
theorem x8_8 {z : P0} : X z 8 8 = XI mT z (X z) (.bipush 95, 2, 0, 0, 0, [], nI 95, 0) 8 8 := X_at (r := mi8) rfl rfl
theorem x8_10 {z : P0} : X z 8 10 = XI mT z (X z) (.if_icmp .eq 27, 3, 37, 0, 0, [], 0, 0) 8 10 := X_at (r := mi8) rfl rfl
theorem x8_13 {z : P0} : X z 8 13 = XI mT z (X z) (.iload_n 0, 1, 0, 0, 0, [], 0, 0) 8 13 := X_at (r := mi8) rfl rfl
theorem x8_14 {z : P0} : X z 8 14 = XI mT z (X z) (.bipush 44, 2, 0, 0, 0, [], nI 44, 0) 8 14 := X_at (r := mi8) rfl rfl
theorem x8_16 {z : P0} : X z 8 16 = XI mT z (X z) (.if_icmp .eq 21, 3, 37, 0, 0, [], 0, 0) 8 16 := X_at (r := mi8) rfl rfl
theorem x8_19 {z : P0} : X z 8 19 = XI mT z (X z) (.iload_n 0, 1, 0, 0, 0, [], 0, 0) 8 19 := X_at (r := mi8) rfl rfl
theorem x8_20 {z : P0} : X z 8 20 = XI mT z (X z) (.bipush 46, 2, 0, 0, 0, [], nI 46, 0) 8 20 := X_at (r := mi8) rfl rfl
theorem x8_22 {z : P0} : X z 8 22 = XI mT z (X z) (.if_icmp .eq 15, 3, 37, 0, 0, [], 0, 0) 8 22 := X_at (r := mi8) rfl rfl
theorem x8_25 {z : P0} : X z 8 25 = XI mT z (X z) (.iload_n 0, 1, 0, 0, 0, [], 0, 0) 8 25 := X_at (r := mi8) rfl rfl
theorem x8_26 {z : P0} : X z 8 26 = XI mT z (X z) (.bipush 47, 2, 0, 0, 0, [], nI 47, 0) 8 26 := X_at (r := mi8) rfl rfl
theorem x8_28 {z : P0} : X z 8 28 = XI mT z (X z) (.if_icmp .eq 9, 3, 37, 0, 0, [], 0, 0) 8 28 := X_at (r := mi8) rfl rfl
theorem x8_31 {z : P0} : X z 8 31 = XI mT z (X z) (.iload_n 0, 1, 0, 0, 0, [], 0, 0) 8 31 := X_at (r := mi8) rfl rfl
theorem x8_32 {z : P0} : X z 8 32 = XI mT z (X z) (.bipush 124, 2, 0, 0, 0, [], nI 124, 0) 8 32 := X_at (r := mi8) rfl rfl
theorem x8_34 {z : P0} : X z 8 34 = XI mT z (X z) (.if_icmp .ne 7, 3, 41, 0, 0, [], 0, 0) 8 34 := X_at (r := mi8) rfl rfl
theorem x8_37 {z : P0} : X z 8 37 = XI mT z (X z) (.iconst 1, 1, 0, 0, 0, [], nI 1, 0) 8 37 := X_at (r := mi8) rfl rfl
theorem x8_38 {z : P0} : X z 8 38 = XI mT z (X z) (.goto 4, 3, 42, 0, 0, [], 0, 0) 8 38 := X_at (r := mi8) rfl rfl
theorem x8_41 {z : P0} : X z 8 41 = XI mT z (X z) (.iconst 0, 1, 0, 0, 0, [], nI 0, 0) 8 41 := X_at (r := mi8) rfl rfl
theorem x8_42 {z : P0} : X z 8 42 = XI mT z (X z) (.ireturn, 1, 0, 0, 0, [], 0, 0) 8 42 := X_at (r := mi8) rfl rfl
theorem x9_0 {z : P0} : X z 9 0 = XI mT z (X z) (.aload_n 0, 1, 0, 0, 0, [], 0, 0) 9 0 := X_at (r := mi9) rfl rfl
theorem x9_1 {z : P0} : X z 9 1 = XI mT z (X z) (.invokespecial 3, 3, 0, 9003, 0, [8], 0, 0) 9 1 := X_at (r := mi9) rfl rfl
theorem x9_4 {z : P0} : X z 9 4 = XI mT z (X z) (.aload_n 0, 1, 0, 0, 0, [], 0, 0) 9 4 := X_at (r := mi9) rfl rfl
theorem x9_5 {z : P0} : X z 9 5 = XI mT z (X z) (.sipush 1660, 3, 0, 0, 0, [], nI 1660, 0) 9 5 := X_at (r := mi9) rfl rfl
theorem x9_8 {z : P0} : X z 9 8 = XI mT z (X z) (.newarray .int, 2, 20, 0, 0, [], 0, 0) 9 8 := X_at (r := mi9) rfl rfl
theorem x9_10 {z : P0} : X z 9 10 = XI mT z (X z) (.putfield 9, 3, 1, 0, 3, [2], 0, 0) 9 10 := X_at (r := mi9) rfl rfl
theorem x9_13 {z : P0} : X z 9 13 = XI mT z (X z) (.aload_n 0, 1, 0, 0, 0, [], 0, 0) 9 13 := X_at (r := mi9) rfl rfl
theorem x9_14 {z : P0} : X z 9 14 = XI mT z (X z) (.bipush 6, 2, 0, 0, 0, [], nI 6, 0) 9 14 := X_at (r := mi9) rfl rfl
theorem x9_16 {z : P0} : X z 9 16 = XI mT z (X z) (.newarray .int, 2, 20, 0, 0, [], 0, 0) 9 16 := X_at (r := mi9) rfl rfl
theorem x9_18 {z : P0} : X z 9 18 = XI mT z (X z) (.putfield 15, 3, 1, 2, 3, [3], 0, 0) 9 18 := X_at (r := mi9) rfl rfl
theorem x9_21 {z : P0} : X z 9 21 = XI mT z (X z) (.return_, 1, 0, 0, 0, [], 0, 0) 9 21 := X_at (r := mi9) rfl rfl
theorem x10_0 {z : P0} : X z 10 0 = XI mT z (X z) (.aload_n 0, 1, 0, 0, 0, [], 0, 0) 10 0 := X_at (r := mi10) rfl rfl
theorem x10_1 {z : P0} : X z 10 1 = XI mT z (X z) (.iconst 0, 1, 0, 0, 0, [], nI 0, 0) 10 1 := X_at (r := mi10) rfl rfl
theorem x10_2 {z : P0} : X z 10 2 = XI mT z (X z) (.putfield 18, 3, 1, 1, 0, [4], 0, 0) 10 2 := X_at (r := mi10) rfl rfl
theorem x10_5 {z : P0} : X z 10 5 = XI mT z (X z) (.aload_n 1, 1, 1, 0, 0, [], 0, 0) 10 5 := X_at (r := mi10) rfl rfl
theorem x10_6 {z : P0} : X z 10 6 = XI mT z (X z) (.getfield 22, 3, 8, 4, 3, [5], 0, 0) 10 6 := X_at (r := mi10) rfl rfl
theorem x10_9 {z : P0} : X z 10 9 = XI mT z (X z) (.astore_n 3, 1, 3, 0, 0, [], 0, 0) 10 9 := X_at (r := mi10) rfl rfl
theorem x10_10 {z : P0} : X z 10 10 = XI mT z (X z) (.iconst 0, 1, 0, 0, 0, [], nI 0, 0) 10 10 := X_at (r := mi10) rfl rfl
theorem x10_11 {z : P0} : X z 10 11 = XI mT z (X z) (.istore 4, 2, 4, 0, 0, [], 0, 0) 10 11 := X_at (r := mi10) rfl rfl
theorem x10_13 {z : P0} : X z 10 13 = XI mT z (X z) (.iconst 0, 1, 0, 0, 0, [], nI 0, 0) 10 13 := X_at (r := mi10) rfl rfl
theorem x10_14 {z : P0} : X z 10 14 = XI mT z (X z) (.istore 5, 2, 5, 0, 0, [], 0, 0) 10 14 := X_at (r := mi10) rfl rfl
theorem x10_16 {z : P0} : X z 10 16 = XI mT z (X z) (.iload 5, 2, 5, 0, 0, [], 0, 0) 10 16 := X_at (r := mi10) rfl rfl
theorem x10_18 {z : P0} : X z 10 18 = XI mT z (X z) (.aload_n 3, 1, 3, 0, 0, [], 0, 0) 10 18 := X_at (r := mi10) rfl rfl
theorem x10_19 {z : P0} : X z 10 19 = XI mT z (X z) (.getfield 28, 3, 4, 1, 0, [6], 0, 0) 10 19 := X_at (r := mi10) rfl rfl
theorem x10_22 {z : P0} : X z 10 22 = XI mT z (X z) (.if_icmp .ge 111, 3, 133, 0, 0, [], 0, 0) 10 22 := X_at (r := mi10) rfl rfl
theorem x10_25 {z : P0} : X z 10 25 = XI mT z (X z) (.aload_n 3, 1, 3, 0, 0, [], 0, 0) 10 25 := X_at (r := mi10) rfl rfl
theorem x10_26 {z : P0} : X z 10 26 = XI mT z (X z) (.getfield 31, 3, 4, 0, 3, [7], 0, 0) 10 26 := X_at (r := mi10) rfl rfl
theorem x10_29 {z : P0} : X z 10 29 = XI mT z (X z) (.iload 5, 2, 5, 0, 0, [], 0, 0) 10 29 := X_at (r := mi10) rfl rfl
theorem x10_31 {z : P0} : X z 10 31 = XI mT z (X z) (.iaload, 1, 0, 0, 0, [], 0, 0) 10 31 := X_at (r := mi10) rfl rfl
theorem x10_32 {z : P0} : X z 10 32 = XI mT z (X z) (.istore 6, 2, 6, 0, 0, [], 0, 0) 10 32 := X_at (r := mi10) rfl rfl
theorem x10_34 {z : P0} : X z 10 34 = XI mT z (X z) (.iload 6, 2, 6, 0, 0, [], 0, 0) 10 34 := X_at (r := mi10) rfl rfl
theorem x10_36 {z : P0} : X z 10 36 = XI mT z (X z) (.bipush 123, 2, 0, 0, 0, [], nI 123, 0) 10 36 := X_at (r := mi10) rfl rfl
theorem x10_38 {z : P0} : X z 10 38 = XI mT z (X z) (.if_icmp .ne 21, 3, 59, 0, 0, [], 0, 0) 10 38 := X_at (r := mi10) rfl rfl
theorem x10_41 {z : P0} : X z 10 41 = XI mT z (X z) (.aload_n 2, 1, 2, 0, 0, [], 0, 0) 10 41 := X_at (r := mi10) rfl rfl
theorem x10_42 {z : P0} : X z 10 42 = XI mT z (X z) (.getfield 34, 3, 2, 1, 0, [8], 0, 0) 10 42 := X_at (r := mi10) rfl rfl
theorem x10_45 {z : P0} : X z 10 45 = XI mT z (X z) (.iconst 2, 1, 0, 0, 0, [], nI 2, 0) 10 45 := X_at (r := mi10) rfl rfl
theorem x10_46 {z : P0} : X z 10 46 = XI mT z (X z) (.if_icmp .ge 7, 3, 53, 0, 0, [], 0, 0) 10 46 := X_at (r := mi10) rfl rfl
theorem x10_49 {z : P0} : X z 10 49 = XI mT z (X z) (.iconst 1, 1, 0, 0, 0, [], nI 1, 0) 10 49 := X_at (r := mi10) rfl rfl
theorem x10_50 {z : P0} : X z 10 50 = XI mT z (X z) (.goto 4, 3, 54, 0, 0, [], 0, 0) 10 50 := X_at (r := mi10) rfl rfl
theorem x10_53 {z : P0} : X z 10 53 = XI mT z (X z) (.iconst 0, 1, 0, 0, 0, [], nI 0, 0) 10 53 := X_at (r := mi10) rfl rfl
theorem x10_54 {z : P0} : X z 10 54 = XI mT z (X z) (.istore 4, 2, 4, 0, 0, [], 0, 0) 10 54 := X_at (r := mi10) rfl rfl
theorem x10_56 {z : P0} : X z 10 56 = XI mT z (X z) (.goto 71, 3, 127, 0, 0, [], 0, 0) 10 56 := X_at (r := mi10) rfl rfl
theorem x10_59 {z : P0} : X z 10 59 = XI mT z (X z) (.iload 6, 2, 6, 0, 0, [], 0, 0) 10 59 := X_at (r := mi10) rfl rfl
theorem x10_61 {z : P0} : X z 10 61 = XI mT z (X z) (.bipush 125, 2, 0, 0, 0, [], nI 125, 0) 10 61 := X_at (r := mi10) rfl rfl
theorem x10_63 {z : P0} : X z 10 63 = XI mT z (X z) (.if_icmp .ne 9, 3, 72, 0, 0, [], 0, 0) 10 63 := X_at (r := mi10) rfl rfl
theorem x10_66 {z : P0} : X z 10 66 = XI mT z (X z) (.iconst 0, 1, 0, 0, 0, [], nI 0, 0) 10 66 := X_at (r := mi10) rfl rfl
theorem x10_67 {z : P0} : X z 10 67 = XI mT z (X z) (.istore 4, 2, 4, 0, 0, [], 0, 0) 10 67 := X_at (r := mi10) rfl rfl
theorem x10_69 {z : P0} : X z 10 69 = XI mT z (X z) (.goto 58, 3, 127, 0, 0, [], 0, 0) 10 69 := X_at (r := mi10) rfl rfl
theorem x10_72 {z : P0} : X z 10 72 = XI mT z (X z) (.iload 6, 2, 6, 0, 0, [], 0, 0) 10 72 := X_at (r := mi10) rfl rfl
theorem x10_74 {z : P0} : X z 10 74 = XI mT z (X z) (.bipush 60, 2, 0, 0, 0, [], nI 60, 0) 10 74 := X_at (r := mi10) rfl rfl
theorem x10_76 {z : P0} : X z 10 76 = XI mT z (X z) (.if_icmp .ne 40, 3, 116, 0, 0, [], 0, 0) 10 76 := X_at (r := mi10) rfl rfl
theorem x10_79 {z : P0} : X z 10 79 = XI mT z (X z) (.iload 4, 2, 4, 0, 0, [], 0, 0) 10 79 := X_at (r := mi10) rfl rfl
theorem x10_81 {z : P0} : X z 10 81 = XI mT z (X z) (.ifCond .ne 29, 3, 110, 0, 0, [], 0, 0) 10 81 := X_at (r := mi10) rfl rfl
theorem x10_84 {z : P0} : X z 10 84 = XI mT z (X z) (.iload 5, 2, 5, 0, 0, [], 0, 0) 10 84 := X_at (r := mi10) rfl rfl
theorem x10_86 {z : P0} : X z 10 86 = XI mT z (X z) (.iconst 1, 1, 0, 0, 0, [], nI 1, 0) 10 86 := X_at (r := mi10) rfl rfl
theorem x10_87 {z : P0} : X z 10 87 = XI mT z (X z) (.iadd, 1, 0, 0, 0, [], 0, 0) 10 87 := X_at (r := mi10) rfl rfl
theorem x10_88 {z : P0} : X z 10 88 = XI mT z (X z) (.aload_n 3, 1, 3, 0, 0, [], 0, 0) 10 88 := X_at (r := mi10) rfl rfl
theorem x10_89 {z : P0} : X z 10 89 = XI mT z (X z) (.getfield 28, 3, 4, 1, 0, [6], 0, 0) 10 89 := X_at (r := mi10) rfl rfl
theorem x10_92 {z : P0} : X z 10 92 = XI mT z (X z) (.if_icmp .ge 18, 3, 110, 0, 0, [], 0, 0) 10 92 := X_at (r := mi10) rfl rfl
theorem x10_95 {z : P0} : X z 10 95 = XI mT z (X z) (.aload_n 0, 1, 0, 0, 0, [], 0, 0) 10 95 := X_at (r := mi10) rfl rfl
theorem x10_96 {z : P0} : X z 10 96 = XI mT z (X z) (.aload_n 3, 1, 3, 0, 0, [], 0, 0) 10 96 := X_at (r := mi10) rfl rfl
theorem x10_97 {z : P0} : X z 10 97 = XI mT z (X z) (.getfield 31, 3, 4, 0, 3, [7], 0, 0) 10 97 := X_at (r := mi10) rfl rfl
theorem x10_100 {z : P0} : X z 10 100 = XI mT z (X z) (.iload 5, 2, 5, 0, 0, [], 0, 0) 10 100 := X_at (r := mi10) rfl rfl
theorem x10_102 {z : P0} : X z 10 102 = XI mT z (X z) (.iconst 1, 1, 0, 0, 0, [], nI 1, 0) 10 102 := X_at (r := mi10) rfl rfl
theorem x10_103 {z : P0} : X z 10 103 = XI mT z (X z) (.iadd, 1, 0, 0, 0, [], 0, 0) 10 103 := X_at (r := mi10) rfl rfl
theorem x10_104 {z : P0} : X z 10 104 = XI mT z (X z) (.iaload, 1, 0, 0, 0, [], 0, 0) 10 104 := X_at (r := mi10) rfl rfl
theorem x10_105 {z : P0} : X z 10 105 = XI mT z (X z) (.aload_n 1, 1, 1, 0, 0, [], 0, 0) 10 105 := X_at (r := mi10) rfl rfl
theorem x10_106 {z : P0} : X z 10 106 = XI mT z (X z) (.aload_n 2, 1, 2, 0, 0, [], 0, 0) 10 106 := X_at (r := mi10) rfl rfl
theorem x10_107 {z : P0} : X z 10 107 = XI mT z (X z) (.invokevirtual 39, 3, 3, 11, 0, [9], 0, 0) 10 107 := X_at (r := mi10) rfl rfl
theorem x10_110 {z : P0} : X z 10 110 = XI mT z (X z) (.iinc 5 2, 3, 5, 0, 0, [], nI 2, 0) 10 110 := X_at (r := mi10) rfl rfl
theorem x10_113 {z : P0} : X z 10 113 = XI mT z (X z) (.goto 14, 3, 127, 0, 0, [], 0, 0) 10 113 := X_at (r := mi10) rfl rfl
theorem x10_116 {z : P0} : X z 10 116 = XI mT z (X z) (.iload 4, 2, 4, 0, 0, [], 0, 0) 10 116 := X_at (r := mi10) rfl rfl
theorem x10_118 {z : P0} : X z 10 118 = XI mT z (X z) (.ifCond .ne 9, 3, 127, 0, 0, [], 0, 0) 10 118 := X_at (r := mi10) rfl rfl
theorem x10_121 {z : P0} : X z 10 121 = XI mT z (X z) (.aload_n 0, 1, 0, 0, 0, [], 0, 0) 10 121 := X_at (r := mi10) rfl rfl
theorem x10_122 {z : P0} : X z 10 122 = XI mT z (X z) (.iload 6, 2, 6, 0, 0, [], 0, 0) 10 122 := X_at (r := mi10) rfl rfl
theorem x10_124 {z : P0} : X z 10 124 = XI mT z (X z) (.invokevirtual 43, 3, 1, 19, 0, [10], 0, 0) 10 124 := X_at (r := mi10) rfl rfl
theorem x10_127 {z : P0} : X z 10 127 = XI mT z (X z) (.iinc 5 1, 3, 5, 0, 0, [], nI 1, 0) 10 127 := X_at (r := mi10) rfl rfl
theorem x10_130 {z : P0} : X z 10 130 = XI mT z (X z) (.goto (-114), 3, 16, 0, 0, [], 0, 0) 10 130 := X_at (r := mi10) rfl rfl
theorem x10_133 {z : P0} : X z 10 133 = XI mT z (X z) (.return_, 1, 0, 0, 0, [], 0, 0) 10 133 := X_at (r := mi10) rfl rfl
theorem x11_0 {z : P0} : X z 11 0 = XI mT z (X z) (.iload_n 1, 1, 1, 0, 0, [], 0, 0) 11 0 := X_at (r := mi11) rfl rfl
theorem x11_1 {z : P0} : X z 11 1 = XI mT z (X z) (.bipush 110, 2, 0, 0, 0, [], nI 110, 0) 11 1 := X_at (r := mi11) rfl rfl
theorem x11_3 {z : P0} : X z 11 3 = XI mT z (X z) (.if_icmp .ne 12, 3, 15, 0, 0, [], 0, 0) 11 3 := X_at (r := mi11) rfl rfl
theorem x11_6 {z : P0} : X z 11 6 = XI mT z (X z) (.aload_n 0, 1, 0, 0, 0, [], 0, 0) 11 6 := X_at (r := mi11) rfl rfl
theorem x11_7 {z : P0} : X z 11 7 = XI mT z (X z) (.aload_n 2, 1, 2, 0, 0, [], 0, 0) 11 7 := X_at (r := mi11) rfl rfl
theorem x11_8 {z : P0} : X z 11 8 = XI mT z (X z) (.aload_n 3, 1, 3, 0, 0, [], 0, 0) 11 8 := X_at (r := mi11) rfl rfl
theorem x11_9 {z : P0} : X z 11 9 = XI mT z (X z) (.invokevirtual 47, 3, 2, 12, 0, [11], 0, 0) 11 9 := X_at (r := mi11) rfl rfl
theorem x11_12 {z : P0} : X z 11 12 = XI mT z (X z) (.goto 44, 3, 56, 0, 0, [], 0, 0) 11 12 := X_at (r := mi11) rfl rfl
theorem x11_15 {z : P0} : X z 11 15 = XI mT z (X z) (.iload_n 1, 1, 1, 0, 0, [], 0, 0) 11 15 := X_at (r := mi11) rfl rfl
theorem x11_16 {z : P0} : X z 11 16 = XI mT z (X z) (.bipush 103, 2, 0, 0, 0, [], nI 103, 0) 11 16 := X_at (r := mi11) rfl rfl
theorem x11_18 {z : P0} : X z 11 18 = XI mT z (X z) (.if_icmp .ne 12, 3, 30, 0, 0, [], 0, 0) 11 18 := X_at (r := mi11) rfl rfl
theorem x11_21 {z : P0} : X z 11 21 = XI mT z (X z) (.aload_n 0, 1, 0, 0, 0, [], 0, 0) 11 21 := X_at (r := mi11) rfl rfl
theorem x11_22 {z : P0} : X z 11 22 = XI mT z (X z) (.aload_n 2, 1, 2, 0, 0, [], 0, 0) 11 22 := X_at (r := mi11) rfl rfl
theorem x11_23 {z : P0} : X z 11 23 = XI mT z (X z) (.aload_n 3, 1, 3, 0, 0, [], 0, 0) 11 23 := X_at (r := mi11) rfl rfl
theorem x11_24 {z : P0} : X z 11 24 = XI mT z (X z) (.invokevirtual 51, 3, 2, 13, 0, [12], 0, 0) 11 24 := X_at (r := mi11) rfl rfl
theorem x11_27 {z : P0} : X z 11 27 = XI mT z (X z) (.goto 29, 3, 56, 0, 0, [], 0, 0) 11 27 := X_at (r := mi11) rfl rfl
theorem x11_30 {z : P0} : X z 11 30 = XI mT z (X z) (.iload_n 1, 1, 1, 0, 0, [], 0, 0) 11 30 := X_at (r := mi11) rfl rfl
theorem x11_31 {z : P0} : X z 11 31 = XI mT z (X z) (.bipush 119, 2, 0, 0, 0, [], nI 119, 0) 11 31 := X_at (r := mi11) rfl rfl
theorem x11_33 {z : P0} : X z 11 33 = XI mT z (X z) (.if_icmp .ne 12, 3, 45, 0, 0, [], 0, 0) 11 33 := X_at (r := mi11) rfl rfl
theorem x11_36 {z : P0} : X z 11 36 = XI mT z (X z) (.aload_n 0, 1, 0, 0, 0, [], 0, 0) 11 36 := X_at (r := mi11) rfl rfl
theorem x11_37 {z : P0} : X z 11 37 = XI mT z (X z) (.aload_n 2, 1, 2, 0, 0, [], 0, 0) 11 37 := X_at (r := mi11) rfl rfl
theorem x11_38 {z : P0} : X z 11 38 = XI mT z (X z) (.aload_n 3, 1, 3, 0, 0, [], 0, 0) 11 38 := X_at (r := mi11) rfl rfl
theorem x11_39 {z : P0} : X z 11 39 = XI mT z (X z) (.invokevirtual 54, 3, 2, 15, 0, [13], 0, 0) 11 39 := X_at (r := mi11) rfl rfl
theorem x11_42 {z : P0} : X z 11 42 = XI mT z (X z) (.goto 14, 3, 56, 0, 0, [], 0, 0) 11 42 := X_at (r := mi11) rfl rfl
theorem x11_45 {z : P0} : X z 11 45 = XI mT z (X z) (.aload_n 0, 1, 0, 0, 0, [], 0, 0) 11 45 := X_at (r := mi11) rfl rfl
theorem x11_46 {z : P0} : X z 11 46 = XI mT z (X z) (.bipush 48, 2, 0, 0, 0, [], nI 48, 0) 11 46 := X_at (r := mi11) rfl rfl
theorem x11_48 {z : P0} : X z 11 48 = XI mT z (X z) (.aload_n 3, 1, 3, 0, 0, [], 0, 0) 11 48 := X_at (r := mi11) rfl rfl
theorem x11_49 {z : P0} : X z 11 49 = XI mT z (X z) (.getfield 34, 3, 2, 1, 0, [8], 0, 0) 11 49 := X_at (r := mi11) rfl rfl
theorem x11_52 {z : P0} : X z 11 52 = XI mT z (X z) (.iadd, 1, 0, 0, 0, [], 0, 0) 11 52 := X_at (r := mi11) rfl rfl
theorem x11_53 {z : P0} : X z 11 53 = XI mT z (X z) (.invokevirtual 43, 3, 1, 19, 0, [10], 0, 0) 11 53 := X_at (r := mi11) rfl rfl
theorem x11_56 {z : P0} : X z 11 56 = XI mT z (X z) (.return_, 1, 0, 0, 0, [], 0, 0) 11 56 := X_at (r := mi11) rfl rfl
theorem x12_0 {z : P0} : X z 12 0 = XI mT z (X z) (.iconst 0, 1, 0, 0, 0, [], nI 0, 0) 12 0 := X_at (r := mi12) rfl rfl
theorem x12_1 {z : P0} : X z 12 1 = XI mT z (X z) (.istore_n 3, 1, 3, 0, 0, [], 0, 0) 12 1 := X_at (r := mi12) rfl rfl
theorem x12_2 {z : P0} : X z 12 2 = XI mT z (X z) (.iload_n 3, 1, 3, 0, 0, [], 0, 0) 12 2 := X_at (r := mi12) rfl rfl
theorem x12_3 {z : P0} : X z 12 3 = XI mT z (X z) (.aload_n 2, 1, 2, 0, 0, [], 0, 0) 12 3 := X_at (r := mi12) rfl rfl
theorem x12_4 {z : P0} : X z 12 4 = XI mT z (X z) (.getfield 34, 3, 2, 1, 0, [8], 0, 0) 12 4 := X_at (r := mi12) rfl rfl
theorem x12_7 {z : P0} : X z 12 7 = XI mT z (X z) (.if_icmp .ge 61, 3, 68, 0, 0, [], 0, 0) 12 7 := X_at (r := mi12) rfl rfl
theorem x12_10 {z : P0} : X z 12 10 = XI mT z (X z) (.aload_n 1, 1, 1, 0, 0, [], 0, 0) 12 10 := X_at (r := mi12) rfl rfl
theorem x12_11 {z : P0} : X z 12 11 = XI mT z (X z) (.getfield 57, 3, 8, 0, 3, [9], 0, 0) 12 11 := X_at (r := mi12) rfl rfl
theorem x12_14 {z : P0} : X z 12 14 = XI mT z (X z) (.aload_n 2, 1, 2, 0, 0, [], 0, 0) 12 14 := X_at (r := mi12) rfl rfl
theorem x12_15 {z : P0} : X z 12 15 = XI mT z (X z) (.getfield 61, 3, 2, 0, 3, [10], 0, 0) 12 15 := X_at (r := mi12) rfl rfl
theorem x12_18 {z : P0} : X z 12 18 = XI mT z (X z) (.iload_n 3, 1, 3, 0, 0, [], 0, 0) 12 18 := X_at (r := mi12) rfl rfl
theorem x12_19 {z : P0} : X z 12 19 = XI mT z (X z) (.iaload, 1, 0, 0, 0, [], 0, 0) 12 19 := X_at (r := mi12) rfl rfl
theorem x12_20 {z : P0} : X z 12 20 = XI mT z (X z) (.aaload, 1, 0, 0, 0, [], 0, 0) 12 20 := X_at (r := mi12) rfl rfl
theorem x12_21 {z : P0} : X z 12 21 = XI mT z (X z) (.astore 4, 2, 4, 0, 0, [], 0, 0) 12 21 := X_at (r := mi12) rfl rfl
theorem x12_23 {z : P0} : X z 12 23 = XI mT z (X z) (.iload_n 3, 1, 3, 0, 0, [], 0, 0) 12 23 := X_at (r := mi12) rfl rfl
theorem x12_24 {z : P0} : X z 12 24 = XI mT z (X z) (.ifCond .le 24, 3, 48, 0, 0, [], 0, 0) 12 24 := X_at (r := mi12) rfl rfl
theorem x12_27 {z : P0} : X z 12 27 = XI mT z (X z) (.aload_n 0, 1, 0, 0, 0, [], 0, 0) 12 27 := X_at (r := mi12) rfl rfl
theorem x12_28 {z : P0} : X z 12 28 = XI mT z (X z) (.iload_n 3, 1, 3, 0, 0, [], 0, 0) 12 28 := X_at (r := mi12) rfl rfl
theorem x12_29 {z : P0} : X z 12 29 = XI mT z (X z) (.aload_n 2, 1, 2, 0, 0, [], 0, 0) 12 29 := X_at (r := mi12) rfl rfl
theorem x12_30 {z : P0} : X z 12 30 = XI mT z (X z) (.getfield 34, 3, 2, 1, 0, [8], 0, 0) 12 30 := X_at (r := mi12) rfl rfl
theorem x12_33 {z : P0} : X z 12 33 = XI mT z (X z) (.iconst 1, 1, 0, 0, 0, [], nI 1, 0) 12 33 := X_at (r := mi12) rfl rfl
theorem x12_34 {z : P0} : X z 12 34 = XI mT z (X z) (.isub, 1, 0, 0, 0, [], 0, 0) 12 34 := X_at (r := mi12) rfl rfl
theorem x12_35 {z : P0} : X z 12 35 = XI mT z (X z) (.if_icmp .ne 8, 3, 43, 0, 0, [], 0, 0) 12 35 := X_at (r := mi12) rfl rfl
theorem x12_38 {z : P0} : X z 12 38 = XI mT z (X z) (.bipush 38, 2, 0, 0, 0, [], nI 38, 0) 12 38 := X_at (r := mi12) rfl rfl
theorem x12_40 {z : P0} : X z 12 40 = XI mT z (X z) (.goto 5, 3, 45, 0, 0, [], 0, 0) 12 40 := X_at (r := mi12) rfl rfl
theorem x12_43 {z : P0} : X z 12 43 = XI mT z (X z) (.bipush 44, 2, 0, 0, 0, [], nI 44, 0) 12 43 := X_at (r := mi12) rfl rfl
theorem x12_45 {z : P0} : X z 12 45 = XI mT z (X z) (.invokevirtual 43, 3, 1, 19, 0, [10], 0, 0) 12 45 := X_at (r := mi12) rfl rfl
theorem x12_48 {z : P0} : X z 12 48 = XI mT z (X z) (.aload_n 0, 1, 0, 0, 0, [], 0, 0) 12 48 := X_at (r := mi12) rfl rfl
theorem x12_49 {z : P0} : X z 12 49 = XI mT z (X z) (.aload 4, 2, 4, 0, 0, [], 0, 0) 12 49 := X_at (r := mi12) rfl rfl
theorem x12_51 {z : P0} : X z 12 51 = XI mT z (X z) (.getfield 63, 3, 7, 0, 3, [11], 0, 0) 12 51 := X_at (r := mi12) rfl rfl
theorem x12_54 {z : P0} : X z 12 54 = XI mT z (X z) (.aload 4, 2, 4, 0, 0, [], 0, 0) 12 54 := X_at (r := mi12) rfl rfl
theorem x12_56 {z : P0} : X z 12 56 = XI mT z (X z) (.getfield 68, 3, 7, 1, 0, [12], 0, 0) 12 56 := X_at (r := mi12) rfl rfl
theorem x12_59 {z : P0} : X z 12 59 = XI mT z (X z) (.invokevirtual 71, 3, 2, 17, 0, [14], 0, 0) 12 59 := X_at (r := mi12) rfl rfl
theorem x12_62 {z : P0} : X z 12 62 = XI mT z (X z) (.iinc 3 1, 3, 3, 0, 0, [], nI 1, 0) 12 62 := X_at (r := mi12) rfl rfl
theorem x12_65 {z : P0} : X z 12 65 = XI mT z (X z) (.goto (-63), 3, 2, 0, 0, [], 0, 0) 12 65 := X_at (r := mi12) rfl rfl
theorem x12_68 {z : P0} : X z 12 68 = XI mT z (X z) (.return_, 1, 0, 0, 0, [], 0, 0) 12 68 := X_at (r := mi12) rfl rfl
theorem x13_0 {z : P0} : X z 13 0 = XI mT z (X z) (.aload_n 1, 1, 1, 0, 0, [], 0, 0) 13 0 := X_at (r := mi13) rfl rfl
theorem x13_1 {z : P0} : X z 13 1 = XI mT z (X z) (.getfield 57, 3, 8, 0, 3, [9], 0, 0) 13 1 := X_at (r := mi13) rfl rfl
theorem x13_4 {z : P0} : X z 13 4 = XI mT z (X z) (.aload_n 2, 1, 2, 0, 0, [], 0, 0) 13 4 := X_at (r := mi13) rfl rfl
theorem x13_5 {z : P0} : X z 13 5 = XI mT z (X z) (.getfield 61, 3, 2, 0, 3, [10], 0, 0) 13 5 := X_at (r := mi13) rfl rfl
theorem x13_8 {z : P0} : X z 13 8 = XI mT z (X z) (.iconst 0, 1, 0, 0, 0, [], nI 0, 0) 13 8 := X_at (r := mi13) rfl rfl
theorem x13_9 {z : P0} : X z 13 9 = XI mT z (X z) (.iaload, 1, 0, 0, 0, [], 0, 0) 13 9 := X_at (r := mi13) rfl rfl
theorem x13_10 {z : P0} : X z 13 10 = XI mT z (X z) (.aaload, 1, 0, 0, 0, [], 0, 0) 13 10 := X_at (r := mi13) rfl rfl
theorem x13_11 {z : P0} : X z 13 11 = XI mT z (X z) (.getfield 75, 3, 7, 3, 0, [13], 0, 0) 13 11 := X_at (r := mi13) rfl rfl
theorem x13_14 {z : P0} : X z 13 14 = XI mT z (X z) (.istore_n 3, 1, 3, 0, 0, [], 0, 0) 13 14 := X_at (r := mi13) rfl rfl
theorem x13_15 {z : P0} : X z 13 15 = XI mT z (X z) (.iconst 1, 1, 0, 0, 0, [], nI 1, 0) 13 15 := X_at (r := mi13) rfl rfl
theorem x13_16 {z : P0} : X z 13 16 = XI mT z (X z) (.istore 4, 2, 4, 0, 0, [], 0, 0) 13 16 := X_at (r := mi13) rfl rfl
theorem x13_18 {z : P0} : X z 13 18 = XI mT z (X z) (.iload 4, 2, 4, 0, 0, [], 0, 0) 13 18 := X_at (r := mi13) rfl rfl
theorem x13_20 {z : P0} : X z 13 20 = XI mT z (X z) (.aload_n 2, 1, 2, 0, 0, [], 0, 0) 13 20 := X_at (r := mi13) rfl rfl
theorem x13_21 {z : P0} : X z 13 21 = XI mT z (X z) (.getfield 34, 3, 2, 1, 0, [8], 0, 0) 13 21 := X_at (r := mi13) rfl rfl
theorem x13_24 {z : P0} : X z 13 24 = XI mT z (X z) (.if_icmp .ge 35, 3, 59, 0, 0, [], 0, 0) 13 24 := X_at (r := mi13) rfl rfl
theorem x13_27 {z : P0} : X z 13 27 = XI mT z (X z) (.aload_n 1, 1, 1, 0, 0, [], 0, 0) 13 27 := X_at (r := mi13) rfl rfl
theorem x13_28 {z : P0} : X z 13 28 = XI mT z (X z) (.getfield 57, 3, 8, 0, 3, [9], 0, 0) 13 28 := X_at (r := mi13) rfl rfl
theorem x13_31 {z : P0} : X z 13 31 = XI mT z (X z) (.aload_n 2, 1, 2, 0, 0, [], 0, 0) 13 31 := X_at (r := mi13) rfl rfl
theorem x13_32 {z : P0} : X z 13 32 = XI mT z (X z) (.getfield 61, 3, 2, 0, 3, [10], 0, 0) 13 32 := X_at (r := mi13) rfl rfl
theorem x13_35 {z : P0} : X z 13 35 = XI mT z (X z) (.iload 4, 2, 4, 0, 0, [], 0, 0) 13 35 := X_at (r := mi13) rfl rfl
theorem x13_37 {z : P0} : X z 13 37 = XI mT z (X z) (.iaload, 1, 0, 0, 0, [], 0, 0) 13 37 := X_at (r := mi13) rfl rfl
theorem x13_38 {z : P0} : X z 13 38 = XI mT z (X z) (.aaload, 1, 0, 0, 0, [], 0, 0) 13 38 := X_at (r := mi13) rfl rfl
theorem x13_39 {z : P0} : X z 13 39 = XI mT z (X z) (.getfield 75, 3, 7, 3, 0, [13], 0, 0) 13 39 := X_at (r := mi13) rfl rfl
theorem x13_42 {z : P0} : X z 13 42 = XI mT z (X z) (.iload_n 3, 1, 3, 0, 0, [], 0, 0) 13 42 := X_at (r := mi13) rfl rfl
theorem x13_43 {z : P0} : X z 13 43 = XI mT z (X z) (.if_icmp .eq 10, 3, 53, 0, 0, [], 0, 0) 13 43 := X_at (r := mi13) rfl rfl
theorem x13_46 {z : P0} : X z 13 46 = XI mT z (X z) (.aload_n 0, 1, 0, 0, 0, [], 0, 0) 13 46 := X_at (r := mi13) rfl rfl
theorem x13_47 {z : P0} : X z 13 47 = XI mT z (X z) (.ldc 78, 2, 0, 0, 0, [738], 0, 0) 13 47 := X_at (r := mi13) rfl rfl
theorem x13_49 {z : P0} : X z 13 49 = XI mT z (X z) (.invokevirtual 80, 3, 1, 18, 0, [15], 0, 0) 13 49 := X_at (r := mi13) rfl rfl
theorem x13_52 {z : P0} : X z 13 52 = XI mT z (X z) (.return_, 1, 0, 0, 0, [], 0, 0) 13 52 := X_at (r := mi13) rfl rfl
theorem x13_53 {z : P0} : X z 13 53 = XI mT z (X z) (.iinc 4 1, 3, 4, 0, 0, [], nI 1, 0) 13 53 := X_at (r := mi13) rfl rfl
theorem x13_56 {z : P0} : X z 13 56 = XI mT z (X z) (.goto (-38), 3, 18, 0, 0, [], 0, 0) 13 56 := X_at (r := mi13) rfl rfl
theorem x13_59 {z : P0} : X z 13 59 = XI mT z (X z) (.aload_n 0, 1, 0, 0, 0, [], 0, 0) 13 59 := X_at (r := mi13) rfl rfl
theorem x13_60 {z : P0} : X z 13 60 = XI mT z (X z) (.iload_n 3, 1, 3, 0, 0, [], 0, 0) 13 60 := X_at (r := mi13) rfl rfl
theorem x13_61 {z : P0} : X z 13 61 = XI mT z (X z) (.invokestatic 84, 3, 1, 14, 0, [16], 0, 0) 13 61 := X_at (r := mi13) rfl rfl
theorem x13_64 {z : P0} : X z 13 64 = XI mT z (X z) (.invokevirtual 43, 3, 1, 19, 0, [10], 0, 0) 13 64 := X_at (r := mi13) rfl rfl
theorem x13_67 {z : P0} : X z 13 67 = XI mT z (X z) (.aload_n 2, 1, 2, 0, 0, [], 0, 0) 13 67 := X_at (r := mi13) rfl rfl
theorem x13_68 {z : P0} : X z 13 68 = XI mT z (X z) (.getfield 34, 3, 2, 1, 0, [8], 0, 0) 13 68 := X_at (r := mi13) rfl rfl
theorem x13_71 {z : P0} : X z 13 71 = XI mT z (X z) (.iconst 1, 1, 0, 0, 0, [], nI 1, 0) 13 71 := X_at (r := mi13) rfl rfl
theorem x13_72 {z : P0} : X z 13 72 = XI mT z (X z) (.if_icmp .le 9, 3, 81, 0, 0, [], 0, 0) 13 72 := X_at (r := mi13) rfl rfl
theorem x13_75 {z : P0} : X z 13 75 = XI mT z (X z) (.aload_n 0, 1, 0, 0, 0, [], 0, 0) 13 75 := X_at (r := mi13) rfl rfl
theorem x13_76 {z : P0} : X z 13 76 = XI mT z (X z) (.bipush 115, 2, 0, 0, 0, [], nI 115, 0) 13 76 := X_at (r := mi13) rfl rfl
theorem x13_78 {z : P0} : X z 13 78 = XI mT z (X z) (.invokevirtual 43, 3, 1, 19, 0, [10], 0, 0) 13 78 := X_at (r := mi13) rfl rfl
theorem x13_81 {z : P0} : X z 13 81 = XI mT z (X z) (.return_, 1, 0, 0, 0, [], 0, 0) 13 81 := X_at (r := mi13) rfl rfl
theorem x14_0 {z : P0} : X z 14 0 = XI mT z (X z) (.iload_n 0, 1, 0, 0, 0, [], 0, 0) 14 0 := X_at (r := mi14) rfl rfl
theorem x14_1 {z : P0} : X z 14 1 = XI mT z (X z) (.ifCond .ne 6, 3, 7, 0, 0, [], 0, 0) 14 1 := X_at (r := mi14) rfl rfl
theorem x14_4 {z : P0} : X z 14 4 = XI mT z (X z) (.bipush 102, 2, 0, 0, 0, [], nI 102, 0) 14 4 := X_at (r := mi14) rfl rfl
theorem x14_6 {z : P0} : X z 14 6 = XI mT z (X z) (.ireturn, 1, 0, 0, 0, [], 0, 0) 14 6 := X_at (r := mi14) rfl rfl
theorem x14_7 {z : P0} : X z 14 7 = XI mT z (X z) (.iload_n 0, 1, 0, 0, 0, [], 0, 0) 14 7 := X_at (r := mi14) rfl rfl
theorem x14_8 {z : P0} : X z 14 8 = XI mT z (X z) (.iconst 1, 1, 0, 0, 0, [], nI 1, 0) 14 8 := X_at (r := mi14) rfl rfl
theorem x14_9 {z : P0} : X z 14 9 = XI mT z (X z) (.if_icmp .ne 8, 3, 17, 0, 0, [], 0, 0) 14 9 := X_at (r := mi14) rfl rfl
theorem x14_12 {z : P0} : X z 14 12 = XI mT z (X z) (.bipush 109, 2, 0, 0, 0, [], nI 109, 0) 14 12 := X_at (r := mi14) rfl rfl
theorem x14_14 {z : P0} : X z 14 14 = XI mT z (X z) (.goto 5, 3, 19, 0, 0, [], 0, 0) 14 14 := X_at (r := mi14) rfl rfl
theorem x14_17 {z : P0} : X z 14 17 = XI mT z (X z) (.bipush 120, 2, 0, 0, 0, [], nI 120, 0) 14 17 := X_at (r := mi14) rfl rfl
theorem x14_19 {z : P0} : X z 14 19 = XI mT z (X z) (.ireturn, 1, 0, 0, 0, [], 0, 0) 14 19 := X_at (r := mi14) rfl rfl
theorem x15_0 {z : P0} : X z 15 0 = XI mT z (X z) (.aload_n 0, 1, 0, 0, 0, [], 0, 0) 15 0 := X_at (r := mi15) rfl rfl
theorem x15_1 {z : P0} : X z 15 1 = XI mT z (X z) (.aload_n 1, 1, 1, 0, 0, [], 0, 0) 15 1 := X_at (r := mi15) rfl rfl
theorem x15_2 {z : P0} : X z 15 2 = XI mT z (X z) (.aload_n 2, 1, 2, 0, 0, [], 0, 0) 15 2 := X_at (r := mi15) rfl rfl
theorem x15_3 {z : P0} : X z 15 3 = XI mT z (X z) (.invokevirtual 88, 3, 2, 16, 0, [17], 0, 0) 15 3 := X_at (r := mi15) rfl rfl
theorem x15_6 {z : P0} : X z 15 6 = XI mT z (X z) (.istore_n 3, 1, 3, 0, 0, [], 0, 0) 15 6 := X_at (r := mi15) rfl rfl
theorem x15_7 {z : P0} : X z 15 7 = XI mT z (X z) (.iconst 0, 1, 0, 0, 0, [], nI 0, 0) 15 7 := X_at (r := mi15) rfl rfl
theorem x15_8 {z : P0} : X z 15 8 = XI mT z (X z) (.istore 4, 2, 4, 0, 0, [], 0, 0) 15 8 := X_at (r := mi15) rfl rfl
theorem x15_10 {z : P0} : X z 15 10 = XI mT z (X z) (.iload 4, 2, 4, 0, 0, [], 0, 0) 15 10 := X_at (r := mi15) rfl rfl
theorem x15_12 {z : P0} : X z 15 12 = XI mT z (X z) (.iload_n 3, 1, 3, 0, 0, [], 0, 0) 15 12 := X_at (r := mi15) rfl rfl
theorem x15_13 {z : P0} : X z 15 13 = XI mT z (X z) (.if_icmp .ge 76, 3, 89, 0, 0, [], 0, 0) 15 13 := X_at (r := mi15) rfl rfl
theorem x15_16 {z : P0} : X z 15 16 = XI mT z (X z) (.aload_n 1, 1, 1, 0, 0, [], 0, 0) 15 16 := X_at (r := mi15) rfl rfl
theorem x15_17 {z : P0} : X z 15 17 = XI mT z (X z) (.getfield 92, 3, 8, 2, 3, [14], 0, 0) 15 17 := X_at (r := mi15) rfl rfl
theorem x15_20 {z : P0} : X z 15 20 = XI mT z (X z) (.aload_n 0, 1, 0, 0, 0, [], 0, 0) 15 20 := X_at (r := mi15) rfl rfl
theorem x15_21 {z : P0} : X z 15 21 = XI mT z (X z) (.getfield 15, 3, 1, 2, 3, [3], 0, 0) 15 21 := X_at (r := mi15) rfl rfl
theorem x15_24 {z : P0} : X z 15 24 = XI mT z (X z) (.iload 4, 2, 4, 0, 0, [], 0, 0) 15 24 := X_at (r := mi15) rfl rfl
theorem x15_26 {z : P0} : X z 15 26 = XI mT z (X z) (.iaload, 1, 0, 0, 0, [], 0, 0) 15 26 := X_at (r := mi15) rfl rfl
theorem x15_27 {z : P0} : X z 15 27 = XI mT z (X z) (.aaload, 1, 0, 0, 0, [], 0, 0) 15 27 := X_at (r := mi15) rfl rfl
theorem x15_28 {z : P0} : X z 15 28 = XI mT z (X z) (.astore 5, 2, 5, 0, 0, [], 0, 0) 15 28 := X_at (r := mi15) rfl rfl
theorem x15_30 {z : P0} : X z 15 30 = XI mT z (X z) (.iload 4, 2, 4, 0, 0, [], 0, 0) 15 30 := X_at (r := mi15) rfl rfl
theorem x15_32 {z : P0} : X z 15 32 = XI mT z (X z) (.ifCond .le 22, 3, 54, 0, 0, [], 0, 0) 15 32 := X_at (r := mi15) rfl rfl
theorem x15_35 {z : P0} : X z 15 35 = XI mT z (X z) (.aload_n 0, 1, 0, 0, 0, [], 0, 0) 15 35 := X_at (r := mi15) rfl rfl
theorem x15_36 {z : P0} : X z 15 36 = XI mT z (X z) (.iload 4, 2, 4, 0, 0, [], 0, 0) 15 36 := X_at (r := mi15) rfl rfl
theorem x15_38 {z : P0} : X z 15 38 = XI mT z (X z) (.iload_n 3, 1, 3, 0, 0, [], 0, 0) 15 38 := X_at (r := mi15) rfl rfl
theorem x15_39 {z : P0} : X z 15 39 = XI mT z (X z) (.iconst 1, 1, 0, 0, 0, [], nI 1, 0) 15 39 := X_at (r := mi15) rfl rfl
theorem x15_40 {z : P0} : X z 15 40 = XI mT z (X z) (.isub, 1, 0, 0, 0, [], 0, 0) 15 40 := X_at (r := mi15) rfl rfl
theorem x15_41 {z : P0} : X z 15 41 = XI mT z (X z) (.if_icmp .ne 8, 3, 49, 0, 0, [], 0, 0) 15 41 := X_at (r := mi15) rfl rfl
theorem x15_44 {z : P0} : X z 15 44 = XI mT z (X z) (.bipush 38, 2, 0, 0, 0, [], nI 38, 0) 15 44 := X_at (r := mi15) rfl rfl
theorem x15_46 {z : P0} : X z 15 46 = XI mT z (X z) (.goto 5, 3, 51, 0, 0, [], 0, 0) 15 46 := X_at (r := mi15) rfl rfl
theorem x15_49 {z : P0} : X z 15 49 = XI mT z (X z) (.bipush 44, 2, 0, 0, 0, [], nI 44, 0) 15 49 := X_at (r := mi15) rfl rfl
theorem x15_51 {z : P0} : X z 15 51 = XI mT z (X z) (.invokevirtual 43, 3, 1, 19, 0, [10], 0, 0) 15 51 := X_at (r := mi15) rfl rfl
theorem x15_54 {z : P0} : X z 15 54 = XI mT z (X z) (.aload_n 0, 1, 0, 0, 0, [], 0, 0) 15 54 := X_at (r := mi15) rfl rfl
theorem x15_55 {z : P0} : X z 15 55 = XI mT z (X z) (.aload 5, 2, 5, 0, 0, [], 0, 0) 15 55 := X_at (r := mi15) rfl rfl
theorem x15_57 {z : P0} : X z 15 57 = XI mT z (X z) (.invokevirtual 96, 3, 0, 56, 0, [18], 0, 0) 15 57 := X_at (r := mi15) rfl rfl
theorem x15_60 {z : P0} : X z 15 60 = XI mT z (X z) (.invokevirtual 80, 3, 1, 18, 0, [15], 0, 0) 15 60 := X_at (r := mi15) rfl rfl
theorem x15_63 {z : P0} : X z 15 63 = XI mT z (X z) (.aload_n 0, 1, 0, 0, 0, [], 0, 0) 15 63 := X_at (r := mi15) rfl rfl
theorem x15_64 {z : P0} : X z 15 64 = XI mT z (X z) (.bipush 95, 2, 0, 0, 0, [], nI 95, 0) 15 64 := X_at (r := mi15) rfl rfl
theorem x15_66 {z : P0} : X z 15 66 = XI mT z (X z) (.invokevirtual 43, 3, 1, 19, 0, [10], 0, 0) 15 66 := X_at (r := mi15) rfl rfl
theorem x15_69 {z : P0} : X z 15 69 = XI mT z (X z) (.aload_n 0, 1, 0, 0, 0, [], 0, 0) 15 69 := X_at (r := mi15) rfl rfl
theorem x15_70 {z : P0} : X z 15 70 = XI mT z (X z) (.aload 5, 2, 5, 0, 0, [], 0, 0) 15 70 := X_at (r := mi15) rfl rfl
theorem x15_72 {z : P0} : X z 15 72 = XI mT z (X z) (.getfield 102, 3, 9, 0, 3, [15], 0, 0) 15 72 := X_at (r := mi15) rfl rfl
theorem x15_75 {z : P0} : X z 15 75 = XI mT z (X z) (.aload 5, 2, 5, 0, 0, [], 0, 0) 15 75 := X_at (r := mi15) rfl rfl
theorem x15_77 {z : P0} : X z 15 77 = XI mT z (X z) (.getfield 105, 3, 9, 1, 0, [16], 0, 0) 15 77 := X_at (r := mi15) rfl rfl
theorem x15_80 {z : P0} : X z 15 80 = XI mT z (X z) (.invokevirtual 71, 3, 2, 17, 0, [14], 0, 0) 15 80 := X_at (r := mi15) rfl rfl
theorem x15_83 {z : P0} : X z 15 83 = XI mT z (X z) (.iinc 4 1, 3, 4, 0, 0, [], nI 1, 0) 15 83 := X_at (r := mi15) rfl rfl
theorem x15_86 {z : P0} : X z 15 86 = XI mT z (X z) (.goto (-76), 3, 10, 0, 0, [], 0, 0) 15 86 := X_at (r := mi15) rfl rfl
theorem x15_89 {z : P0} : X z 15 89 = XI mT z (X z) (.return_, 1, 0, 0, 0, [], 0, 0) 15 89 := X_at (r := mi15) rfl rfl
theorem x16_0 {z : P0} : X z 16 0 = XI mT z (X z) (.iconst 0, 1, 0, 0, 0, [], nI 0, 0) 16 0 := X_at (r := mi16) rfl rfl
theorem x16_1 {z : P0} : X z 16 1 = XI mT z (X z) (.istore_n 3, 1, 3, 0, 0, [], 0, 0) 16 1 := X_at (r := mi16) rfl rfl
theorem x16_2 {z : P0} : X z 16 2 = XI mT z (X z) (.iconst 0, 1, 0, 0, 0, [], nI 0, 0) 16 2 := X_at (r := mi16) rfl rfl
theorem x16_3 {z : P0} : X z 16 3 = XI mT z (X z) (.istore 4, 2, 4, 0, 0, [], 0, 0) 16 3 := X_at (r := mi16) rfl rfl
theorem x16_5 {z : P0} : X z 16 5 = XI mT z (X z) (.iconst 0, 1, 0, 0, 0, [], nI 0, 0) 16 5 := X_at (r := mi16) rfl rfl
theorem x16_6 {z : P0} : X z 16 6 = XI mT z (X z) (.istore 5, 2, 5, 0, 0, [], 0, 0) 16 6 := X_at (r := mi16) rfl rfl
theorem x16_8 {z : P0} : X z 16 8 = XI mT z (X z) (.iload 5, 2, 5, 0, 0, [], 0, 0) 16 8 := X_at (r := mi16) rfl rfl
theorem x16_10 {z : P0} : X z 16 10 = XI mT z (X z) (.aload_n 2, 1, 2, 0, 0, [], 0, 0) 16 10 := X_at (r := mi16) rfl rfl
theorem x16_11 {z : P0} : X z 16 11 = XI mT z (X z) (.getfield 34, 3, 2, 1, 0, [8], 0, 0) 16 11 := X_at (r := mi16) rfl rfl
theorem x16_14 {z : P0} : X z 16 14 = XI mT z (X z) (.if_icmp .ge 70, 3, 84, 0, 0, [], 0, 0) 16 14 := X_at (r := mi16) rfl rfl
theorem x16_17 {z : P0} : X z 16 17 = XI mT z (X z) (.aload_n 1, 1, 1, 0, 0, [], 0, 0) 16 17 := X_at (r := mi16) rfl rfl
theorem x16_18 {z : P0} : X z 16 18 = XI mT z (X z) (.getfield 57, 3, 8, 0, 3, [9], 0, 0) 16 18 := X_at (r := mi16) rfl rfl
theorem x16_21 {z : P0} : X z 16 21 = XI mT z (X z) (.aload_n 2, 1, 2, 0, 0, [], 0, 0) 16 21 := X_at (r := mi16) rfl rfl
theorem x16_22 {z : P0} : X z 16 22 = XI mT z (X z) (.getfield 61, 3, 2, 0, 3, [10], 0, 0) 16 22 := X_at (r := mi16) rfl rfl
theorem x16_25 {z : P0} : X z 16 25 = XI mT z (X z) (.iload 5, 2, 5, 0, 0, [], 0, 0) 16 25 := X_at (r := mi16) rfl rfl
theorem x16_27 {z : P0} : X z 16 27 = XI mT z (X z) (.iaload, 1, 0, 0, 0, [], 0, 0) 16 27 := X_at (r := mi16) rfl rfl
theorem x16_28 {z : P0} : X z 16 28 = XI mT z (X z) (.aaload, 1, 0, 0, 0, [], 0, 0) 16 28 := X_at (r := mi16) rfl rfl
theorem x16_29 {z : P0} : X z 16 29 = XI mT z (X z) (.getfield 106, 3, 7, 4, 0, [17], 0, 0) 16 29 := X_at (r := mi16) rfl rfl
theorem x16_32 {z : P0} : X z 16 32 = XI mT z (X z) (.istore 6, 2, 6, 0, 0, [], 0, 0) 16 32 := X_at (r := mi16) rfl rfl
theorem x16_34 {z : P0} : X z 16 34 = XI mT z (X z) (.iload 6, 2, 6, 0, 0, [], 0, 0) 16 34 := X_at (r := mi16) rfl rfl
theorem x16_36 {z : P0} : X z 16 36 = XI mT z (X z) (.ifCond .lt 42, 3, 78, 0, 0, [], 0, 0) 16 36 := X_at (r := mi16) rfl rfl
theorem x16_39 {z : P0} : X z 16 39 = XI mT z (X z) (.iload 6, 2, 6, 0, 0, [], 0, 0) 16 39 := X_at (r := mi16) rfl rfl
theorem x16_41 {z : P0} : X z 16 41 = XI mT z (X z) (.aload_n 1, 1, 1, 0, 0, [], 0, 0) 16 41 := X_at (r := mi16) rfl rfl
theorem x16_42 {z : P0} : X z 16 42 = XI mT z (X z) (.getfield 109, 3, 8, 3, 0, [18], 0, 0) 16 42 := X_at (r := mi16) rfl rfl
theorem x16_45 {z : P0} : X z 16 45 = XI mT z (X z) (.if_icmp .ge 33, 3, 78, 0, 0, [], 0, 0) 16 45 := X_at (r := mi16) rfl rfl
theorem x16_48 {z : P0} : X z 16 48 = XI mT z (X z) (.iload 4, 2, 4, 0, 0, [], 0, 0) 16 48 := X_at (r := mi16) rfl rfl
theorem x16_50 {z : P0} : X z 16 50 = XI mT z (X z) (.iconst 1, 1, 0, 0, 0, [], nI 1, 0) 16 50 := X_at (r := mi16) rfl rfl
theorem x16_51 {z : P0} : X z 16 51 = XI mT z (X z) (.iload 6, 2, 6, 0, 0, [], 0, 0) 16 51 := X_at (r := mi16) rfl rfl
theorem x16_53 {z : P0} : X z 16 53 = XI mT z (X z) (.ishl, 1, 0, 0, 0, [], 0, 0) 16 53 := X_at (r := mi16) rfl rfl
theorem x16_54 {z : P0} : X z 16 54 = XI mT z (X z) (.iand, 1, 0, 0, 0, [], 0, 0) 16 54 := X_at (r := mi16) rfl rfl
theorem x16_55 {z : P0} : X z 16 55 = XI mT z (X z) (.ifCond .ne 23, 3, 78, 0, 0, [], 0, 0) 16 55 := X_at (r := mi16) rfl rfl
theorem x16_58 {z : P0} : X z 16 58 = XI mT z (X z) (.iload 4, 2, 4, 0, 0, [], 0, 0) 16 58 := X_at (r := mi16) rfl rfl
theorem x16_60 {z : P0} : X z 16 60 = XI mT z (X z) (.iconst 1, 1, 0, 0, 0, [], nI 1, 0) 16 60 := X_at (r := mi16) rfl rfl
theorem x16_61 {z : P0} : X z 16 61 = XI mT z (X z) (.iload 6, 2, 6, 0, 0, [], 0, 0) 16 61 := X_at (r := mi16) rfl rfl
theorem x16_63 {z : P0} : X z 16 63 = XI mT z (X z) (.ishl, 1, 0, 0, 0, [], 0, 0) 16 63 := X_at (r := mi16) rfl rfl
theorem x16_64 {z : P0} : X z 16 64 = XI mT z (X z) (.ior, 1, 0, 0, 0, [], 0, 0) 16 64 := X_at (r := mi16) rfl rfl
theorem x16_65 {z : P0} : X z 16 65 = XI mT z (X z) (.istore 4, 2, 4, 0, 0, [], 0, 0) 16 65 := X_at (r := mi16) rfl rfl
theorem x16_67 {z : P0} : X z 16 67 = XI mT z (X z) (.aload_n 0, 1, 0, 0, 0, [], 0, 0) 16 67 := X_at (r := mi16) rfl rfl
theorem x16_68 {z : P0} : X z 16 68 = XI mT z (X z) (.getfield 15, 3, 1, 2, 3, [3], 0, 0) 16 68 := X_at (r := mi16) rfl rfl
theorem x16_71 {z : P0} : X z 16 71 = XI mT z (X z) (.iload_n 3, 1, 3, 0, 0, [], 0, 0) 16 71 := X_at (r := mi16) rfl rfl
theorem x16_72 {z : P0} : X z 16 72 = XI mT z (X z) (.iload 6, 2, 6, 0, 0, [], 0, 0) 16 72 := X_at (r := mi16) rfl rfl
theorem x16_74 {z : P0} : X z 16 74 = XI mT z (X z) (.iastore, 1, 0, 0, 0, [], 0, 0) 16 74 := X_at (r := mi16) rfl rfl
theorem x16_75 {z : P0} : X z 16 75 = XI mT z (X z) (.iinc 3 1, 3, 3, 0, 0, [], nI 1, 0) 16 75 := X_at (r := mi16) rfl rfl
theorem x16_78 {z : P0} : X z 16 78 = XI mT z (X z) (.iinc 5 1, 3, 5, 0, 0, [], nI 1, 0) 16 78 := X_at (r := mi16) rfl rfl
theorem x16_81 {z : P0} : X z 16 81 = XI mT z (X z) (.goto (-73), 3, 8, 0, 0, [], 0, 0) 16 81 := X_at (r := mi16) rfl rfl
theorem x16_84 {z : P0} : X z 16 84 = XI mT z (X z) (.iload_n 3, 1, 3, 0, 0, [], 0, 0) 16 84 := X_at (r := mi16) rfl rfl
theorem x16_85 {z : P0} : X z 16 85 = XI mT z (X z) (.ireturn, 1, 0, 0, 0, [], 0, 0) 16 85 := X_at (r := mi16) rfl rfl
theorem x17_0 {z : P0} : X z 17 0 = XI mT z (X z) (.iconst 0, 1, 0, 0, 0, [], nI 0, 0) 17 0 := X_at (r := mi17) rfl rfl
theorem x17_1 {z : P0} : X z 17 1 = XI mT z (X z) (.istore_n 3, 1, 3, 0, 0, [], 0, 0) 17 1 := X_at (r := mi17) rfl rfl
theorem x17_2 {z : P0} : X z 17 2 = XI mT z (X z) (.iload_n 3, 1, 3, 0, 0, [], 0, 0) 17 2 := X_at (r := mi17) rfl rfl
theorem x17_3 {z : P0} : X z 17 3 = XI mT z (X z) (.iload_n 2, 1, 2, 0, 0, [], 0, 0) 17 3 := X_at (r := mi17) rfl rfl
theorem x17_4 {z : P0} : X z 17 4 = XI mT z (X z) (.if_icmp .ge 41, 3, 45, 0, 0, [], 0, 0) 17 4 := X_at (r := mi17) rfl rfl
theorem x17_7 {z : P0} : X z 17 7 = XI mT z (X z) (.aload_n 0, 1, 0, 0, 0, [], 0, 0) 17 7 := X_at (r := mi17) rfl rfl
theorem x17_8 {z : P0} : X z 17 8 = XI mT z (X z) (.getfield 18, 3, 1, 1, 0, [4], 0, 0) 17 8 := X_at (r := mi17) rfl rfl
theorem x17_11 {z : P0} : X z 17 11 = XI mT z (X z) (.sipush 1660, 3, 0, 0, 0, [], nI 1660, 0) 17 11 := X_at (r := mi17) rfl rfl
theorem x17_14 {z : P0} : X z 17 14 = XI mT z (X z) (.if_icmp .ge 31, 3, 45, 0, 0, [], 0, 0) 17 14 := X_at (r := mi17) rfl rfl
theorem x17_17 {z : P0} : X z 17 17 = XI mT z (X z) (.aload_n 0, 1, 0, 0, 0, [], 0, 0) 17 17 := X_at (r := mi17) rfl rfl
theorem x17_18 {z : P0} : X z 17 18 = XI mT z (X z) (.getfield 9, 3, 1, 0, 3, [2], 0, 0) 17 18 := X_at (r := mi17) rfl rfl
theorem x17_21 {z : P0} : X z 17 21 = XI mT z (X z) (.aload_n 0, 1, 0, 0, 0, [], 0, 0) 17 21 := X_at (r := mi17) rfl rfl
theorem x17_22 {z : P0} : X z 17 22 = XI mT z (X z) (.getfield 18, 3, 1, 1, 0, [4], 0, 0) 17 22 := X_at (r := mi17) rfl rfl
theorem x17_25 {z : P0} : X z 17 25 = XI mT z (X z) (.aload_n 1, 1, 1, 0, 0, [], 0, 0) 17 25 := X_at (r := mi17) rfl rfl
theorem x17_26 {z : P0} : X z 17 26 = XI mT z (X z) (.iload_n 3, 1, 3, 0, 0, [], 0, 0) 17 26 := X_at (r := mi17) rfl rfl
theorem x17_27 {z : P0} : X z 17 27 = XI mT z (X z) (.iaload, 1, 0, 0, 0, [], 0, 0) 17 27 := X_at (r := mi17) rfl rfl
theorem x17_28 {z : P0} : X z 17 28 = XI mT z (X z) (.iastore, 1, 0, 0, 0, [], 0, 0) 17 28 := X_at (r := mi17) rfl rfl
theorem x17_29 {z : P0} : X z 17 29 = XI mT z (X z) (.aload_n 0, 1, 0, 0, 0, [], 0, 0) 17 29 := X_at (r := mi17) rfl rfl
theorem x17_30 {z : P0} : X z 17 30 = XI mT z (X z) (.dup, 1, 0, 0, 0, [], 0, 0) 17 30 := X_at (r := mi17) rfl rfl
theorem x17_31 {z : P0} : X z 17 31 = XI mT z (X z) (.getfield 18, 3, 1, 1, 0, [4], 0, 0) 17 31 := X_at (r := mi17) rfl rfl
theorem x17_34 {z : P0} : X z 17 34 = XI mT z (X z) (.iconst 1, 1, 0, 0, 0, [], nI 1, 0) 17 34 := X_at (r := mi17) rfl rfl
theorem x17_35 {z : P0} : X z 17 35 = XI mT z (X z) (.iadd, 1, 0, 0, 0, [], 0, 0) 17 35 := X_at (r := mi17) rfl rfl
theorem x17_36 {z : P0} : X z 17 36 = XI mT z (X z) (.putfield 18, 3, 1, 1, 0, [4], 0, 0) 17 36 := X_at (r := mi17) rfl rfl
theorem x17_39 {z : P0} : X z 17 39 = XI mT z (X z) (.iinc 3 1, 3, 3, 0, 0, [], nI 1, 0) 17 39 := X_at (r := mi17) rfl rfl
theorem x17_42 {z : P0} : X z 17 42 = XI mT z (X z) (.goto (-40), 3, 2, 0, 0, [], 0, 0) 17 42 := X_at (r := mi17) rfl rfl
theorem x17_45 {z : P0} : X z 17 45 = XI mT z (X z) (.return_, 1, 0, 0, 0, [], 0, 0) 17 45 := X_at (r := mi17) rfl rfl
theorem x18_0 {z : P0} : X z 18 0 = XI mT z (X z) (.iconst 0, 1, 0, 0, 0, [], nI 0, 0) 18 0 := X_at (r := mi18) rfl rfl
theorem x18_1 {z : P0} : X z 18 1 = XI mT z (X z) (.istore_n 2, 1, 2, 0, 0, [], 0, 0) 18 1 := X_at (r := mi18) rfl rfl
theorem x18_2 {z : P0} : X z 18 2 = XI mT z (X z) (.iload_n 2, 1, 2, 0, 0, [], 0, 0) 18 2 := X_at (r := mi18) rfl rfl
theorem x18_3 {z : P0} : X z 18 3 = XI mT z (X z) (.aload_n 1, 1, 1, 0, 0, [], 0, 0) 18 3 := X_at (r := mi18) rfl rfl
theorem x18_4 {z : P0} : X z 18 4 = XI mT z (X z) (.invokevirtual 112, 3, 0, 185, 0, [19], 0, 0) 18 4 := X_at (r := mi18) rfl rfl
theorem x18_7 {z : P0} : X z 18 7 = XI mT z (X z) (.if_icmp .ge 43, 3, 50, 0, 0, [], 0, 0) 18 7 := X_at (r := mi18) rfl rfl
theorem x18_10 {z : P0} : X z 18 10 = XI mT z (X z) (.aload_n 0, 1, 0, 0, 0, [], 0, 0) 18 10 := X_at (r := mi18) rfl rfl
theorem x18_11 {z : P0} : X z 18 11 = XI mT z (X z) (.getfield 18, 3, 1, 1, 0, [4], 0, 0) 18 11 := X_at (r := mi18) rfl rfl
theorem x18_14 {z : P0} : X z 18 14 = XI mT z (X z) (.sipush 1660, 3, 0, 0, 0, [], nI 1660, 0) 18 14 := X_at (r := mi18) rfl rfl
theorem x18_17 {z : P0} : X z 18 17 = XI mT z (X z) (.if_icmp .ge 33, 3, 50, 0, 0, [], 0, 0) 18 17 := X_at (r := mi18) rfl rfl
theorem x18_20 {z : P0} : X z 18 20 = XI mT z (X z) (.aload_n 0, 1, 0, 0, 0, [], 0, 0) 18 20 := X_at (r := mi18) rfl rfl
theorem x18_21 {z : P0} : X z 18 21 = XI mT z (X z) (.getfield 9, 3, 1, 0, 3, [2], 0, 0) 18 21 := X_at (r := mi18) rfl rfl
theorem x18_24 {z : P0} : X z 18 24 = XI mT z (X z) (.aload_n 0, 1, 0, 0, 0, [], 0, 0) 18 24 := X_at (r := mi18) rfl rfl
theorem x18_25 {z : P0} : X z 18 25 = XI mT z (X z) (.getfield 18, 3, 1, 1, 0, [4], 0, 0) 18 25 := X_at (r := mi18) rfl rfl
theorem x18_28 {z : P0} : X z 18 28 = XI mT z (X z) (.aload_n 1, 1, 1, 0, 0, [], 0, 0) 18 28 := X_at (r := mi18) rfl rfl
theorem x18_29 {z : P0} : X z 18 29 = XI mT z (X z) (.iload_n 2, 1, 2, 0, 0, [], 0, 0) 18 29 := X_at (r := mi18) rfl rfl
theorem x18_30 {z : P0} : X z 18 30 = XI mT z (X z) (.invokevirtual 117, 3, 1, 186, 0, [20], 0, 0) 18 30 := X_at (r := mi18) rfl rfl
theorem x18_33 {z : P0} : X z 18 33 = XI mT z (X z) (.iastore, 1, 0, 0, 0, [], 0, 0) 18 33 := X_at (r := mi18) rfl rfl
theorem x18_34 {z : P0} : X z 18 34 = XI mT z (X z) (.aload_n 0, 1, 0, 0, 0, [], 0, 0) 18 34 := X_at (r := mi18) rfl rfl
theorem x18_35 {z : P0} : X z 18 35 = XI mT z (X z) (.dup, 1, 0, 0, 0, [], 0, 0) 18 35 := X_at (r := mi18) rfl rfl
theorem x18_36 {z : P0} : X z 18 36 = XI mT z (X z) (.getfield 18, 3, 1, 1, 0, [4], 0, 0) 18 36 := X_at (r := mi18) rfl rfl
theorem x18_39 {z : P0} : X z 18 39 = XI mT z (X z) (.iconst 1, 1, 0, 0, 0, [], nI 1, 0) 18 39 := X_at (r := mi18) rfl rfl
theorem x18_40 {z : P0} : X z 18 40 = XI mT z (X z) (.iadd, 1, 0, 0, 0, [], 0, 0) 18 40 := X_at (r := mi18) rfl rfl
theorem x18_41 {z : P0} : X z 18 41 = XI mT z (X z) (.putfield 18, 3, 1, 1, 0, [4], 0, 0) 18 41 := X_at (r := mi18) rfl rfl
theorem x18_44 {z : P0} : X z 18 44 = XI mT z (X z) (.iinc 2 1, 3, 2, 0, 0, [], nI 1, 0) 18 44 := X_at (r := mi18) rfl rfl
theorem x18_47 {z : P0} : X z 18 47 = XI mT z (X z) (.goto (-45), 3, 2, 0, 0, [], 0, 0) 18 47 := X_at (r := mi18) rfl rfl
theorem x18_50 {z : P0} : X z 18 50 = XI mT z (X z) (.return_, 1, 0, 0, 0, [], 0, 0) 18 50 := X_at (r := mi18) rfl rfl
theorem x19_0 {z : P0} : X z 19 0 = XI mT z (X z) (.aload_n 0, 1, 0, 0, 0, [], 0, 0) 19 0 := X_at (r := mi19) rfl rfl
theorem x19_1 {z : P0} : X z 19 1 = XI mT z (X z) (.getfield 18, 3, 1, 1, 0, [4], 0, 0) 19 1 := X_at (r := mi19) rfl rfl
theorem x19_4 {z : P0} : X z 19 4 = XI mT z (X z) (.sipush 1660, 3, 0, 0, 0, [], nI 1660, 0) 19 4 := X_at (r := mi19) rfl rfl
theorem x19_7 {z : P0} : X z 19 7 = XI mT z (X z) (.if_icmp .ge 23, 3, 30, 0, 0, [], 0, 0) 19 7 := X_at (r := mi19) rfl rfl
theorem x19_10 {z : P0} : X z 19 10 = XI mT z (X z) (.aload_n 0, 1, 0, 0, 0, [], 0, 0) 19 10 := X_at (r := mi19) rfl rfl
theorem x19_11 {z : P0} : X z 19 11 = XI mT z (X z) (.getfield 9, 3, 1, 0, 3, [2], 0, 0) 19 11 := X_at (r := mi19) rfl rfl
theorem x19_14 {z : P0} : X z 19 14 = XI mT z (X z) (.aload_n 0, 1, 0, 0, 0, [], 0, 0) 19 14 := X_at (r := mi19) rfl rfl
theorem x19_15 {z : P0} : X z 19 15 = XI mT z (X z) (.getfield 18, 3, 1, 1, 0, [4], 0, 0) 19 15 := X_at (r := mi19) rfl rfl
theorem x19_18 {z : P0} : X z 19 18 = XI mT z (X z) (.iload_n 1, 1, 1, 0, 0, [], 0, 0) 19 18 := X_at (r := mi19) rfl rfl
theorem x19_19 {z : P0} : X z 19 19 = XI mT z (X z) (.iastore, 1, 0, 0, 0, [], 0, 0) 19 19 := X_at (r := mi19) rfl rfl
theorem x19_20 {z : P0} : X z 19 20 = XI mT z (X z) (.aload_n 0, 1, 0, 0, 0, [], 0, 0) 19 20 := X_at (r := mi19) rfl rfl
theorem x19_21 {z : P0} : X z 19 21 = XI mT z (X z) (.dup, 1, 0, 0, 0, [], 0, 0) 19 21 := X_at (r := mi19) rfl rfl
theorem x19_22 {z : P0} : X z 19 22 = XI mT z (X z) (.getfield 18, 3, 1, 1, 0, [4], 0, 0) 19 22 := X_at (r := mi19) rfl rfl
theorem x19_25 {z : P0} : X z 19 25 = XI mT z (X z) (.iconst 1, 1, 0, 0, 0, [], nI 1, 0) 19 25 := X_at (r := mi19) rfl rfl
theorem x19_26 {z : P0} : X z 19 26 = XI mT z (X z) (.iadd, 1, 0, 0, 0, [], 0, 0) 19 26 := X_at (r := mi19) rfl rfl
theorem x19_27 {z : P0} : X z 19 27 = XI mT z (X z) (.putfield 18, 3, 1, 1, 0, [4], 0, 0) 19 27 := X_at (r := mi19) rfl rfl
theorem x19_30 {z : P0} : X z 19 30 = XI mT z (X z) (.return_, 1, 0, 0, 0, [], 0, 0) 19 30 := X_at (r := mi19) rfl rfl
theorem x20_0 {z : P0} : X z 20 0 = XI mT z (X z) (.aload_n 0, 1, 0, 0, 0, [], 0, 0) 20 0 := X_at (r := mi20) rfl rfl
theorem x20_1 {z : P0} : X z 20 1 = XI mT z (X z) (.invokespecial 3, 3, 0, 9003, 0, [21], 0, 0) 20 1 := X_at (r := mi20) rfl rfl
theorem x20_4 {z : P0} : X z 20 4 = XI mT z (X z) (.aload_n 0, 1, 0, 0, 0, [], 0, 0) 20 4 := X_at (r := mi20) rfl rfl
theorem x20_5 {z : P0} : X z 20 5 = XI mT z (X z) (.bipush 6, 2, 0, 0, 0, [], nI 6, 0) 20 5 := X_at (r := mi20) rfl rfl
theorem x20_7 {z : P0} : X z 20 7 = XI mT z (X z) (.newarray .int, 2, 20, 0, 0, [], 0, 0) 20 7 := X_at (r := mi20) rfl rfl
theorem x20_9 {z : P0} : X z 20 9 = XI mT z (X z) (.putfield 9, 3, 2, 0, 3, [19], 0, 0) 20 9 := X_at (r := mi20) rfl rfl
theorem x20_12 {z : P0} : X z 20 12 = XI mT z (X z) (.return_, 1, 0, 0, 0, [], 0, 0) 20 12 := X_at (r := mi20) rfl rfl
theorem x21_0 {z : P0} : X z 21 0 = XI mT z (X z) (.aload_n 0, 1, 0, 0, 0, [], 0, 0) 21 0 := X_at (r := mi21) rfl rfl
theorem x21_1 {z : P0} : X z 21 1 = XI mT z (X z) (.getfield 15, 3, 2, 1, 0, [20], 0, 0) 21 1 := X_at (r := mi21) rfl rfl
theorem x21_4 {z : P0} : X z 21 4 = XI mT z (X z) (.bipush 6, 2, 0, 0, 0, [], nI 6, 0) 21 4 := X_at (r := mi21) rfl rfl
theorem x21_6 {z : P0} : X z 21 6 = XI mT z (X z) (.if_icmp .ge 23, 3, 29, 0, 0, [], 0, 0) 21 6 := X_at (r := mi21) rfl rfl
theorem x21_9 {z : P0} : X z 21 9 = XI mT z (X z) (.aload_n 0, 1, 0, 0, 0, [], 0, 0) 21 9 := X_at (r := mi21) rfl rfl
theorem x21_10 {z : P0} : X z 21 10 = XI mT z (X z) (.getfield 9, 3, 2, 0, 3, [19], 0, 0) 21 10 := X_at (r := mi21) rfl rfl
theorem x21_13 {z : P0} : X z 21 13 = XI mT z (X z) (.aload_n 0, 1, 0, 0, 0, [], 0, 0) 21 13 := X_at (r := mi21) rfl rfl
theorem x21_14 {z : P0} : X z 21 14 = XI mT z (X z) (.getfield 15, 3, 2, 1, 0, [20], 0, 0) 21 14 := X_at (r := mi21) rfl rfl
theorem x21_17 {z : P0} : X z 21 17 = XI mT z (X z) (.iload_n 1, 1, 1, 0, 0, [], 0, 0) 21 17 := X_at (r := mi21) rfl rfl
theorem x21_18 {z : P0} : X z 21 18 = XI mT z (X z) (.iastore, 1, 0, 0, 0, [], 0, 0) 21 18 := X_at (r := mi21) rfl rfl
theorem x21_19 {z : P0} : X z 21 19 = XI mT z (X z) (.aload_n 0, 1, 0, 0, 0, [], 0, 0) 21 19 := X_at (r := mi21) rfl rfl
theorem x21_20 {z : P0} : X z 21 20 = XI mT z (X z) (.dup, 1, 0, 0, 0, [], 0, 0) 21 20 := X_at (r := mi21) rfl rfl
theorem x21_21 {z : P0} : X z 21 21 = XI mT z (X z) (.getfield 15, 3, 2, 1, 0, [20], 0, 0) 21 21 := X_at (r := mi21) rfl rfl
theorem x21_24 {z : P0} : X z 21 24 = XI mT z (X z) (.iconst 1, 1, 0, 0, 0, [], nI 1, 0) 21 24 := X_at (r := mi21) rfl rfl
theorem x21_25 {z : P0} : X z 21 25 = XI mT z (X z) (.iadd, 1, 0, 0, 0, [], 0, 0) 21 25 := X_at (r := mi21) rfl rfl
theorem x21_26 {z : P0} : X z 21 26 = XI mT z (X z) (.putfield 15, 3, 2, 1, 0, [20], 0, 0) 21 26 := X_at (r := mi21) rfl rfl
theorem x21_29 {z : P0} : X z 21 29 = XI mT z (X z) (.return_, 1, 0, 0, 0, [], 0, 0) 21 29 := X_at (r := mi21) rfl rfl
theorem x22_0 {z : P0} : X z 22 0 = XI mT z (X z) (.iconst 0, 1, 0, 0, 0, [], nI 0, 0) 22 0 := X_at (r := mi22) rfl rfl
theorem x22_1 {z : P0} : X z 22 1 = XI mT z (X z) (.istore_n 1, 1, 1, 0, 0, [], 0, 0) 22 1 := X_at (r := mi22) rfl rfl
theorem x22_2 {z : P0} : X z 22 2 = XI mT z (X z) (.iconst 0, 1, 0, 0, 0, [], nI 0, 0) 22 2 := X_at (r := mi22) rfl rfl
theorem x22_3 {z : P0} : X z 22 3 = XI mT z (X z) (.istore_n 2, 1, 2, 0, 0, [], 0, 0) 22 3 := X_at (r := mi22) rfl rfl
theorem x22_4 {z : P0} : X z 22 4 = XI mT z (X z) (.iload_n 2, 1, 2, 0, 0, [], 0, 0) 22 4 := X_at (r := mi22) rfl rfl
theorem x22_5 {z : P0} : X z 22 5 = XI mT z (X z) (.aload_n 0, 1, 0, 0, 0, [], 0, 0) 22 5 := X_at (r := mi22) rfl rfl
theorem x22_6 {z : P0} : X z 22 6 = XI mT z (X z) (.getfield 15, 3, 2, 1, 0, [20], 0, 0) 22 6 := X_at (r := mi22) rfl rfl
theorem x22_9 {z : P0} : X z 22 9 = XI mT z (X z) (.if_icmp .ge 20, 3, 29, 0, 0, [], 0, 0) 22 9 := X_at (r := mi22) rfl rfl
theorem x22_12 {z : P0} : X z 22 12 = XI mT z (X z) (.iload_n 1, 1, 1, 0, 0, [], 0, 0) 22 12 := X_at (r := mi22) rfl rfl
theorem x22_13 {z : P0} : X z 22 13 = XI mT z (X z) (.iconst 1, 1, 0, 0, 0, [], nI 1, 0) 22 13 := X_at (r := mi22) rfl rfl
theorem x22_14 {z : P0} : X z 22 14 = XI mT z (X z) (.aload_n 0, 1, 0, 0, 0, [], 0, 0) 22 14 := X_at (r := mi22) rfl rfl
theorem x22_15 {z : P0} : X z 22 15 = XI mT z (X z) (.getfield 9, 3, 2, 0, 3, [19], 0, 0) 22 15 := X_at (r := mi22) rfl rfl
theorem x22_18 {z : P0} : X z 22 18 = XI mT z (X z) (.iload_n 2, 1, 2, 0, 0, [], 0, 0) 22 18 := X_at (r := mi22) rfl rfl
theorem x22_19 {z : P0} : X z 22 19 = XI mT z (X z) (.iaload, 1, 0, 0, 0, [], 0, 0) 22 19 := X_at (r := mi22) rfl rfl
theorem x22_20 {z : P0} : X z 22 20 = XI mT z (X z) (.ishl, 1, 0, 0, 0, [], 0, 0) 22 20 := X_at (r := mi22) rfl rfl
theorem x22_21 {z : P0} : X z 22 21 = XI mT z (X z) (.ior, 1, 0, 0, 0, [], 0, 0) 22 21 := X_at (r := mi22) rfl rfl
theorem x22_22 {z : P0} : X z 22 22 = XI mT z (X z) (.istore_n 1, 1, 1, 0, 0, [], 0, 0) 22 22 := X_at (r := mi22) rfl rfl
theorem x22_23 {z : P0} : X z 22 23 = XI mT z (X z) (.iinc 2 1, 3, 2, 0, 0, [], nI 1, 0) 22 23 := X_at (r := mi22) rfl rfl
theorem x22_26 {z : P0} : X z 22 26 = XI mT z (X z) (.goto (-22), 3, 4, 0, 0, [], 0, 0) 22 26 := X_at (r := mi22) rfl rfl
theorem x22_29 {z : P0} : X z 22 29 = XI mT z (X z) (.iload_n 1, 1, 1, 0, 0, [], 0, 0) 22 29 := X_at (r := mi22) rfl rfl
theorem x22_30 {z : P0} : X z 22 30 = XI mT z (X z) (.ireturn, 1, 0, 0, 0, [], 0, 0) 22 30 := X_at (r := mi22) rfl rfl
theorem x23_0 {z : P0} : X z 23 0 = XI mT z (X z) (.aload_n 0, 1, 0, 0, 0, [], 0, 0) 23 0 := X_at (r := mi23) rfl rfl
theorem x23_1 {z : P0} : X z 23 1 = XI mT z (X z) (.invokespecial 3, 3, 0, 9003, 0, [22], 0, 0) 23 1 := X_at (r := mi23) rfl rfl
theorem x23_4 {z : P0} : X z 23 4 = XI mT z (X z) (.aload_n 0, 1, 0, 0, 0, [], 0, 0) 23 4 := X_at (r := mi23) rfl rfl
theorem x23_5 {z : P0} : X z 23 5 = XI mT z (X z) (.bipush 6, 2, 0, 0, 0, [], nI 6, 0) 23 5 := X_at (r := mi23) rfl rfl
theorem x23_7 {z : P0} : X z 23 7 = XI mT z (X z) (.anewarray 9, 3, 24, 0, 0, [182], 0, 0) 23 7 := X_at (r := mi23) rfl rfl
theorem x23_10 {z : P0} : X z 23 10 = XI mT z (X z) (.putfield 11, 3, 3, 0, 3, [21], 0, 0) 23 10 := X_at (r := mi23) rfl rfl
theorem x23_13 {z : P0} : X z 23 13 = XI mT z (X z) (.iconst 0, 1, 0, 0, 0, [], nI 0, 0) 23 13 := X_at (r := mi23) rfl rfl
theorem x23_14 {z : P0} : X z 23 14 = XI mT z (X z) (.istore_n 1, 1, 1, 0, 0, [], 0, 0) 23 14 := X_at (r := mi23) rfl rfl
theorem x23_15 {z : P0} : X z 23 15 = XI mT z (X z) (.iload_n 1, 1, 1, 0, 0, [], 0, 0) 23 15 := X_at (r := mi23) rfl rfl
theorem x23_16 {z : P0} : X z 23 16 = XI mT z (X z) (.bipush 6, 2, 0, 0, 0, [], nI 6, 0) 23 16 := X_at (r := mi23) rfl rfl
theorem x23_18 {z : P0} : X z 23 18 = XI mT z (X z) (.if_icmp .ge 22, 3, 40, 0, 0, [], 0, 0) 23 18 := X_at (r := mi23) rfl rfl
theorem x23_21 {z : P0} : X z 23 21 = XI mT z (X z) (.aload_n 0, 1, 0, 0, 0, [], 0, 0) 23 21 := X_at (r := mi23) rfl rfl
theorem x23_22 {z : P0} : X z 23 22 = XI mT z (X z) (.getfield 11, 3, 3, 0, 3, [21], 0, 0) 23 22 := X_at (r := mi23) rfl rfl
theorem x23_25 {z : P0} : X z 23 25 = XI mT z (X z) (.iload_n 1, 1, 1, 0, 0, [], 0, 0) 23 25 := X_at (r := mi23) rfl rfl
theorem x23_26 {z : P0} : X z 23 26 = XI mT z (X z) (.new 9, 3, 8, 10, 0, [182], 0, 0) 23 26 := X_at (r := mi23) rfl rfl
theorem x23_29 {z : P0} : X z 23 29 = XI mT z (X z) (.dup, 1, 0, 0, 0, [], 0, 0) 23 29 := X_at (r := mi23) rfl rfl
theorem x23_30 {z : P0} : X z 23 30 = XI mT z (X z) (.invokespecial 17, 3, 0, 47, 0, [23], 0, 0) 23 30 := X_at (r := mi23) rfl rfl
theorem x23_33 {z : P0} : X z 23 33 = XI mT z (X z) (.aastore, 1, 0, 0, 0, [], 0, 0) 23 33 := X_at (r := mi23) rfl rfl
theorem x23_34 {z : P0} : X z 23 34 = XI mT z (X z) (.iinc 1 1, 3, 1, 0, 0, [], nI 1, 0) 23 34 := X_at (r := mi23) rfl rfl
theorem x23_37 {z : P0} : X z 23 37 = XI mT z (X z) (.goto (-22), 3, 15, 0, 0, [], 0, 0) 23 37 := X_at (r := mi23) rfl rfl
theorem x23_40 {z : P0} : X z 23 40 = XI mT z (X z) (.return_, 1, 0, 0, 0, [], 0, 0) 23 40 := X_at (r := mi23) rfl rfl
theorem x24_0 {z : P0} : X z 24 0 = XI mT z (X z) (.aload_n 0, 1, 0, 0, 0, [], 0, 0) 24 0 := X_at (r := mi24) rfl rfl
theorem x24_1 {z : P0} : X z 24 1 = XI mT z (X z) (.getfield 18, 3, 3, 1, 0, [22], 0, 0) 24 1 := X_at (r := mi24) rfl rfl
theorem x24_4 {z : P0} : X z 24 4 = XI mT z (X z) (.bipush 6, 2, 0, 0, 0, [], nI 6, 0) 24 4 := X_at (r := mi24) rfl rfl
theorem x24_6 {z : P0} : X z 24 6 = XI mT z (X z) (.if_icmp .lt 7, 3, 13, 0, 0, [], 0, 0) 24 6 := X_at (r := mi24) rfl rfl
theorem x24_9 {z : P0} : X z 24 9 = XI mT z (X z) (.aload_n 0, 1, 0, 0, 0, [], 0, 0) 24 9 := X_at (r := mi24) rfl rfl
theorem x24_10 {z : P0} : X z 24 10 = XI mT z (X z) (.invokevirtual 22, 3, 0, 26, 0, [24], 0, 0) 24 10 := X_at (r := mi24) rfl rfl
theorem x24_13 {z : P0} : X z 24 13 = XI mT z (X z) (.aload_n 0, 1, 0, 0, 0, [], 0, 0) 24 13 := X_at (r := mi24) rfl rfl
theorem x24_14 {z : P0} : X z 24 14 = XI mT z (X z) (.getfield 11, 3, 3, 0, 3, [21], 0, 0) 24 14 := X_at (r := mi24) rfl rfl
theorem x24_17 {z : P0} : X z 24 17 = XI mT z (X z) (.aload_n 0, 1, 0, 0, 0, [], 0, 0) 24 17 := X_at (r := mi24) rfl rfl
theorem x24_18 {z : P0} : X z 24 18 = XI mT z (X z) (.getfield 18, 3, 3, 1, 0, [22], 0, 0) 24 18 := X_at (r := mi24) rfl rfl
theorem x24_21 {z : P0} : X z 24 21 = XI mT z (X z) (.aaload, 1, 0, 0, 0, [], 0, 0) 24 21 := X_at (r := mi24) rfl rfl
theorem x24_22 {z : P0} : X z 24 22 = XI mT z (X z) (.aload_n 1, 1, 1, 0, 0, [], 0, 0) 24 22 := X_at (r := mi24) rfl rfl
theorem x24_23 {z : P0} : X z 24 23 = XI mT z (X z) (.invokevirtual 25, 3, 1, 48, 0, [25], 0, 0) 24 23 := X_at (r := mi24) rfl rfl
theorem x24_26 {z : P0} : X z 24 26 = XI mT z (X z) (.aload_n 0, 1, 0, 0, 0, [], 0, 0) 24 26 := X_at (r := mi24) rfl rfl
theorem x24_27 {z : P0} : X z 24 27 = XI mT z (X z) (.dup, 1, 0, 0, 0, [], 0, 0) 24 27 := X_at (r := mi24) rfl rfl
theorem x24_28 {z : P0} : X z 24 28 = XI mT z (X z) (.getfield 18, 3, 3, 1, 0, [22], 0, 0) 24 28 := X_at (r := mi24) rfl rfl
theorem x24_31 {z : P0} : X z 24 31 = XI mT z (X z) (.iconst 1, 1, 0, 0, 0, [], nI 1, 0) 24 31 := X_at (r := mi24) rfl rfl
theorem x24_32 {z : P0} : X z 24 32 = XI mT z (X z) (.iadd, 1, 0, 0, 0, [], 0, 0) 24 32 := X_at (r := mi24) rfl rfl
theorem x24_33 {z : P0} : X z 24 33 = XI mT z (X z) (.putfield 18, 3, 3, 1, 0, [22], 0, 0) 24 33 := X_at (r := mi24) rfl rfl
theorem x24_36 {z : P0} : X z 24 36 = XI mT z (X z) (.return_, 1, 0, 0, 0, [], 0, 0) 24 36 := X_at (r := mi24) rfl rfl
theorem x26_0 {z : P0} : X z 26 0 = XI mT z (X z) (.aload_n 0, 1, 0, 0, 0, [], 0, 0) 26 0 := X_at (r := mi26) rfl rfl
theorem x26_1 {z : P0} : X z 26 1 = XI mT z (X z) (.getfield 11, 3, 3, 0, 3, [21], 0, 0) 26 1 := X_at (r := mi26) rfl rfl
theorem x26_4 {z : P0} : X z 26 4 = XI mT z (X z) (.iconst 0, 1, 0, 0, 0, [], nI 0, 0) 26 4 := X_at (r := mi26) rfl rfl
theorem x26_5 {z : P0} : X z 26 5 = XI mT z (X z) (.aaload, 1, 0, 0, 0, [], 0, 0) 26 5 := X_at (r := mi26) rfl rfl
theorem x26_6 {z : P0} : X z 26 6 = XI mT z (X z) (.astore_n 1, 1, 1, 0, 0, [], 0, 0) 26 6 := X_at (r := mi26) rfl rfl
theorem x26_7 {z : P0} : X z 26 7 = XI mT z (X z) (.iconst 1, 1, 0, 0, 0, [], nI 1, 0) 26 7 := X_at (r := mi26) rfl rfl
theorem x26_8 {z : P0} : X z 26 8 = XI mT z (X z) (.istore_n 2, 1, 2, 0, 0, [], 0, 0) 26 8 := X_at (r := mi26) rfl rfl
theorem x26_9 {z : P0} : X z 26 9 = XI mT z (X z) (.iload_n 2, 1, 2, 0, 0, [], 0, 0) 26 9 := X_at (r := mi26) rfl rfl
theorem x26_10 {z : P0} : X z 26 10 = XI mT z (X z) (.bipush 6, 2, 0, 0, 0, [], nI 6, 0) 26 10 := X_at (r := mi26) rfl rfl
theorem x26_12 {z : P0} : X z 26 12 = XI mT z (X z) (.if_icmp .ge 23, 3, 35, 0, 0, [], 0, 0) 26 12 := X_at (r := mi26) rfl rfl
theorem x26_15 {z : P0} : X z 26 15 = XI mT z (X z) (.aload_n 0, 1, 0, 0, 0, [], 0, 0) 26 15 := X_at (r := mi26) rfl rfl
theorem x26_16 {z : P0} : X z 26 16 = XI mT z (X z) (.getfield 11, 3, 3, 0, 3, [21], 0, 0) 26 16 := X_at (r := mi26) rfl rfl
theorem x26_19 {z : P0} : X z 26 19 = XI mT z (X z) (.iload_n 2, 1, 2, 0, 0, [], 0, 0) 26 19 := X_at (r := mi26) rfl rfl
theorem x26_20 {z : P0} : X z 26 20 = XI mT z (X z) (.iconst 1, 1, 0, 0, 0, [], nI 1, 0) 26 20 := X_at (r := mi26) rfl rfl
theorem x26_21 {z : P0} : X z 26 21 = XI mT z (X z) (.isub, 1, 0, 0, 0, [], 0, 0) 26 21 := X_at (r := mi26) rfl rfl
theorem x26_22 {z : P0} : X z 26 22 = XI mT z (X z) (.aload_n 0, 1, 0, 0, 0, [], 0, 0) 26 22 := X_at (r := mi26) rfl rfl
theorem x26_23 {z : P0} : X z 26 23 = XI mT z (X z) (.getfield 11, 3, 3, 0, 3, [21], 0, 0) 26 23 := X_at (r := mi26) rfl rfl
theorem x26_26 {z : P0} : X z 26 26 = XI mT z (X z) (.iload_n 2, 1, 2, 0, 0, [], 0, 0) 26 26 := X_at (r := mi26) rfl rfl
theorem x26_27 {z : P0} : X z 26 27 = XI mT z (X z) (.aaload, 1, 0, 0, 0, [], 0, 0) 26 27 := X_at (r := mi26) rfl rfl
theorem x26_28 {z : P0} : X z 26 28 = XI mT z (X z) (.aastore, 1, 0, 0, 0, [], 0, 0) 26 28 := X_at (r := mi26) rfl rfl
theorem x26_29 {z : P0} : X z 26 29 = XI mT z (X z) (.iinc 2 1, 3, 2, 0, 0, [], nI 1, 0) 26 29 := X_at (r := mi26) rfl rfl
theorem x26_32 {z : P0} : X z 26 32 = XI mT z (X z) (.goto (-23), 3, 9, 0, 0, [], 0, 0) 26 32 := X_at (r := mi26) rfl rfl
theorem x26_35 {z : P0} : X z 26 35 = XI mT z (X z) (.aload_n 0, 1, 0, 0, 0, [], 0, 0) 26 35 := X_at (r := mi26) rfl rfl
theorem x26_36 {z : P0} : X z 26 36 = XI mT z (X z) (.getfield 11, 3, 3, 0, 3, [21], 0, 0) 26 36 := X_at (r := mi26) rfl rfl
theorem x26_39 {z : P0} : X z 26 39 = XI mT z (X z) (.iconst 5, 1, 0, 0, 0, [], nI 5, 0) 26 39 := X_at (r := mi26) rfl rfl
theorem x26_40 {z : P0} : X z 26 40 = XI mT z (X z) (.aload_n 1, 1, 1, 0, 0, [], 0, 0) 26 40 := X_at (r := mi26) rfl rfl
theorem x26_41 {z : P0} : X z 26 41 = XI mT z (X z) (.aastore, 1, 0, 0, 0, [], 0, 0) 26 41 := X_at (r := mi26) rfl rfl
theorem x26_42 {z : P0} : X z 26 42 = XI mT z (X z) (.aload_n 0, 1, 0, 0, 0, [], 0, 0) 26 42 := X_at (r := mi26) rfl rfl
theorem x26_43 {z : P0} : X z 26 43 = XI mT z (X z) (.iconst 5, 1, 0, 0, 0, [], nI 5, 0) 26 43 := X_at (r := mi26) rfl rfl
theorem x26_44 {z : P0} : X z 26 44 = XI mT z (X z) (.putfield 18, 3, 3, 1, 0, [22], 0, 0) 26 44 := X_at (r := mi26) rfl rfl
theorem x26_47 {z : P0} : X z 26 47 = XI mT z (X z) (.return_, 1, 0, 0, 0, [], 0, 0) 26 47 := X_at (r := mi26) rfl rfl
theorem x27_0 {z : P0} : X z 27 0 = XI mT z (X z) (.aload_n 0, 1, 0, 0, 0, [], 0, 0) 27 0 := X_at (r := mi27) rfl rfl
theorem x27_1 {z : P0} : X z 27 1 = XI mT z (X z) (.invokespecial 3, 3, 0, 9003, 0, [26], 0, 0) 27 1 := X_at (r := mi27) rfl rfl
theorem x27_4 {z : P0} : X z 27 4 = XI mT z (X z) (.aload_n 0, 1, 0, 0, 0, [], 0, 0) 27 4 := X_at (r := mi27) rfl rfl
theorem x27_5 {z : P0} : X z 27 5 = XI mT z (X z) (.bipush 60, 2, 0, 0, 0, [], nI 60, 0) 27 5 := X_at (r := mi27) rfl rfl
theorem x27_7 {z : P0} : X z 27 7 = XI mT z (X z) (.newarray .int, 2, 20, 0, 0, [], 0, 0) 27 7 := X_at (r := mi27) rfl rfl
theorem x27_9 {z : P0} : X z 27 9 = XI mT z (X z) (.putfield 9, 3, 4, 0, 3, [23], 0, 0) 27 9 := X_at (r := mi27) rfl rfl
theorem x27_12 {z : P0} : X z 27 12 = XI mT z (X z) (.return_, 1, 0, 0, 0, [], 0, 0) 27 12 := X_at (r := mi27) rfl rfl
theorem x28_0 {z : P0} : X z 28 0 = XI mT z (X z) (.aload_n 0, 1, 0, 0, 0, [], 0, 0) 28 0 := X_at (r := mi28) rfl rfl
theorem x28_1 {z : P0} : X z 28 1 = XI mT z (X z) (.iload_n 2, 1, 2, 0, 0, [], 0, 0) 28 1 := X_at (r := mi28) rfl rfl
theorem x28_2 {z : P0} : X z 28 2 = XI mT z (X z) (.bipush 60, 2, 0, 0, 0, [], nI 60, 0) 28 2 := X_at (r := mi28) rfl rfl
theorem x28_4 {z : P0} : X z 28 4 = XI mT z (X z) (.invokestatic 15, 3, 2, 184, 0, [27], 0, 0) 28 4 := X_at (r := mi28) rfl rfl
theorem x28_7 {z : P0} : X z 28 7 = XI mT z (X z) (.putfield 21, 3, 4, 1, 0, [24], 0, 0) 28 7 := X_at (r := mi28) rfl rfl
theorem x28_10 {z : P0} : X z 28 10 = XI mT z (X z) (.aload_n 1, 1, 1, 0, 0, [], 0, 0) 28 10 := X_at (r := mi28) rfl rfl
theorem x28_11 {z : P0} : X z 28 11 = XI mT z (X z) (.iconst 0, 1, 0, 0, 0, [], nI 0, 0) 28 11 := X_at (r := mi28) rfl rfl
theorem x28_12 {z : P0} : X z 28 12 = XI mT z (X z) (.aload_n 0, 1, 0, 0, 0, [], 0, 0) 28 12 := X_at (r := mi28) rfl rfl
theorem x28_13 {z : P0} : X z 28 13 = XI mT z (X z) (.getfield 9, 3, 4, 0, 3, [23], 0, 0) 28 13 := X_at (r := mi28) rfl rfl
theorem x28_16 {z : P0} : X z 28 16 = XI mT z (X z) (.iconst 0, 1, 0, 0, 0, [], nI 0, 0) 28 16 := X_at (r := mi28) rfl rfl
theorem x28_17 {z : P0} : X z 28 17 = XI mT z (X z) (.aload_n 0, 1, 0, 0, 0, [], 0, 0) 28 17 := X_at (r := mi28) rfl rfl
theorem x28_18 {z : P0} : X z 28 18 = XI mT z (X z) (.getfield 21, 3, 4, 1, 0, [24], 0, 0) 28 18 := X_at (r := mi28) rfl rfl
theorem x28_21 {z : P0} : X z 28 21 = XI mT z (X z) (.invokestatic 25, 3, 5, 9001, 0, [28], 0, 0) 28 21 := X_at (r := mi28) rfl rfl
theorem x28_24 {z : P0} : X z 28 24 = XI mT z (X z) (.return_, 1, 0, 0, 0, [], 0, 0) 28 24 := X_at (r := mi28) rfl rfl
theorem x29_0 {z : P0} : X z 29 0 = XI mT z (X z) (.iconst 0, 1, 0, 0, 0, [], nI 0, 0) 29 0 := X_at (r := mi29) rfl rfl
theorem x29_1 {z : P0} : X z 29 1 = XI mT z (X z) (.istore_n 1, 1, 1, 0, 0, [], 0, 0) 29 1 := X_at (r := mi29) rfl rfl
theorem x29_2 {z : P0} : X z 29 2 = XI mT z (X z) (.iconst 0, 1, 0, 0, 0, [], nI 0, 0) 29 2 := X_at (r := mi29) rfl rfl
theorem x29_3 {z : P0} : X z 29 3 = XI mT z (X z) (.istore_n 2, 1, 2, 0, 0, [], 0, 0) 29 3 := X_at (r := mi29) rfl rfl
theorem x29_4 {z : P0} : X z 29 4 = XI mT z (X z) (.iload_n 2, 1, 2, 0, 0, [], 0, 0) 29 4 := X_at (r := mi29) rfl rfl
theorem x29_5 {z : P0} : X z 29 5 = XI mT z (X z) (.aload_n 0, 1, 0, 0, 0, [], 0, 0) 29 5 := X_at (r := mi29) rfl rfl
theorem x29_6 {z : P0} : X z 29 6 = XI mT z (X z) (.getfield 21, 3, 4, 1, 0, [24], 0, 0) 29 6 := X_at (r := mi29) rfl rfl
theorem x29_9 {z : P0} : X z 29 9 = XI mT z (X z) (.if_icmp .ge 23, 3, 32, 0, 0, [], 0, 0) 29 9 := X_at (r := mi29) rfl rfl
theorem x29_12 {z : P0} : X z 29 12 = XI mT z (X z) (.aload_n 0, 1, 0, 0, 0, [], 0, 0) 29 12 := X_at (r := mi29) rfl rfl
theorem x29_13 {z : P0} : X z 29 13 = XI mT z (X z) (.getfield 9, 3, 4, 0, 3, [23], 0, 0) 29 13 := X_at (r := mi29) rfl rfl
theorem x29_16 {z : P0} : X z 29 16 = XI mT z (X z) (.iload_n 2, 1, 2, 0, 0, [], 0, 0) 29 16 := X_at (r := mi29) rfl rfl
theorem x29_17 {z : P0} : X z 29 17 = XI mT z (X z) (.iaload, 1, 0, 0, 0, [], 0, 0) 29 17 := X_at (r := mi29) rfl rfl
theorem x29_18 {z : P0} : X z 29 18 = XI mT z (X z) (.bipush 60, 2, 0, 0, 0, [], nI 60, 0) 29 18 := X_at (r := mi29) rfl rfl
theorem x29_20 {z : P0} : X z 29 20 = XI mT z (X z) (.if_icmp .ne 6, 3, 26, 0, 0, [], 0, 0) 29 20 := X_at (r := mi29) rfl rfl
theorem x29_23 {z : P0} : X z 29 23 = XI mT z (X z) (.iinc 1 1, 3, 1, 0, 0, [], nI 1, 0) 29 23 := X_at (r := mi29) rfl rfl
theorem x29_26 {z : P0} : X z 29 26 = XI mT z (X z) (.iinc 2 1, 3, 2, 0, 0, [], nI 1, 0) 29 26 := X_at (r := mi29) rfl rfl
theorem x29_29 {z : P0} : X z 29 29 = XI mT z (X z) (.goto (-25), 3, 4, 0, 0, [], 0, 0) 29 29 := X_at (r := mi29) rfl rfl
theorem x29_32 {z : P0} : X z 29 32 = XI mT z (X z) (.iload_n 1, 1, 1, 0, 0, [], 0, 0) 29 32 := X_at (r := mi29) rfl rfl
theorem x29_33 {z : P0} : X z 29 33 = XI mT z (X z) (.ireturn, 1, 0, 0, 0, [], 0, 0) 29 33 := X_at (r := mi29) rfl rfl
theorem x30_0 {z : P0} : X z 30 0 = XI mT z (X z) (.iconst 0, 1, 0, 0, 0, [], nI 0, 0) 30 0 := X_at (r := mi30) rfl rfl
theorem x30_1 {z : P0} : X z 30 1 = XI mT z (X z) (.istore_n 1, 1, 1, 0, 0, [], 0, 0) 30 1 := X_at (r := mi30) rfl rfl
theorem x30_2 {z : P0} : X z 30 2 = XI mT z (X z) (.iconst 0, 1, 0, 0, 0, [], nI 0, 0) 30 2 := X_at (r := mi30) rfl rfl
theorem x30_3 {z : P0} : X z 30 3 = XI mT z (X z) (.istore_n 2, 1, 2, 0, 0, [], 0, 0) 30 3 := X_at (r := mi30) rfl rfl
theorem x30_4 {z : P0} : X z 30 4 = XI mT z (X z) (.iload_n 2, 1, 2, 0, 0, [], 0, 0) 30 4 := X_at (r := mi30) rfl rfl
theorem x30_5 {z : P0} : X z 30 5 = XI mT z (X z) (.aload_n 0, 1, 0, 0, 0, [], 0, 0) 30 5 := X_at (r := mi30) rfl rfl
theorem x30_6 {z : P0} : X z 30 6 = XI mT z (X z) (.getfield 21, 3, 4, 1, 0, [24], 0, 0) 30 6 := X_at (r := mi30) rfl rfl
theorem x30_9 {z : P0} : X z 30 9 = XI mT z (X z) (.if_icmp .ge 23, 3, 32, 0, 0, [], 0, 0) 30 9 := X_at (r := mi30) rfl rfl
theorem x30_12 {z : P0} : X z 30 12 = XI mT z (X z) (.aload_n 0, 1, 0, 0, 0, [], 0, 0) 30 12 := X_at (r := mi30) rfl rfl
theorem x30_13 {z : P0} : X z 30 13 = XI mT z (X z) (.getfield 9, 3, 4, 0, 3, [23], 0, 0) 30 13 := X_at (r := mi30) rfl rfl
theorem x30_16 {z : P0} : X z 30 16 = XI mT z (X z) (.iload_n 2, 1, 2, 0, 0, [], 0, 0) 30 16 := X_at (r := mi30) rfl rfl
theorem x30_17 {z : P0} : X z 30 17 = XI mT z (X z) (.iaload, 1, 0, 0, 0, [], 0, 0) 30 17 := X_at (r := mi30) rfl rfl
theorem x30_18 {z : P0} : X z 30 18 = XI mT z (X z) (.bipush 125, 2, 0, 0, 0, [], nI 125, 0) 30 18 := X_at (r := mi30) rfl rfl
theorem x30_20 {z : P0} : X z 30 20 = XI mT z (X z) (.if_icmp .eq 6, 3, 26, 0, 0, [], 0, 0) 30 20 := X_at (r := mi30) rfl rfl
theorem x30_23 {z : P0} : X z 30 23 = XI mT z (X z) (.iinc 1 1, 3, 1, 0, 0, [], nI 1, 0) 30 23 := X_at (r := mi30) rfl rfl
theorem x30_26 {z : P0} : X z 30 26 = XI mT z (X z) (.iinc 2 1, 3, 2, 0, 0, [], nI 1, 0) 30 26 := X_at (r := mi30) rfl rfl
theorem x30_29 {z : P0} : X z 30 29 = XI mT z (X z) (.goto (-25), 3, 4, 0, 0, [], 0, 0) 30 29 := X_at (r := mi30) rfl rfl
theorem x30_32 {z : P0} : X z 30 32 = XI mT z (X z) (.iload_n 1, 1, 1, 0, 0, [], 0, 0) 30 32 := X_at (r := mi30) rfl rfl
theorem x30_33 {z : P0} : X z 30 33 = XI mT z (X z) (.iconst 2, 1, 0, 0, 0, [], nI 2, 0) 30 33 := X_at (r := mi30) rfl rfl
theorem x30_34 {z : P0} : X z 30 34 = XI mT z (X z) (.aload_n 0, 1, 0, 0, 0, [], 0, 0) 30 34 := X_at (r := mi30) rfl rfl
theorem x30_35 {z : P0} : X z 30 35 = XI mT z (X z) (.invokevirtual 31, 3, 0, 29, 0, [29], 0, 0) 30 35 := X_at (r := mi30) rfl rfl
theorem x30_38 {z : P0} : X z 30 38 = XI mT z (X z) (.imul, 1, 0, 0, 0, [], 0, 0) 30 38 := X_at (r := mi30) rfl rfl
theorem x30_39 {z : P0} : X z 30 39 = XI mT z (X z) (.isub, 1, 0, 0, 0, [], 0, 0) 30 39 := X_at (r := mi30) rfl rfl
theorem x30_40 {z : P0} : X z 30 40 = XI mT z (X z) (.ireturn, 1, 0, 0, 0, [], 0, 0) 30 40 := X_at (r := mi30) rfl rfl
theorem x31_0 {z : P0} : X z 31 0 = XI mT z (X z) (.iconst 0, 1, 0, 0, 0, [], nI 0, 0) 31 0 := X_at (r := mi31) rfl rfl
theorem x31_1 {z : P0} : X z 31 1 = XI mT z (X z) (.istore_n 1, 1, 1, 0, 0, [], 0, 0) 31 1 := X_at (r := mi31) rfl rfl
theorem x31_2 {z : P0} : X z 31 2 = XI mT z (X z) (.iload_n 1, 1, 1, 0, 0, [], 0, 0) 31 2 := X_at (r := mi31) rfl rfl
theorem x31_3 {z : P0} : X z 31 3 = XI mT z (X z) (.iconst 1, 1, 0, 0, 0, [], nI 1, 0) 31 3 := X_at (r := mi31) rfl rfl
theorem x31_4 {z : P0} : X z 31 4 = XI mT z (X z) (.iadd, 1, 0, 0, 0, [], 0, 0) 31 4 := X_at (r := mi31) rfl rfl
theorem x31_5 {z : P0} : X z 31 5 = XI mT z (X z) (.aload_n 0, 1, 0, 0, 0, [], 0, 0) 31 5 := X_at (r := mi31) rfl rfl
theorem x31_6 {z : P0} : X z 31 6 = XI mT z (X z) (.getfield 21, 3, 4, 1, 0, [24], 0, 0) 31 6 := X_at (r := mi31) rfl rfl
theorem x31_9 {z : P0} : X z 31 9 = XI mT z (X z) (.if_icmp .ge 35, 3, 44, 0, 0, [], 0, 0) 31 9 := X_at (r := mi31) rfl rfl
theorem x31_12 {z : P0} : X z 31 12 = XI mT z (X z) (.aload_n 0, 1, 0, 0, 0, [], 0, 0) 31 12 := X_at (r := mi31) rfl rfl
theorem x31_13 {z : P0} : X z 31 13 = XI mT z (X z) (.getfield 9, 3, 4, 0, 3, [23], 0, 0) 31 13 := X_at (r := mi31) rfl rfl
theorem x31_16 {z : P0} : X z 31 16 = XI mT z (X z) (.iload_n 1, 1, 1, 0, 0, [], 0, 0) 31 16 := X_at (r := mi31) rfl rfl
theorem x31_17 {z : P0} : X z 31 17 = XI mT z (X z) (.iaload, 1, 0, 0, 0, [], 0, 0) 31 17 := X_at (r := mi31) rfl rfl
theorem x31_18 {z : P0} : X z 31 18 = XI mT z (X z) (.bipush 60, 2, 0, 0, 0, [], nI 60, 0) 31 18 := X_at (r := mi31) rfl rfl
theorem x31_20 {z : P0} : X z 31 20 = XI mT z (X z) (.if_icmp .ne 18, 3, 38, 0, 0, [], 0, 0) 31 20 := X_at (r := mi31) rfl rfl
theorem x31_23 {z : P0} : X z 31 23 = XI mT z (X z) (.aload_n 0, 1, 0, 0, 0, [], 0, 0) 31 23 := X_at (r := mi31) rfl rfl
theorem x31_24 {z : P0} : X z 31 24 = XI mT z (X z) (.getfield 9, 3, 4, 0, 3, [23], 0, 0) 31 24 := X_at (r := mi31) rfl rfl
theorem x31_27 {z : P0} : X z 31 27 = XI mT z (X z) (.iload_n 1, 1, 1, 0, 0, [], 0, 0) 31 27 := X_at (r := mi31) rfl rfl
theorem x31_28 {z : P0} : X z 31 28 = XI mT z (X z) (.iconst 1, 1, 0, 0, 0, [], nI 1, 0) 31 28 := X_at (r := mi31) rfl rfl
theorem x31_29 {z : P0} : X z 31 29 = XI mT z (X z) (.iadd, 1, 0, 0, 0, [], 0, 0) 31 29 := X_at (r := mi31) rfl rfl
theorem x31_30 {z : P0} : X z 31 30 = XI mT z (X z) (.iaload, 1, 0, 0, 0, [], 0, 0) 31 30 := X_at (r := mi31) rfl rfl
theorem x31_31 {z : P0} : X z 31 31 = XI mT z (X z) (.bipush 119, 2, 0, 0, 0, [], nI 119, 0) 31 31 := X_at (r := mi31) rfl rfl
theorem x31_33 {z : P0} : X z 31 33 = XI mT z (X z) (.if_icmp .ne 5, 3, 38, 0, 0, [], 0, 0) 31 33 := X_at (r := mi31) rfl rfl
theorem x31_36 {z : P0} : X z 31 36 = XI mT z (X z) (.iconst 1, 1, 0, 0, 0, [], nI 1, 0) 31 36 := X_at (r := mi31) rfl rfl
theorem x31_37 {z : P0} : X z 31 37 = XI mT z (X z) (.ireturn, 1, 0, 0, 0, [], 0, 0) 31 37 := X_at (r := mi31) rfl rfl
theorem x31_38 {z : P0} : X z 31 38 = XI mT z (X z) (.iinc 1 1, 3, 1, 0, 0, [], nI 1, 0) 31 38 := X_at (r := mi31) rfl rfl
theorem x31_41 {z : P0} : X z 31 41 = XI mT z (X z) (.goto (-39), 3, 2, 0, 0, [], 0, 0) 31 41 := X_at (r := mi31) rfl rfl
theorem x31_44 {z : P0} : X z 31 44 = XI mT z (X z) (.iconst 0, 1, 0, 0, 0, [], nI 0, 0) 31 44 := X_at (r := mi31) rfl rfl
theorem x31_45 {z : P0} : X z 31 45 = XI mT z (X z) (.ireturn, 1, 0, 0, 0, [], 0, 0) 31 45 := X_at (r := mi31) rfl rfl
theorem x32_0 {z : P0} : X z 32 0 = XI mT z (X z) (.aload_n 0, 1, 0, 0, 0, [], 0, 0) 32 0 := X_at (r := mi32) rfl rfl
theorem x32_1 {z : P0} : X z 32 1 = XI mT z (X z) (.invokespecial 3, 3, 0, 9003, 0, [30], 0, 0) 32 1 := X_at (r := mi32) rfl rfl
theorem x32_4 {z : P0} : X z 32 4 = XI mT z (X z) (.aload_n 0, 1, 0, 0, 0, [], 0, 0) 32 4 := X_at (r := mi32) rfl rfl
theorem x32_5 {z : P0} : X z 32 5 = XI mT z (X z) (.bipush 121, 2, 0, 0, 0, [], nI 121, 0) 32 5 := X_at (r := mi32) rfl rfl
theorem x32_7 {z : P0} : X z 32 7 = XI mT z (X z) (.newarray .int, 2, 20, 0, 0, [], 0, 0) 32 7 := X_at (r := mi32) rfl rfl
theorem x32_9 {z : P0} : X z 32 9 = XI mT z (X z) (.putfield 9, 3, 5, 0, 3, [25], 0, 0) 32 9 := X_at (r := mi32) rfl rfl
theorem x32_12 {z : P0} : X z 32 12 = XI mT z (X z) (.aload_n 0, 1, 0, 0, 0, [], 0, 0) 32 12 := X_at (r := mi32) rfl rfl
theorem x32_13 {z : P0} : X z 32 13 = XI mT z (X z) (.bipush 121, 2, 0, 0, 0, [], nI 121, 0) 32 13 := X_at (r := mi32) rfl rfl
theorem x32_15 {z : P0} : X z 32 15 = XI mT z (X z) (.newarray .int, 2, 20, 0, 0, [], 0, 0) 32 15 := X_at (r := mi32) rfl rfl
theorem x32_17 {z : P0} : X z 32 17 = XI mT z (X z) (.putfield 15, 3, 5, 1, 3, [26], 0, 0) 32 17 := X_at (r := mi32) rfl rfl
theorem x32_20 {z : P0} : X z 32 20 = XI mT z (X z) (.return_, 1, 0, 0, 0, [], 0, 0) 32 20 := X_at (r := mi32) rfl rfl
theorem x33_0 {z : P0} : X z 33 0 = XI mT z (X z) (.aload_n 0, 1, 0, 0, 0, [], 0, 0) 33 0 := X_at (r := mi33) rfl rfl
theorem x33_1 {z : P0} : X z 33 1 = XI mT z (X z) (.iconst 0, 1, 0, 0, 0, [], nI 0, 0) 33 1 := X_at (r := mi33) rfl rfl
theorem x33_2 {z : P0} : X z 33 2 = XI mT z (X z) (.putfield 18, 3, 5, 2, 0, [27], 0, 0) 33 2 := X_at (r := mi33) rfl rfl
theorem x33_5 {z : P0} : X z 33 5 = XI mT z (X z) (.iconst 0, 1, 0, 0, 0, [], nI 0, 0) 33 5 := X_at (r := mi33) rfl rfl
theorem x33_6 {z : P0} : X z 33 6 = XI mT z (X z) (.istore_n 3, 1, 3, 0, 0, [], 0, 0) 33 6 := X_at (r := mi33) rfl rfl
theorem x33_7 {z : P0} : X z 33 7 = XI mT z (X z) (.iconst 0, 1, 0, 0, 0, [], nI 0, 0) 33 7 := X_at (r := mi33) rfl rfl
theorem x33_8 {z : P0} : X z 33 8 = XI mT z (X z) (.istore 4, 2, 4, 0, 0, [], 0, 0) 33 8 := X_at (r := mi33) rfl rfl
theorem x33_10 {z : P0} : X z 33 10 = XI mT z (X z) (.iload 4, 2, 4, 0, 0, [], 0, 0) 33 10 := X_at (r := mi33) rfl rfl
theorem x33_12 {z : P0} : X z 33 12 = XI mT z (X z) (.iload_n 2, 1, 2, 0, 0, [], 0, 0) 33 12 := X_at (r := mi33) rfl rfl
theorem x33_13 {z : P0} : X z 33 13 = XI mT z (X z) (.if_icmp .gt 95, 3, 108, 0, 0, [], 0, 0) 33 13 := X_at (r := mi33) rfl rfl
theorem x33_16 {z : P0} : X z 33 16 = XI mT z (X z) (.aload_n 0, 1, 0, 0, 0, [], 0, 0) 33 16 := X_at (r := mi33) rfl rfl
theorem x33_17 {z : P0} : X z 33 17 = XI mT z (X z) (.getfield 18, 3, 5, 2, 0, [27], 0, 0) 33 17 := X_at (r := mi33) rfl rfl
theorem x33_20 {z : P0} : X z 33 20 = XI mT z (X z) (.bipush 121, 2, 0, 0, 0, [], nI 121, 0) 33 20 := X_at (r := mi33) rfl rfl
theorem x33_22 {z : P0} : X z 33 22 = XI mT z (X z) (.if_icmp .ge 86, 3, 108, 0, 0, [], 0, 0) 33 22 := X_at (r := mi33) rfl rfl
theorem x33_25 {z : P0} : X z 33 25 = XI mT z (X z) (.iload 4, 2, 4, 0, 0, [], 0, 0) 33 25 := X_at (r := mi33) rfl rfl
theorem x33_27 {z : P0} : X z 33 27 = XI mT z (X z) (.iload_n 2, 1, 2, 0, 0, [], 0, 0) 33 27 := X_at (r := mi33) rfl rfl
theorem x33_28 {z : P0} : X z 33 28 = XI mT z (X z) (.if_icmp .ge 10, 3, 38, 0, 0, [], 0, 0) 33 28 := X_at (r := mi33) rfl rfl
theorem x33_31 {z : P0} : X z 33 31 = XI mT z (X z) (.aload_n 1, 1, 1, 0, 0, [], 0, 0) 33 31 := X_at (r := mi33) rfl rfl
theorem x33_32 {z : P0} : X z 33 32 = XI mT z (X z) (.iload 4, 2, 4, 0, 0, [], 0, 0) 33 32 := X_at (r := mi33) rfl rfl
theorem x33_34 {z : P0} : X z 33 34 = XI mT z (X z) (.iaload, 1, 0, 0, 0, [], 0, 0) 33 34 := X_at (r := mi33) rfl rfl
theorem x33_35 {z : P0} : X z 33 35 = XI mT z (X z) (.goto 5, 3, 40, 0, 0, [], 0, 0) 33 35 := X_at (r := mi33) rfl rfl
theorem x33_38 {z : P0} : X z 33 38 = XI mT z (X z) (.bipush 124, 2, 0, 0, 0, [], nI 124, 0) 33 38 := X_at (r := mi33) rfl rfl
theorem x33_40 {z : P0} : X z 33 40 = XI mT z (X z) (.istore 5, 2, 5, 0, 0, [], 0, 0) 33 40 := X_at (r := mi33) rfl rfl
theorem x33_42 {z : P0} : X z 33 42 = XI mT z (X z) (.iload 5, 2, 5, 0, 0, [], 0, 0) 33 42 := X_at (r := mi33) rfl rfl
theorem x33_44 {z : P0} : X z 33 44 = XI mT z (X z) (.bipush 95, 2, 0, 0, 0, [], nI 95, 0) 33 44 := X_at (r := mi33) rfl rfl
theorem x33_46 {z : P0} : X z 33 46 = XI mT z (X z) (.if_icmp .eq 17, 3, 63, 0, 0, [], 0, 0) 33 46 := X_at (r := mi33) rfl rfl
theorem x33_49 {z : P0} : X z 33 49 = XI mT z (X z) (.iload 5, 2, 5, 0, 0, [], 0, 0) 33 49 := X_at (r := mi33) rfl rfl
theorem x33_51 {z : P0} : X z 33 51 = XI mT z (X z) (.bipush 47, 2, 0, 0, 0, [], nI 47, 0) 33 51 := X_at (r := mi33) rfl rfl
theorem x33_53 {z : P0} : X z 33 53 = XI mT z (X z) (.if_icmp .eq 10, 3, 63, 0, 0, [], 0, 0) 33 53 := X_at (r := mi33) rfl rfl
theorem x33_56 {z : P0} : X z 33 56 = XI mT z (X z) (.iload 5, 2, 5, 0, 0, [], 0, 0) 33 56 := X_at (r := mi33) rfl rfl
theorem x33_58 {z : P0} : X z 33 58 = XI mT z (X z) (.bipush 124, 2, 0, 0, 0, [], nI 124, 0) 33 58 := X_at (r := mi33) rfl rfl
theorem x33_60 {z : P0} : X z 33 60 = XI mT z (X z) (.if_icmp .ne 42, 3, 102, 0, 0, [], 0, 0) 33 60 := X_at (r := mi33) rfl rfl
theorem x33_63 {z : P0} : X z 33 63 = XI mT z (X z) (.aload_n 0, 1, 0, 0, 0, [], 0, 0) 33 63 := X_at (r := mi33) rfl rfl
theorem x33_64 {z : P0} : X z 33 64 = XI mT z (X z) (.getfield 9, 3, 5, 0, 3, [25], 0, 0) 33 64 := X_at (r := mi33) rfl rfl
theorem x33_67 {z : P0} : X z 33 67 = XI mT z (X z) (.aload_n 0, 1, 0, 0, 0, [], 0, 0) 33 67 := X_at (r := mi33) rfl rfl
theorem x33_68 {z : P0} : X z 33 68 = XI mT z (X z) (.getfield 18, 3, 5, 2, 0, [27], 0, 0) 33 68 := X_at (r := mi33) rfl rfl
theorem x33_71 {z : P0} : X z 33 71 = XI mT z (X z) (.iload 4, 2, 4, 0, 0, [], 0, 0) 33 71 := X_at (r := mi33) rfl rfl
theorem x33_73 {z : P0} : X z 33 73 = XI mT z (X z) (.iload_n 3, 1, 3, 0, 0, [], 0, 0) 33 73 := X_at (r := mi33) rfl rfl
theorem x33_74 {z : P0} : X z 33 74 = XI mT z (X z) (.isub, 1, 0, 0, 0, [], 0, 0) 33 74 := X_at (r := mi33) rfl rfl
theorem x33_75 {z : P0} : X z 33 75 = XI mT z (X z) (.iastore, 1, 0, 0, 0, [], 0, 0) 33 75 := X_at (r := mi33) rfl rfl
theorem x33_76 {z : P0} : X z 33 76 = XI mT z (X z) (.aload_n 0, 1, 0, 0, 0, [], 0, 0) 33 76 := X_at (r := mi33) rfl rfl
theorem x33_77 {z : P0} : X z 33 77 = XI mT z (X z) (.getfield 15, 3, 5, 1, 3, [26], 0, 0) 33 77 := X_at (r := mi33) rfl rfl
theorem x33_80 {z : P0} : X z 33 80 = XI mT z (X z) (.aload_n 0, 1, 0, 0, 0, [], 0, 0) 33 80 := X_at (r := mi33) rfl rfl
theorem x33_81 {z : P0} : X z 33 81 = XI mT z (X z) (.getfield 18, 3, 5, 2, 0, [27], 0, 0) 33 81 := X_at (r := mi33) rfl rfl
theorem x33_84 {z : P0} : X z 33 84 = XI mT z (X z) (.iload 5, 2, 5, 0, 0, [], 0, 0) 33 84 := X_at (r := mi33) rfl rfl
theorem x33_86 {z : P0} : X z 33 86 = XI mT z (X z) (.iastore, 1, 0, 0, 0, [], 0, 0) 33 86 := X_at (r := mi33) rfl rfl
theorem x33_87 {z : P0} : X z 33 87 = XI mT z (X z) (.aload_n 0, 1, 0, 0, 0, [], 0, 0) 33 87 := X_at (r := mi33) rfl rfl
theorem x33_88 {z : P0} : X z 33 88 = XI mT z (X z) (.dup, 1, 0, 0, 0, [], 0, 0) 33 88 := X_at (r := mi33) rfl rfl
theorem x33_89 {z : P0} : X z 33 89 = XI mT z (X z) (.getfield 18, 3, 5, 2, 0, [27], 0, 0) 33 89 := X_at (r := mi33) rfl rfl
theorem x33_92 {z : P0} : X z 33 92 = XI mT z (X z) (.iconst 1, 1, 0, 0, 0, [], nI 1, 0) 33 92 := X_at (r := mi33) rfl rfl
theorem x33_93 {z : P0} : X z 33 93 = XI mT z (X z) (.iadd, 1, 0, 0, 0, [], 0, 0) 33 93 := X_at (r := mi33) rfl rfl
theorem x33_94 {z : P0} : X z 33 94 = XI mT z (X z) (.putfield 18, 3, 5, 2, 0, [27], 0, 0) 33 94 := X_at (r := mi33) rfl rfl
theorem x33_97 {z : P0} : X z 33 97 = XI mT z (X z) (.iload 4, 2, 4, 0, 0, [], 0, 0) 33 97 := X_at (r := mi33) rfl rfl
theorem x33_99 {z : P0} : X z 33 99 = XI mT z (X z) (.iconst 1, 1, 0, 0, 0, [], nI 1, 0) 33 99 := X_at (r := mi33) rfl rfl
theorem x33_100 {z : P0} : X z 33 100 = XI mT z (X z) (.iadd, 1, 0, 0, 0, [], 0, 0) 33 100 := X_at (r := mi33) rfl rfl
theorem x33_101 {z : P0} : X z 33 101 = XI mT z (X z) (.istore_n 3, 1, 3, 0, 0, [], 0, 0) 33 101 := X_at (r := mi33) rfl rfl
theorem x33_102 {z : P0} : X z 33 102 = XI mT z (X z) (.iinc 4 1, 3, 4, 0, 0, [], nI 1, 0) 33 102 := X_at (r := mi33) rfl rfl
theorem x33_105 {z : P0} : X z 33 105 = XI mT z (X z) (.goto (-95), 3, 10, 0, 0, [], 0, 0) 33 105 := X_at (r := mi33) rfl rfl
theorem x33_108 {z : P0} : X z 33 108 = XI mT z (X z) (.return_, 1, 0, 0, 0, [], 0, 0) 33 108 := X_at (r := mi33) rfl rfl
theorem x34_0 {z : P0} : X z 34 0 = XI mT z (X z) (.aload_n 0, 1, 0, 0, 0, [], 0, 0) 34 0 := X_at (r := mi34) rfl rfl
theorem x34_1 {z : P0} : X z 34 1 = XI mT z (X z) (.iconst 0, 1, 0, 0, 0, [], nI 0, 0) 34 1 := X_at (r := mi34) rfl rfl
theorem x34_2 {z : P0} : X z 34 2 = XI mT z (X z) (.putfield 22, 3, 5, 3, 0, [28], 0, 0) 34 2 := X_at (r := mi34) rfl rfl
theorem x34_5 {z : P0} : X z 34 5 = XI mT z (X z) (.aload_n 0, 1, 0, 0, 0, [], 0, 0) 34 5 := X_at (r := mi34) rfl rfl
theorem x34_6 {z : P0} : X z 34 6 = XI mT z (X z) (.iconst 0, 1, 0, 0, 0, [], nI 0, 0) 34 6 := X_at (r := mi34) rfl rfl
theorem x34_7 {z : P0} : X z 34 7 = XI mT z (X z) (.putfield 25, 3, 5, 4, 0, [29], 0, 0) 34 7 := X_at (r := mi34) rfl rfl
theorem x34_10 {z : P0} : X z 34 10 = XI mT z (X z) (.iload_n 1, 1, 1, 0, 0, [], 0, 0) 34 10 := X_at (r := mi34) rfl rfl
theorem x34_11 {z : P0} : X z 34 11 = XI mT z (X z) (.iconst 1, 1, 0, 0, 0, [], nI 1, 0) 34 11 := X_at (r := mi34) rfl rfl
theorem x34_12 {z : P0} : X z 34 12 = XI mT z (X z) (.if_icmp .lt 8, 3, 20, 0, 0, [], 0, 0) 34 12 := X_at (r := mi34) rfl rfl
theorem x34_15 {z : P0} : X z 34 15 = XI mT z (X z) (.iload_n 2, 1, 2, 0, 0, [], 0, 0) 34 15 := X_at (r := mi34) rfl rfl
theorem x34_16 {z : P0} : X z 34 16 = XI mT z (X z) (.iconst 1, 1, 0, 0, 0, [], nI 1, 0) 34 16 := X_at (r := mi34) rfl rfl
theorem x34_17 {z : P0} : X z 34 17 = XI mT z (X z) (.if_icmp .ge 4, 3, 21, 0, 0, [], 0, 0) 34 17 := X_at (r := mi34) rfl rfl
theorem x34_20 {z : P0} : X z 34 20 = XI mT z (X z) (.return_, 1, 0, 0, 0, [], 0, 0) 34 20 := X_at (r := mi34) rfl rfl
theorem x34_21 {z : P0} : X z 34 21 = XI mT z (X z) (.iconst 0, 1, 0, 0, 0, [], nI 0, 0) 34 21 := X_at (r := mi34) rfl rfl
theorem x34_22 {z : P0} : X z 34 22 = XI mT z (X z) (.istore_n 3, 1, 3, 0, 0, [], 0, 0) 34 22 := X_at (r := mi34) rfl rfl
theorem x34_23 {z : P0} : X z 34 23 = XI mT z (X z) (.iconst (-1), 1, 0, 0, 0, [], (-1), 0) 34 23 := X_at (r := mi34) rfl rfl
theorem x34_24 {z : P0} : X z 34 24 = XI mT z (X z) (.istore 4, 2, 4, 0, 0, [], 0, 0) 34 24 := X_at (r := mi34) rfl rfl
theorem x34_26 {z : P0} : X z 34 26 = XI mT z (X z) (.iconst 0, 1, 0, 0, 0, [], nI 0, 0) 34 26 := X_at (r := mi34) rfl rfl
theorem x34_27 {z : P0} : X z 34 27 = XI mT z (X z) (.istore 5, 2, 5, 0, 0, [], 0, 0) 34 27 := X_at (r := mi34) rfl rfl
theorem x34_29 {z : P0} : X z 34 29 = XI mT z (X z) (.iload 5, 2, 5, 0, 0, [], 0, 0) 34 29 := X_at (r := mi34) rfl rfl
theorem x34_31 {z : P0} : X z 34 31 = XI mT z (X z) (.aload_n 0, 1, 0, 0, 0, [], 0, 0) 34 31 := X_at (r := mi34) rfl rfl
theorem x34_32 {z : P0} : X z 34 32 = XI mT z (X z) (.getfield 18, 3, 5, 2, 0, [27], 0, 0) 34 32 := X_at (r := mi34) rfl rfl
theorem x34_35 {z : P0} : X z 34 35 = XI mT z (X z) (.if_icmp .ge 78, 3, 113, 0, 0, [], 0, 0) 34 35 := X_at (r := mi34) rfl rfl
theorem x34_38 {z : P0} : X z 34 38 = XI mT z (X z) (.aload_n 0, 1, 0, 0, 0, [], 0, 0) 34 38 := X_at (r := mi34) rfl rfl
theorem x34_39 {z : P0} : X z 34 39 = XI mT z (X z) (.aload_n 0, 1, 0, 0, 0, [], 0, 0) 34 39 := X_at (r := mi34) rfl rfl
theorem x34_40 {z : P0} : X z 34 40 = XI mT z (X z) (.getfield 9, 3, 5, 0, 3, [25], 0, 0) 34 40 := X_at (r := mi34) rfl rfl
theorem x34_43 {z : P0} : X z 34 43 = XI mT z (X z) (.iload 5, 2, 5, 0, 0, [], 0, 0) 34 43 := X_at (r := mi34) rfl rfl
theorem x34_45 {z : P0} : X z 34 45 = XI mT z (X z) (.iaload, 1, 0, 0, 0, [], 0, 0) 34 45 := X_at (r := mi34) rfl rfl
theorem x34_46 {z : P0} : X z 34 46 = XI mT z (X z) (.iload 4, 2, 4, 0, 0, [], 0, 0) 34 46 := X_at (r := mi34) rfl rfl
theorem x34_48 {z : P0} : X z 34 48 = XI mT z (X z) (.iload_n 1, 1, 1, 0, 0, [], 0, 0) 34 48 := X_at (r := mi34) rfl rfl
theorem x34_49 {z : P0} : X z 34 49 = XI mT z (X z) (.invokevirtual 28, 3, 3, 35, 0, [31], 0, 0) 34 49 := X_at (r := mi34) rfl rfl
theorem x34_52 {z : P0} : X z 34 52 = XI mT z (X z) (.istore 4, 2, 4, 0, 0, [], 0, 0) 34 52 := X_at (r := mi34) rfl rfl
theorem x34_54 {z : P0} : X z 34 54 = XI mT z (X z) (.aload_n 0, 1, 0, 0, 0, [], 0, 0) 34 54 := X_at (r := mi34) rfl rfl
theorem x34_55 {z : P0} : X z 34 55 = XI mT z (X z) (.getfield 15, 3, 5, 1, 3, [26], 0, 0) 34 55 := X_at (r := mi34) rfl rfl
theorem x34_58 {z : P0} : X z 34 58 = XI mT z (X z) (.iload 5, 2, 5, 0, 0, [], 0, 0) 34 58 := X_at (r := mi34) rfl rfl
theorem x34_60 {z : P0} : X z 34 60 = XI mT z (X z) (.iaload, 1, 0, 0, 0, [], 0, 0) 34 60 := X_at (r := mi34) rfl rfl
theorem x34_61 {z : P0} : X z 34 61 = XI mT z (X z) (.bipush 95, 2, 0, 0, 0, [], nI 95, 0) 34 61 := X_at (r := mi34) rfl rfl
theorem x34_63 {z : P0} : X z 34 63 = XI mT z (X z) (.if_icmp .eq 6, 3, 69, 0, 0, [], 0, 0) 34 63 := X_at (r := mi34) rfl rfl
theorem x34_66 {z : P0} : X z 34 66 = XI mT z (X z) (.iconst (-1), 1, 0, 0, 0, [], (-1), 0) 34 66 := X_at (r := mi34) rfl rfl
theorem x34_67 {z : P0} : X z 34 67 = XI mT z (X z) (.istore 4, 2, 4, 0, 0, [], 0, 0) 34 67 := X_at (r := mi34) rfl rfl
theorem x34_69 {z : P0} : X z 34 69 = XI mT z (X z) (.aload_n 0, 1, 0, 0, 0, [], 0, 0) 34 69 := X_at (r := mi34) rfl rfl
theorem x34_70 {z : P0} : X z 34 70 = XI mT z (X z) (.getfield 15, 3, 5, 1, 3, [26], 0, 0) 34 70 := X_at (r := mi34) rfl rfl
theorem x34_73 {z : P0} : X z 34 73 = XI mT z (X z) (.iload 5, 2, 5, 0, 0, [], 0, 0) 34 73 := X_at (r := mi34) rfl rfl
theorem x34_75 {z : P0} : X z 34 75 = XI mT z (X z) (.iaload, 1, 0, 0, 0, [], 0, 0) 34 75 := X_at (r := mi34) rfl rfl
theorem x34_76 {z : P0} : X z 34 76 = XI mT z (X z) (.bipush 124, 2, 0, 0, 0, [], nI 124, 0) 34 76 := X_at (r := mi34) rfl rfl
theorem x34_78 {z : P0} : X z 34 78 = XI mT z (X z) (.if_icmp .ne 29, 3, 107, 0, 0, [], 0, 0) 34 78 := X_at (r := mi34) rfl rfl
theorem x34_81 {z : P0} : X z 34 81 = XI mT z (X z) (.aload_n 0, 1, 0, 0, 0, [], 0, 0) 34 81 := X_at (r := mi34) rfl rfl
theorem x34_82 {z : P0} : X z 34 82 = XI mT z (X z) (.dup, 1, 0, 0, 0, [], 0, 0) 34 82 := X_at (r := mi34) rfl rfl
theorem x34_83 {z : P0} : X z 34 83 = XI mT z (X z) (.getfield 25, 3, 5, 4, 0, [29], 0, 0) 34 83 := X_at (r := mi34) rfl rfl
theorem x34_86 {z : P0} : X z 34 86 = XI mT z (X z) (.aload_n 0, 1, 0, 0, 0, [], 0, 0) 34 86 := X_at (r := mi34) rfl rfl
theorem x34_87 {z : P0} : X z 34 87 = XI mT z (X z) (.getfield 22, 3, 5, 3, 0, [28], 0, 0) 34 87 := X_at (r := mi34) rfl rfl
theorem x34_90 {z : P0} : X z 34 90 = XI mT z (X z) (.iload_n 3, 1, 3, 0, 0, [], 0, 0) 34 90 := X_at (r := mi34) rfl rfl
theorem x34_91 {z : P0} : X z 34 91 = XI mT z (X z) (.isub, 1, 0, 0, 0, [], 0, 0) 34 91 := X_at (r := mi34) rfl rfl
theorem x34_92 {z : P0} : X z 34 92 = XI mT z (X z) (.iload_n 2, 1, 2, 0, 0, [], 0, 0) 34 92 := X_at (r := mi34) rfl rfl
theorem x34_93 {z : P0} : X z 34 93 = XI mT z (X z) (.iadd, 1, 0, 0, 0, [], 0, 0) 34 93 := X_at (r := mi34) rfl rfl
theorem x34_94 {z : P0} : X z 34 94 = XI mT z (X z) (.iconst 1, 1, 0, 0, 0, [], nI 1, 0) 34 94 := X_at (r := mi34) rfl rfl
theorem x34_95 {z : P0} : X z 34 95 = XI mT z (X z) (.isub, 1, 0, 0, 0, [], 0, 0) 34 95 := X_at (r := mi34) rfl rfl
theorem x34_96 {z : P0} : X z 34 96 = XI mT z (X z) (.iload_n 2, 1, 2, 0, 0, [], 0, 0) 34 96 := X_at (r := mi34) rfl rfl
theorem x34_97 {z : P0} : X z 34 97 = XI mT z (X z) (.idiv, 1, 0, 0, 0, [], 0, 0) 34 97 := X_at (r := mi34) rfl rfl
theorem x34_98 {z : P0} : X z 34 98 = XI mT z (X z) (.iadd, 1, 0, 0, 0, [], 0, 0) 34 98 := X_at (r := mi34) rfl rfl
theorem x34_99 {z : P0} : X z 34 99 = XI mT z (X z) (.putfield 25, 3, 5, 4, 0, [29], 0, 0) 34 99 := X_at (r := mi34) rfl rfl
theorem x34_102 {z : P0} : X z 34 102 = XI mT z (X z) (.aload_n 0, 1, 0, 0, 0, [], 0, 0) 34 102 := X_at (r := mi34) rfl rfl
theorem x34_103 {z : P0} : X z 34 103 = XI mT z (X z) (.getfield 22, 3, 5, 3, 0, [28], 0, 0) 34 103 := X_at (r := mi34) rfl rfl
theorem x34_106 {z : P0} : X z 34 106 = XI mT z (X z) (.istore_n 3, 1, 3, 0, 0, [], 0, 0) 34 106 := X_at (r := mi34) rfl rfl
theorem x34_107 {z : P0} : X z 34 107 = XI mT z (X z) (.iinc 5 1, 3, 5, 0, 0, [], nI 1, 0) 34 107 := X_at (r := mi34) rfl rfl
theorem x34_110 {z : P0} : X z 34 110 = XI mT z (X z) (.goto (-81), 3, 29, 0, 0, [], 0, 0) 34 110 := X_at (r := mi34) rfl rfl
theorem x34_113 {z : P0} : X z 34 113 = XI mT z (X z) (.return_, 1, 0, 0, 0, [], 0, 0) 34 113 := X_at (r := mi34) rfl rfl
theorem x35_0 {z : P0} : X z 35 0 = XI mT z (X z) (.iload_n 2, 1, 2, 0, 0, [], 0, 0) 35 0 := X_at (r := mi35) rfl rfl
theorem x35_1 {z : P0} : X z 35 1 = XI mT z (X z) (.iconst (-1), 1, 0, 0, 0, [], (-1), 0) 35 1 := X_at (r := mi35) rfl rfl
theorem x35_2 {z : P0} : X z 35 2 = XI mT z (X z) (.if_icmp .eq 18, 3, 20, 0, 0, [], 0, 0) 35 2 := X_at (r := mi35) rfl rfl
theorem x35_5 {z : P0} : X z 35 5 = XI mT z (X z) (.iload_n 2, 1, 2, 0, 0, [], 0, 0) 35 5 := X_at (r := mi35) rfl rfl
theorem x35_6 {z : P0} : X z 35 6 = XI mT z (X z) (.iconst 1, 1, 0, 0, 0, [], nI 1, 0) 35 6 := X_at (r := mi35) rfl rfl
theorem x35_7 {z : P0} : X z 35 7 = XI mT z (X z) (.iadd, 1, 0, 0, 0, [], 0, 0) 35 7 := X_at (r := mi35) rfl rfl
theorem x35_8 {z : P0} : X z 35 8 = XI mT z (X z) (.iload_n 1, 1, 1, 0, 0, [], 0, 0) 35 8 := X_at (r := mi35) rfl rfl
theorem x35_9 {z : P0} : X z 35 9 = XI mT z (X z) (.iadd, 1, 0, 0, 0, [], 0, 0) 35 9 := X_at (r := mi35) rfl rfl
theorem x35_10 {z : P0} : X z 35 10 = XI mT z (X z) (.iload_n 3, 1, 3, 0, 0, [], 0, 0) 35 10 := X_at (r := mi35) rfl rfl
theorem x35_11 {z : P0} : X z 35 11 = XI mT z (X z) (.if_icmp .gt 9, 3, 20, 0, 0, [], 0, 0) 35 11 := X_at (r := mi35) rfl rfl
theorem x35_14 {z : P0} : X z 35 14 = XI mT z (X z) (.iload_n 2, 1, 2, 0, 0, [], 0, 0) 35 14 := X_at (r := mi35) rfl rfl
theorem x35_15 {z : P0} : X z 35 15 = XI mT z (X z) (.iconst 1, 1, 0, 0, 0, [], nI 1, 0) 35 15 := X_at (r := mi35) rfl rfl
theorem x35_16 {z : P0} : X z 35 16 = XI mT z (X z) (.iadd, 1, 0, 0, 0, [], 0, 0) 35 16 := X_at (r := mi35) rfl rfl
theorem x35_17 {z : P0} : X z 35 17 = XI mT z (X z) (.iload_n 1, 1, 1, 0, 0, [], 0, 0) 35 17 := X_at (r := mi35) rfl rfl
theorem x35_18 {z : P0} : X z 35 18 = XI mT z (X z) (.iadd, 1, 0, 0, 0, [], 0, 0) 35 18 := X_at (r := mi35) rfl rfl
theorem x35_19 {z : P0} : X z 35 19 = XI mT z (X z) (.ireturn, 1, 0, 0, 0, [], 0, 0) 35 19 := X_at (r := mi35) rfl rfl
theorem x35_20 {z : P0} : X z 35 20 = XI mT z (X z) (.iload_n 1, 1, 1, 0, 0, [], 0, 0) 35 20 := X_at (r := mi35) rfl rfl
theorem x35_21 {z : P0} : X z 35 21 = XI mT z (X z) (.iload_n 3, 1, 3, 0, 0, [], 0, 0) 35 21 := X_at (r := mi35) rfl rfl
theorem x35_22 {z : P0} : X z 35 22 = XI mT z (X z) (.if_icmp .le 8, 3, 30, 0, 0, [], 0, 0) 35 22 := X_at (r := mi35) rfl rfl
theorem x35_25 {z : P0} : X z 35 25 = XI mT z (X z) (.iload_n 3, 1, 3, 0, 0, [], 0, 0) 35 25 := X_at (r := mi35) rfl rfl
theorem x35_26 {z : P0} : X z 35 26 = XI mT z (X z) (.iconst 1, 1, 0, 0, 0, [], nI 1, 0) 35 26 := X_at (r := mi35) rfl rfl
theorem x35_27 {z : P0} : X z 35 27 = XI mT z (X z) (.if_icmp .ge 15, 3, 42, 0, 0, [], 0, 0) 35 27 := X_at (r := mi35) rfl rfl
theorem x35_30 {z : P0} : X z 35 30 = XI mT z (X z) (.aload_n 0, 1, 0, 0, 0, [], 0, 0) 35 30 := X_at (r := mi35) rfl rfl
theorem x35_31 {z : P0} : X z 35 31 = XI mT z (X z) (.dup, 1, 0, 0, 0, [], 0, 0) 35 31 := X_at (r := mi35) rfl rfl
theorem x35_32 {z : P0} : X z 35 32 = XI mT z (X z) (.getfield 22, 3, 5, 3, 0, [28], 0, 0) 35 32 := X_at (r := mi35) rfl rfl
theorem x35_35 {z : P0} : X z 35 35 = XI mT z (X z) (.iconst 1, 1, 0, 0, 0, [], nI 1, 0) 35 35 := X_at (r := mi35) rfl rfl
theorem x35_36 {z : P0} : X z 35 36 = XI mT z (X z) (.iadd, 1, 0, 0, 0, [], 0, 0) 35 36 := X_at (r := mi35) rfl rfl
theorem x35_37 {z : P0} : X z 35 37 = XI mT z (X z) (.putfield 22, 3, 5, 3, 0, [28], 0, 0) 35 37 := X_at (r := mi35) rfl rfl
theorem x35_40 {z : P0} : X z 35 40 = XI mT z (X z) (.iload_n 1, 1, 1, 0, 0, [], 0, 0) 35 40 := X_at (r := mi35) rfl rfl
theorem x35_41 {z : P0} : X z 35 41 = XI mT z (X z) (.ireturn, 1, 0, 0, 0, [], 0, 0) 35 41 := X_at (r := mi35) rfl rfl
theorem x35_42 {z : P0} : X z 35 42 = XI mT z (X z) (.iload_n 1, 1, 1, 0, 0, [], 0, 0) 35 42 := X_at (r := mi35) rfl rfl
theorem x35_43 {z : P0} : X z 35 43 = XI mT z (X z) (.iload_n 3, 1, 3, 0, 0, [], 0, 0) 35 43 := X_at (r := mi35) rfl rfl
theorem x35_44 {z : P0} : X z 35 44 = XI mT z (X z) (.irem, 1, 0, 0, 0, [], 0, 0) 35 44 := X_at (r := mi35) rfl rfl
theorem x35_45 {z : P0} : X z 35 45 = XI mT z (X z) (.istore 4, 2, 4, 0, 0, [], 0, 0) 35 45 := X_at (r := mi35) rfl rfl
theorem x35_47 {z : P0} : X z 35 47 = XI mT z (X z) (.aload_n 0, 1, 0, 0, 0, [], 0, 0) 35 47 := X_at (r := mi35) rfl rfl
theorem x35_48 {z : P0} : X z 35 48 = XI mT z (X z) (.dup, 1, 0, 0, 0, [], 0, 0) 35 48 := X_at (r := mi35) rfl rfl
theorem x35_49 {z : P0} : X z 35 49 = XI mT z (X z) (.getfield 22, 3, 5, 3, 0, [28], 0, 0) 35 49 := X_at (r := mi35) rfl rfl
theorem x35_52 {z : P0} : X z 35 52 = XI mT z (X z) (.iload_n 1, 1, 1, 0, 0, [], 0, 0) 35 52 := X_at (r := mi35) rfl rfl
theorem x35_53 {z : P0} : X z 35 53 = XI mT z (X z) (.iload_n 3, 1, 3, 0, 0, [], 0, 0) 35 53 := X_at (r := mi35) rfl rfl
theorem x35_54 {z : P0} : X z 35 54 = XI mT z (X z) (.idiv, 1, 0, 0, 0, [], 0, 0) 35 54 := X_at (r := mi35) rfl rfl
theorem x35_55 {z : P0} : X z 35 55 = XI mT z (X z) (.iload 4, 2, 4, 0, 0, [], 0, 0) 35 55 := X_at (r := mi35) rfl rfl
theorem x35_57 {z : P0} : X z 35 57 = XI mT z (X z) (.ifCond .le 7, 3, 64, 0, 0, [], 0, 0) 35 57 := X_at (r := mi35) rfl rfl
theorem x35_60 {z : P0} : X z 35 60 = XI mT z (X z) (.iconst 1, 1, 0, 0, 0, [], nI 1, 0) 35 60 := X_at (r := mi35) rfl rfl
theorem x35_61 {z : P0} : X z 35 61 = XI mT z (X z) (.goto 4, 3, 65, 0, 0, [], 0, 0) 35 61 := X_at (r := mi35) rfl rfl
theorem x35_64 {z : P0} : X z 35 64 = XI mT z (X z) (.iconst 0, 1, 0, 0, 0, [], nI 0, 0) 35 64 := X_at (r := mi35) rfl rfl
theorem x35_65 {z : P0} : X z 35 65 = XI mT z (X z) (.iadd, 1, 0, 0, 0, [], 0, 0) 35 65 := X_at (r := mi35) rfl rfl
theorem x35_66 {z : P0} : X z 35 66 = XI mT z (X z) (.iadd, 1, 0, 0, 0, [], 0, 0) 35 66 := X_at (r := mi35) rfl rfl
theorem x35_67 {z : P0} : X z 35 67 = XI mT z (X z) (.putfield 22, 3, 5, 3, 0, [28], 0, 0) 35 67 := X_at (r := mi35) rfl rfl
theorem x35_70 {z : P0} : X z 35 70 = XI mT z (X z) (.iload 4, 2, 4, 0, 0, [], 0, 0) 35 70 := X_at (r := mi35) rfl rfl
theorem x35_72 {z : P0} : X z 35 72 = XI mT z (X z) (.ifCond .le 8, 3, 80, 0, 0, [], 0, 0) 35 72 := X_at (r := mi35) rfl rfl
theorem x35_75 {z : P0} : X z 35 75 = XI mT z (X z) (.iload 4, 2, 4, 0, 0, [], 0, 0) 35 75 := X_at (r := mi35) rfl rfl
theorem x35_77 {z : P0} : X z 35 77 = XI mT z (X z) (.goto 4, 3, 81, 0, 0, [], 0, 0) 35 77 := X_at (r := mi35) rfl rfl
theorem x35_80 {z : P0} : X z 35 80 = XI mT z (X z) (.iload_n 3, 1, 3, 0, 0, [], 0, 0) 35 80 := X_at (r := mi35) rfl rfl
theorem x35_81 {z : P0} : X z 35 81 = XI mT z (X z) (.ireturn, 1, 0, 0, 0, [], 0, 0) 35 81 := X_at (r := mi35) rfl rfl
theorem x36_0 {z : P0} : X z 36 0 = XI mT z (X z) (.aload_n 0, 1, 0, 0, 0, [], 0, 0) 36 0 := X_at (r := mi36) rfl rfl
theorem x36_1 {z : P0} : X z 36 1 = XI mT z (X z) (.invokespecial 3, 3, 0, 9003, 0, [32], 0, 0) 36 1 := X_at (r := mi36) rfl rfl
theorem x36_4 {z : P0} : X z 36 4 = XI mT z (X z) (.aload_n 0, 1, 0, 0, 0, [], 0, 0) 36 4 := X_at (r := mi36) rfl rfl
theorem x36_5 {z : P0} : X z 36 5 = XI mT z (X z) (.bipush 20, 2, 0, 0, 0, [], nI 20, 0) 36 5 := X_at (r := mi36) rfl rfl
theorem x36_7 {z : P0} : X z 36 7 = XI mT z (X z) (.anewarray 9, 3, 22, 0, 0, [261], 0, 0) 36 7 := X_at (r := mi36) rfl rfl
theorem x36_10 {z : P0} : X z 36 10 = XI mT z (X z) (.putfield 11, 3, 6, 0, 3, [30], 0, 0) 36 10 := X_at (r := mi36) rfl rfl
theorem x36_13 {z : P0} : X z 36 13 = XI mT z (X z) (.aload_n 0, 1, 0, 0, 0, [], 0, 0) 36 13 := X_at (r := mi36) rfl rfl
theorem x36_14 {z : P0} : X z 36 14 = XI mT z (X z) (.bipush 20, 2, 0, 0, 0, [], nI 20, 0) 36 14 := X_at (r := mi36) rfl rfl
theorem x36_16 {z : P0} : X z 36 16 = XI mT z (X z) (.newarray .int, 2, 20, 0, 0, [], 0, 0) 36 16 := X_at (r := mi36) rfl rfl
theorem x36_18 {z : P0} : X z 36 18 = XI mT z (X z) (.putfield 17, 3, 6, 2, 3, [31], 0, 0) 36 18 := X_at (r := mi36) rfl rfl
theorem x36_21 {z : P0} : X z 36 21 = XI mT z (X z) (.aload_n 0, 1, 0, 0, 0, [], 0, 0) 36 21 := X_at (r := mi36) rfl rfl
theorem x36_22 {z : P0} : X z 36 22 = XI mT z (X z) (.bipush 20, 2, 0, 0, 0, [], nI 20, 0) 36 22 := X_at (r := mi36) rfl rfl
theorem x36_24 {z : P0} : X z 36 24 = XI mT z (X z) (.newarray .int, 2, 20, 0, 0, [], 0, 0) 36 24 := X_at (r := mi36) rfl rfl
theorem x36_26 {z : P0} : X z 36 26 = XI mT z (X z) (.putfield 21, 3, 6, 3, 3, [32], 0, 0) 36 26 := X_at (r := mi36) rfl rfl
theorem x36_29 {z : P0} : X z 36 29 = XI mT z (X z) (.aload_n 0, 1, 0, 0, 0, [], 0, 0) 36 29 := X_at (r := mi36) rfl rfl
theorem x36_30 {z : P0} : X z 36 30 = XI mT z (X z) (.bipush 41, 2, 0, 0, 0, [], nI 41, 0) 36 30 := X_at (r := mi36) rfl rfl
theorem x36_32 {z : P0} : X z 36 32 = XI mT z (X z) (.newarray .int, 2, 20, 0, 0, [], 0, 0) 36 32 := X_at (r := mi36) rfl rfl
theorem x36_34 {z : P0} : X z 36 34 = XI mT z (X z) (.putfield 24, 3, 6, 6, 3, [33], 0, 0) 36 34 := X_at (r := mi36) rfl rfl
theorem x36_37 {z : P0} : X z 36 37 = XI mT z (X z) (.aload_n 0, 1, 0, 0, 0, [], 0, 0) 36 37 := X_at (r := mi36) rfl rfl
theorem x36_38 {z : P0} : X z 36 38 = XI mT z (X z) (.bipush 41, 2, 0, 0, 0, [], nI 41, 0) 36 38 := X_at (r := mi36) rfl rfl
theorem x36_40 {z : P0} : X z 36 40 = XI mT z (X z) (.newarray .int, 2, 20, 0, 0, [], 0, 0) 36 40 := X_at (r := mi36) rfl rfl
theorem x36_42 {z : P0} : X z 36 42 = XI mT z (X z) (.putfield 27, 3, 6, 7, 3, [34], 0, 0) 36 42 := X_at (r := mi36) rfl rfl
theorem x36_45 {z : P0} : X z 36 45 = XI mT z (X z) (.aload_n 0, 1, 0, 0, 0, [], 0, 0) 36 45 := X_at (r := mi36) rfl rfl
theorem x36_46 {z : P0} : X z 36 46 = XI mT z (X z) (.aload_n 1, 1, 1, 0, 0, [], 0, 0) 36 46 := X_at (r := mi36) rfl rfl
theorem x36_47 {z : P0} : X z 36 47 = XI mT z (X z) (.putfield 30, 3, 6, 4, 3, [35], 0, 0) 36 47 := X_at (r := mi36) rfl rfl
theorem x36_50 {z : P0} : X z 36 50 = XI mT z (X z) (.aload_n 0, 1, 0, 0, 0, [], 0, 0) 36 50 := X_at (r := mi36) rfl rfl
theorem x36_51 {z : P0} : X z 36 51 = XI mT z (X z) (.aload_n 2, 1, 2, 0, 0, [], 0, 0) 36 51 := X_at (r := mi36) rfl rfl
theorem x36_52 {z : P0} : X z 36 52 = XI mT z (X z) (.putfield 34, 3, 6, 5, 3, [36], 0, 0) 36 52 := X_at (r := mi36) rfl rfl
theorem x36_55 {z : P0} : X z 36 55 = XI mT z (X z) (.iconst 0, 1, 0, 0, 0, [], nI 0, 0) 36 55 := X_at (r := mi36) rfl rfl
theorem x36_56 {z : P0} : X z 36 56 = XI mT z (X z) (.istore_n 3, 1, 3, 0, 0, [], 0, 0) 36 56 := X_at (r := mi36) rfl rfl
theorem x36_57 {z : P0} : X z 36 57 = XI mT z (X z) (.iload_n 3, 1, 3, 0, 0, [], 0, 0) 36 57 := X_at (r := mi36) rfl rfl
theorem x36_58 {z : P0} : X z 36 58 = XI mT z (X z) (.bipush 20, 2, 0, 0, 0, [], nI 20, 0) 36 58 := X_at (r := mi36) rfl rfl
theorem x36_60 {z : P0} : X z 36 60 = XI mT z (X z) (.if_icmp .ge 22, 3, 82, 0, 0, [], 0, 0) 36 60 := X_at (r := mi36) rfl rfl
theorem x36_63 {z : P0} : X z 36 63 = XI mT z (X z) (.aload_n 0, 1, 0, 0, 0, [], 0, 0) 36 63 := X_at (r := mi36) rfl rfl
theorem x36_64 {z : P0} : X z 36 64 = XI mT z (X z) (.getfield 11, 3, 6, 0, 3, [30], 0, 0) 36 64 := X_at (r := mi36) rfl rfl
theorem x36_67 {z : P0} : X z 36 67 = XI mT z (X z) (.iload_n 3, 1, 3, 0, 0, [], 0, 0) 36 67 := X_at (r := mi36) rfl rfl
theorem x36_68 {z : P0} : X z 36 68 = XI mT z (X z) (.new 9, 3, 2, 6, 0, [261], 0, 0) 36 68 := X_at (r := mi36) rfl rfl
theorem x36_71 {z : P0} : X z 36 71 = XI mT z (X z) (.dup, 1, 0, 0, 0, [], 0, 0) 36 71 := X_at (r := mi36) rfl rfl
theorem x36_72 {z : P0} : X z 36 72 = XI mT z (X z) (.invokespecial 38, 3, 0, 20, 1, [33], 0, 0) 36 72 := X_at (r := mi36) rfl rfl
theorem x36_75 {z : P0} : X z 36 75 = XI mT z (X z) (.aastore, 1, 0, 0, 0, [], 0, 0) 36 75 := X_at (r := mi36) rfl rfl
theorem x36_76 {z : P0} : X z 36 76 = XI mT z (X z) (.iinc 3 1, 3, 3, 0, 0, [], nI 1, 0) 36 76 := X_at (r := mi36) rfl rfl
theorem x36_79 {z : P0} : X z 36 79 = XI mT z (X z) (.goto (-22), 3, 57, 0, 0, [], 0, 0) 36 79 := X_at (r := mi36) rfl rfl
theorem x36_82 {z : P0} : X z 36 82 = XI mT z (X z) (.return_, 1, 0, 0, 0, [], 0, 0) 36 82 := X_at (r := mi36) rfl rfl
theorem x37_0 {z : P0} : X z 37 0 = XI mT z (X z) (.iload_n 1, 1, 1, 0, 0, [], 0, 0) 37 0 := X_at (r := mi37) rfl rfl
theorem x37_1 {z : P0} : X z 37 1 = XI mT z (X z) (.ifCond .lt 15, 3, 16, 0, 0, [], 0, 0) 37 1 := X_at (r := mi37) rfl rfl
theorem x37_4 {z : P0} : X z 37 4 = XI mT z (X z) (.iload_n 1, 1, 1, 0, 0, [], 0, 0) 37 4 := X_at (r := mi37) rfl rfl
theorem x37_5 {z : P0} : X z 37 5 = XI mT z (X z) (.aload_n 0, 1, 0, 0, 0, [], 0, 0) 37 5 := X_at (r := mi37) rfl rfl
theorem x37_6 {z : P0} : X z 37 6 = XI mT z (X z) (.getfield 39, 3, 6, 1, 0, [37], 0, 0) 37 6 := X_at (r := mi37) rfl rfl
theorem x37_9 {z : P0} : X z 37 9 = XI mT z (X z) (.if_icmp .ge 7, 3, 16, 0, 0, [], 0, 0) 37 9 := X_at (r := mi37) rfl rfl
theorem x37_12 {z : P0} : X z 37 12 = XI mT z (X z) (.iconst 1, 1, 0, 0, 0, [], nI 1, 0) 37 12 := X_at (r := mi37) rfl rfl
theorem x37_13 {z : P0} : X z 37 13 = XI mT z (X z) (.goto 4, 3, 17, 0, 0, [], 0, 0) 37 13 := X_at (r := mi37) rfl rfl
theorem x37_16 {z : P0} : X z 37 16 = XI mT z (X z) (.iconst 0, 1, 0, 0, 0, [], nI 0, 0) 37 16 := X_at (r := mi37) rfl rfl
theorem x37_17 {z : P0} : X z 37 17 = XI mT z (X z) (.ireturn, 1, 0, 0, 0, [], 0, 0) 37 17 := X_at (r := mi37) rfl rfl
theorem x38_0 {z : P0} : X z 38 0 = XI mT z (X z) (.aload_n 0, 1, 0, 0, 0, [], 0, 0) 38 0 := X_at (r := mi38) rfl rfl
theorem x38_1 {z : P0} : X z 38 1 = XI mT z (X z) (.iconst 0, 1, 0, 0, 0, [], nI 0, 0) 38 1 := X_at (r := mi38) rfl rfl
theorem x38_2 {z : P0} : X z 38 2 = XI mT z (X z) (.putfield 43, 3, 6, 8, 0, [38], 0, 0) 38 2 := X_at (r := mi38) rfl rfl
theorem x38_5 {z : P0} : X z 38 5 = XI mT z (X z) (.aload_n 0, 1, 0, 0, 0, [], 0, 0) 38 5 := X_at (r := mi38) rfl rfl
theorem x38_6 {z : P0} : X z 38 6 = XI mT z (X z) (.iconst 0, 1, 0, 0, 0, [], nI 0, 0) 38 6 := X_at (r := mi38) rfl rfl
theorem x38_7 {z : P0} : X z 38 7 = XI mT z (X z) (.putfield 46, 3, 6, 9, 0, [39], 0, 0) 38 7 := X_at (r := mi38) rfl rfl
theorem x38_10 {z : P0} : X z 38 10 = XI mT z (X z) (.aload_n 0, 1, 0, 0, 0, [], 0, 0) 38 10 := X_at (r := mi38) rfl rfl
theorem x38_11 {z : P0} : X z 38 11 = XI mT z (X z) (.iconst 0, 1, 0, 0, 0, [], nI 0, 0) 38 11 := X_at (r := mi38) rfl rfl
theorem x38_12 {z : P0} : X z 38 12 = XI mT z (X z) (.putfield 49, 3, 6, 10, 0, [40], 0, 0) 38 12 := X_at (r := mi38) rfl rfl
theorem x38_15 {z : P0} : X z 38 15 = XI mT z (X z) (.aload_n 0, 1, 0, 0, 0, [], 0, 0) 38 15 := X_at (r := mi38) rfl rfl
theorem x38_16 {z : P0} : X z 38 16 = XI mT z (X z) (.aload_n 1, 1, 1, 0, 0, [], 0, 0) 38 16 := X_at (r := mi38) rfl rfl
theorem x38_17 {z : P0} : X z 38 17 = XI mT z (X z) (.aload_n 2, 1, 2, 0, 0, [], 0, 0) 38 17 := X_at (r := mi38) rfl rfl
theorem x38_18 {z : P0} : X z 38 18 = XI mT z (X z) (.invokevirtual 52, 3, 2, 40, 0, [34], 0, 0) 38 18 := X_at (r := mi38) rfl rfl
theorem x38_21 {z : P0} : X z 38 21 = XI mT z (X z) (.iconst 0, 1, 0, 0, 0, [], nI 0, 0) 38 21 := X_at (r := mi38) rfl rfl
theorem x38_22 {z : P0} : X z 38 22 = XI mT z (X z) (.istore_n 3, 1, 3, 0, 0, [], 0, 0) 38 22 := X_at (r := mi38) rfl rfl
theorem x38_23 {z : P0} : X z 38 23 = XI mT z (X z) (.iload_n 3, 1, 3, 0, 0, [], 0, 0) 38 23 := X_at (r := mi38) rfl rfl
theorem x38_24 {z : P0} : X z 38 24 = XI mT z (X z) (.aload_n 0, 1, 0, 0, 0, [], 0, 0) 38 24 := X_at (r := mi38) rfl rfl
theorem x38_25 {z : P0} : X z 38 25 = XI mT z (X z) (.getfield 39, 3, 6, 1, 0, [37], 0, 0) 38 25 := X_at (r := mi38) rfl rfl
theorem x38_28 {z : P0} : X z 38 28 = XI mT z (X z) (.if_icmp .ge 106, 3, 134, 0, 0, [], 0, 0) 38 28 := X_at (r := mi38) rfl rfl
theorem x38_31 {z : P0} : X z 38 31 = XI mT z (X z) (.aload_n 0, 1, 0, 0, 0, [], 0, 0) 38 31 := X_at (r := mi38) rfl rfl
theorem x38_32 {z : P0} : X z 38 32 = XI mT z (X z) (.getfield 11, 3, 6, 0, 3, [30], 0, 0) 38 32 := X_at (r := mi38) rfl rfl
theorem x38_35 {z : P0} : X z 38 35 = XI mT z (X z) (.iload_n 3, 1, 3, 0, 0, [], 0, 0) 38 35 := X_at (r := mi38) rfl rfl
theorem x38_36 {z : P0} : X z 38 36 = XI mT z (X z) (.aaload, 1, 0, 0, 0, [], 0, 0) 38 36 := X_at (r := mi38) rfl rfl
theorem x38_37 {z : P0} : X z 38 37 = XI mT z (X z) (.astore 4, 2, 4, 0, 0, [], 0, 0) 38 37 := X_at (r := mi38) rfl rfl
theorem x38_39 {z : P0} : X z 38 39 = XI mT z (X z) (.aload_n 0, 1, 0, 0, 0, [], 0, 0) 38 39 := X_at (r := mi38) rfl rfl
theorem x38_40 {z : P0} : X z 38 40 = XI mT z (X z) (.getfield 30, 3, 6, 4, 3, [35], 0, 0) 38 40 := X_at (r := mi38) rfl rfl
theorem x38_43 {z : P0} : X z 38 43 = XI mT z (X z) (.aload_n 1, 1, 1, 0, 0, [], 0, 0) 38 43 := X_at (r := mi38) rfl rfl
theorem x38_44 {z : P0} : X z 38 44 = XI mT z (X z) (.aload 4, 2, 4, 0, 0, [], 0, 0) 38 44 := X_at (r := mi38) rfl rfl
theorem x38_46 {z : P0} : X z 38 46 = XI mT z (X z) (.invokevirtual 56, 3, 2, 10, 0, [35], 0, 0) 38 46 := X_at (r := mi38) rfl rfl
theorem x38_49 {z : P0} : X z 38 49 = XI mT z (X z) (.aload_n 0, 1, 0, 0, 0, [], 0, 0) 38 49 := X_at (r := mi38) rfl rfl
theorem x38_50 {z : P0} : X z 38 50 = XI mT z (X z) (.getfield 34, 3, 6, 5, 3, [36], 0, 0) 38 50 := X_at (r := mi38) rfl rfl
theorem x38_53 {z : P0} : X z 38 53 = XI mT z (X z) (.aload_n 0, 1, 0, 0, 0, [], 0, 0) 38 53 := X_at (r := mi38) rfl rfl
theorem x38_54 {z : P0} : X z 38 54 = XI mT z (X z) (.getfield 30, 3, 6, 4, 3, [35], 0, 0) 38 54 := X_at (r := mi38) rfl rfl
theorem x38_57 {z : P0} : X z 38 57 = XI mT z (X z) (.getfield 62, 3, 1, 0, 3, [41], 0, 0) 38 57 := X_at (r := mi38) rfl rfl
theorem x38_60 {z : P0} : X z 38 60 = XI mT z (X z) (.aload_n 0, 1, 0, 0, 0, [], 0, 0) 38 60 := X_at (r := mi38) rfl rfl
theorem x38_61 {z : P0} : X z 38 61 = XI mT z (X z) (.getfield 30, 3, 6, 4, 3, [35], 0, 0) 38 61 := X_at (r := mi38) rfl rfl
theorem x38_64 {z : P0} : X z 38 64 = XI mT z (X z) (.getfield 65, 3, 1, 1, 0, [42], 0, 0) 38 64 := X_at (r := mi38) rfl rfl
theorem x38_67 {z : P0} : X z 38 67 = XI mT z (X z) (.invokevirtual 68, 3, 2, 33, 0, [36], 0, 0) 38 67 := X_at (r := mi38) rfl rfl
theorem x38_70 {z : P0} : X z 38 70 = XI mT z (X z) (.aload_n 0, 1, 0, 0, 0, [], 0, 0) 38 70 := X_at (r := mi38) rfl rfl
theorem x38_71 {z : P0} : X z 38 71 = XI mT z (X z) (.getfield 34, 3, 6, 5, 3, [36], 0, 0) 38 71 := X_at (r := mi38) rfl rfl
theorem x38_74 {z : P0} : X z 38 74 = XI mT z (X z) (.aload_n 2, 1, 2, 0, 0, [], 0, 0) 38 74 := X_at (r := mi38) rfl rfl
theorem x38_75 {z : P0} : X z 38 75 = XI mT z (X z) (.iconst 0, 1, 0, 0, 0, [], nI 0, 0) 38 75 := X_at (r := mi38) rfl rfl
theorem x38_76 {z : P0} : X z 38 76 = XI mT z (X z) (.iaload, 1, 0, 0, 0, [], 0, 0) 38 76 := X_at (r := mi38) rfl rfl
theorem x38_77 {z : P0} : X z 38 77 = XI mT z (X z) (.aload_n 2, 1, 2, 0, 0, [], 0, 0) 38 77 := X_at (r := mi38) rfl rfl
theorem x38_78 {z : P0} : X z 38 78 = XI mT z (X z) (.iconst 1, 1, 0, 0, 0, [], nI 1, 0) 38 78 := X_at (r := mi38) rfl rfl
theorem x38_79 {z : P0} : X z 38 79 = XI mT z (X z) (.iaload, 1, 0, 0, 0, [], 0, 0) 38 79 := X_at (r := mi38) rfl rfl
theorem x38_80 {z : P0} : X z 38 80 = XI mT z (X z) (.invokevirtual 74, 3, 2, 34, 0, [37], 0, 0) 38 80 := X_at (r := mi38) rfl rfl
theorem x38_83 {z : P0} : X z 38 83 = XI mT z (X z) (.aload 4, 2, 4, 0, 0, [], 0, 0) 38 83 := X_at (r := mi38) rfl rfl
theorem x38_85 {z : P0} : X z 38 85 = XI mT z (X z) (.aload_n 0, 1, 0, 0, 0, [], 0, 0) 38 85 := X_at (r := mi38) rfl rfl
theorem x38_86 {z : P0} : X z 38 86 = XI mT z (X z) (.getfield 30, 3, 6, 4, 3, [35], 0, 0) 38 86 := X_at (r := mi38) rfl rfl
theorem x38_89 {z : P0} : X z 38 89 = XI mT z (X z) (.getfield 65, 3, 1, 1, 0, [42], 0, 0) 38 89 := X_at (r := mi38) rfl rfl
theorem x38_92 {z : P0} : X z 38 92 = XI mT z (X z) (.putfield 78, 3, 2, 3, 0, [43], 0, 0) 38 92 := X_at (r := mi38) rfl rfl
theorem x38_95 {z : P0} : X z 38 95 = XI mT z (X z) (.aload 4, 2, 4, 0, 0, [], 0, 0) 38 95 := X_at (r := mi38) rfl rfl
theorem x38_97 {z : P0} : X z 38 97 = XI mT z (X z) (.aload_n 0, 1, 0, 0, 0, [], 0, 0) 38 97 := X_at (r := mi38) rfl rfl
theorem x38_98 {z : P0} : X z 38 98 = XI mT z (X z) (.getfield 34, 3, 6, 5, 3, [36], 0, 0) 38 98 := X_at (r := mi38) rfl rfl
theorem x38_101 {z : P0} : X z 38 101 = XI mT z (X z) (.getfield 81, 3, 5, 3, 0, [44], 0, 0) 38 101 := X_at (r := mi38) rfl rfl
theorem x38_104 {z : P0} : X z 38 104 = XI mT z (X z) (.putfield 84, 3, 2, 4, 0, [45], 0, 0) 38 104 := X_at (r := mi38) rfl rfl
theorem x38_107 {z : P0} : X z 38 107 = XI mT z (X z) (.aload 4, 2, 4, 0, 0, [], 0, 0) 38 107 := X_at (r := mi38) rfl rfl
theorem x38_109 {z : P0} : X z 38 109 = XI mT z (X z) (.aload_n 0, 1, 0, 0, 0, [], 0, 0) 38 109 := X_at (r := mi38) rfl rfl
theorem x38_110 {z : P0} : X z 38 110 = XI mT z (X z) (.getfield 34, 3, 6, 5, 3, [36], 0, 0) 38 110 := X_at (r := mi38) rfl rfl
theorem x38_113 {z : P0} : X z 38 113 = XI mT z (X z) (.getfield 85, 3, 5, 4, 0, [46], 0, 0) 38 113 := X_at (r := mi38) rfl rfl
theorem x38_116 {z : P0} : X z 38 116 = XI mT z (X z) (.putfield 88, 3, 2, 5, 0, [47], 0, 0) 38 116 := X_at (r := mi38) rfl rfl
theorem x38_119 {z : P0} : X z 38 119 = XI mT z (X z) (.aload_n 0, 1, 0, 0, 0, [], 0, 0) 38 119 := X_at (r := mi38) rfl rfl
theorem x38_120 {z : P0} : X z 38 120 = XI mT z (X z) (.aload 4, 2, 4, 0, 0, [], 0, 0) 38 120 := X_at (r := mi38) rfl rfl
theorem x38_122 {z : P0} : X z 38 122 = XI mT z (X z) (.aload_n 2, 1, 2, 0, 0, [], 0, 0) 38 122 := X_at (r := mi38) rfl rfl
theorem x38_123 {z : P0} : X z 38 123 = XI mT z (X z) (.iconst 4, 1, 0, 0, 0, [], nI 4, 0) 38 123 := X_at (r := mi38) rfl rfl
theorem x38_124 {z : P0} : X z 38 124 = XI mT z (X z) (.iaload, 1, 0, 0, 0, [], 0, 0) 38 124 := X_at (r := mi38) rfl rfl
theorem x38_125 {z : P0} : X z 38 125 = XI mT z (X z) (.invokevirtual 89, 3, 2, 42, 0, [38], 0, 0) 38 125 := X_at (r := mi38) rfl rfl
theorem x38_128 {z : P0} : X z 38 128 = XI mT z (X z) (.iinc 3 1, 3, 3, 0, 0, [], nI 1, 0) 38 128 := X_at (r := mi38) rfl rfl
theorem x38_131 {z : P0} : X z 38 131 = XI mT z (X z) (.goto (-108), 3, 23, 0, 0, [], 0, 0) 38 131 := X_at (r := mi38) rfl rfl
theorem x38_134 {z : P0} : X z 38 134 = XI mT z (X z) (.aload_n 0, 1, 0, 0, 0, [], 0, 0) 38 134 := X_at (r := mi38) rfl rfl
theorem x38_135 {z : P0} : X z 38 135 = XI mT z (X z) (.aload_n 0, 1, 0, 0, 0, [], 0, 0) 38 135 := X_at (r := mi38) rfl rfl
theorem x38_136 {z : P0} : X z 38 136 = XI mT z (X z) (.getfield 49, 3, 6, 10, 0, [40], 0, 0) 38 136 := X_at (r := mi38) rfl rfl
theorem x38_139 {z : P0} : X z 38 139 = XI mT z (X z) (.aload_n 2, 1, 2, 0, 0, [], 0, 0) 38 139 := X_at (r := mi38) rfl rfl
theorem x38_140 {z : P0} : X z 38 140 = XI mT z (X z) (.iconst 5, 1, 0, 0, 0, [], nI 5, 0) 38 140 := X_at (r := mi38) rfl rfl
theorem x38_141 {z : P0} : X z 38 141 = XI mT z (X z) (.iaload, 1, 0, 0, 0, [], 0, 0) 38 141 := X_at (r := mi38) rfl rfl
theorem x38_142 {z : P0} : X z 38 142 = XI mT z (X z) (.imul, 1, 0, 0, 0, [], 0, 0) 38 142 := X_at (r := mi38) rfl rfl
theorem x38_143 {z : P0} : X z 38 143 = XI mT z (X z) (.putfield 93, 3, 6, 11, 0, [48], 0, 0) 38 143 := X_at (r := mi38) rfl rfl
theorem x38_146 {z : P0} : X z 38 146 = XI mT z (X z) (.return_, 1, 0, 0, 0, [], 0, 0) 38 146 := X_at (r := mi38) rfl rfl
theorem x40_0 {z : P0} : X z 40 0 = XI mT z (X z) (.aload_n 0, 1, 0, 0, 0, [], 0, 0) 40 0 := X_at (r := mi40) rfl rfl
theorem x40_1 {z : P0} : X z 40 1 = XI mT z (X z) (.iconst 0, 1, 0, 0, 0, [], nI 0, 0) 40 1 := X_at (r := mi40) rfl rfl
theorem x40_2 {z : P0} : X z 40 2 = XI mT z (X z) (.putfield 39, 3, 6, 1, 0, [37], 0, 0) 40 2 := X_at (r := mi40) rfl rfl
theorem x40_5 {z : P0} : X z 40 5 = XI mT z (X z) (.iconst 0, 1, 0, 0, 0, [], nI 0, 0) 40 5 := X_at (r := mi40) rfl rfl
theorem x40_6 {z : P0} : X z 40 6 = XI mT z (X z) (.istore_n 3, 1, 3, 0, 0, [], 0, 0) 40 6 := X_at (r := mi40) rfl rfl
theorem x40_7 {z : P0} : X z 40 7 = XI mT z (X z) (.iload_n 3, 1, 3, 0, 0, [], 0, 0) 40 7 := X_at (r := mi40) rfl rfl
theorem x40_8 {z : P0} : X z 40 8 = XI mT z (X z) (.aload_n 1, 1, 1, 0, 0, [], 0, 0) 40 8 := X_at (r := mi40) rfl rfl
theorem x40_9 {z : P0} : X z 40 9 = XI mT z (X z) (.getfield 105, 3, 8, 1, 0, [49], 0, 0) 40 9 := X_at (r := mi40) rfl rfl
theorem x40_12 {z : P0} : X z 40 12 = XI mT z (X z) (.if_icmp .ge 85, 3, 97, 0, 0, [], 0, 0) 40 12 := X_at (r := mi40) rfl rfl
theorem x40_15 {z : P0} : X z 40 15 = XI mT z (X z) (.aload_n 1, 1, 1, 0, 0, [], 0, 0) 40 15 := X_at (r := mi40) rfl rfl
theorem x40_16 {z : P0} : X z 40 16 = XI mT z (X z) (.getfield 108, 3, 8, 0, 3, [50], 0, 0) 40 16 := X_at (r := mi40) rfl rfl
theorem x40_19 {z : P0} : X z 40 19 = XI mT z (X z) (.iload_n 3, 1, 3, 0, 0, [], 0, 0) 40 19 := X_at (r := mi40) rfl rfl
theorem x40_20 {z : P0} : X z 40 20 = XI mT z (X z) (.aaload, 1, 0, 0, 0, [], 0, 0) 40 20 := X_at (r := mi40) rfl rfl
theorem x40_21 {z : P0} : X z 40 21 = XI mT z (X z) (.astore 4, 2, 4, 0, 0, [], 0, 0) 40 21 := X_at (r := mi40) rfl rfl
theorem x40_23 {z : P0} : X z 40 23 = XI mT z (X z) (.aload_n 0, 1, 0, 0, 0, [], 0, 0) 40 23 := X_at (r := mi40) rfl rfl
theorem x40_24 {z : P0} : X z 40 24 = XI mT z (X z) (.getfield 17, 3, 6, 2, 3, [31], 0, 0) 40 24 := X_at (r := mi40) rfl rfl
theorem x40_27 {z : P0} : X z 40 27 = XI mT z (X z) (.iload_n 3, 1, 3, 0, 0, [], 0, 0) 40 27 := X_at (r := mi40) rfl rfl
theorem x40_28 {z : P0} : X z 40 28 = XI mT z (X z) (.aload_n 1, 1, 1, 0, 0, [], 0, 0) 40 28 := X_at (r := mi40) rfl rfl
theorem x40_29 {z : P0} : X z 40 29 = XI mT z (X z) (.aload_n 1, 1, 1, 0, 0, [], 0, 0) 40 29 := X_at (r := mi40) rfl rfl
theorem x40_30 {z : P0} : X z 40 30 = XI mT z (X z) (.getfield 112, 3, 8, 6, 0, [51], 0, 0) 40 30 := X_at (r := mi40) rfl rfl
theorem x40_33 {z : P0} : X z 40 33 = XI mT z (X z) (.aload 4, 2, 4, 0, 0, [], 0, 0) 40 33 := X_at (r := mi40) rfl rfl
theorem x40_35 {z : P0} : X z 40 35 = XI mT z (X z) (.aload_n 2, 1, 2, 0, 0, [], 0, 0) 40 35 := X_at (r := mi40) rfl rfl
theorem x40_36 {z : P0} : X z 40 36 = XI mT z (X z) (.iconst 3, 1, 0, 0, 0, [], nI 3, 0) 40 36 := X_at (r := mi40) rfl rfl
theorem x40_37 {z : P0} : X z 40 37 = XI mT z (X z) (.iaload, 1, 0, 0, 0, [], 0, 0) 40 37 := X_at (r := mi40) rfl rfl
theorem x40_38 {z : P0} : X z 40 38 = XI mT z (X z) (.invokevirtual 115, 3, 3, 49, 0, [39], 0, 0) 40 38 := X_at (r := mi40) rfl rfl
theorem x40_41 {z : P0} : X z 40 41 = XI mT z (X z) (.iastore, 1, 0, 0, 0, [], 0, 0) 40 41 := X_at (r := mi40) rfl rfl
theorem x40_42 {z : P0} : X z 40 42 = XI mT z (X z) (.aload_n 0, 1, 0, 0, 0, [], 0, 0) 40 42 := X_at (r := mi40) rfl rfl
theorem x40_43 {z : P0} : X z 40 43 = XI mT z (X z) (.getfield 21, 3, 6, 3, 3, [32], 0, 0) 40 43 := X_at (r := mi40) rfl rfl
theorem x40_46 {z : P0} : X z 40 46 = XI mT z (X z) (.iload_n 3, 1, 3, 0, 0, [], 0, 0) 40 46 := X_at (r := mi40) rfl rfl
theorem x40_47 {z : P0} : X z 40 47 = XI mT z (X z) (.iconst (-1), 1, 0, 0, 0, [], (-1), 0) 40 47 := X_at (r := mi40) rfl rfl
theorem x40_48 {z : P0} : X z 40 48 = XI mT z (X z) (.iastore, 1, 0, 0, 0, [], 0, 0) 40 48 := X_at (r := mi40) rfl rfl
theorem x40_49 {z : P0} : X z 40 49 = XI mT z (X z) (.aload_n 0, 1, 0, 0, 0, [], 0, 0) 40 49 := X_at (r := mi40) rfl rfl
theorem x40_50 {z : P0} : X z 40 50 = XI mT z (X z) (.getfield 17, 3, 6, 2, 3, [31], 0, 0) 40 50 := X_at (r := mi40) rfl rfl
theorem x40_53 {z : P0} : X z 40 53 = XI mT z (X z) (.iload_n 3, 1, 3, 0, 0, [], 0, 0) 40 53 := X_at (r := mi40) rfl rfl
theorem x40_54 {z : P0} : X z 40 54 = XI mT z (X z) (.iaload, 1, 0, 0, 0, [], 0, 0) 40 54 := X_at (r := mi40) rfl rfl
theorem x40_55 {z : P0} : X z 40 55 = XI mT z (X z) (.ifCond .ne 36, 3, 91, 0, 0, [], 0, 0) 40 55 := X_at (r := mi40) rfl rfl
theorem x40_58 {z : P0} : X z 40 58 = XI mT z (X z) (.aload_n 0, 1, 0, 0, 0, [], 0, 0) 40 58 := X_at (r := mi40) rfl rfl
theorem x40_59 {z : P0} : X z 40 59 = XI mT z (X z) (.aload 4, 2, 4, 0, 0, [], 0, 0) 40 59 := X_at (r := mi40) rfl rfl
theorem x40_61 {z : P0} : X z 40 61 = XI mT z (X z) (.getfield 119, 3, 7, 2, 0, [52], 0, 0) 40 61 := X_at (r := mi40) rfl rfl
theorem x40_64 {z : P0} : X z 40 64 = XI mT z (X z) (.aload_n 2, 1, 2, 0, 0, [], 0, 0) 40 64 := X_at (r := mi40) rfl rfl
theorem x40_65 {z : P0} : X z 40 65 = XI mT z (X z) (.iconst 2, 1, 0, 0, 0, [], nI 2, 0) 40 65 := X_at (r := mi40) rfl rfl
theorem x40_66 {z : P0} : X z 40 66 = XI mT z (X z) (.iaload, 1, 0, 0, 0, [], 0, 0) 40 66 := X_at (r := mi40) rfl rfl
theorem x40_67 {z : P0} : X z 40 67 = XI mT z (X z) (.invokevirtual 124, 3, 2, 41, 0, [40], 0, 0) 40 67 := X_at (r := mi40) rfl rfl
theorem x40_70 {z : P0} : X z 40 70 = XI mT z (X z) (.istore 5, 2, 5, 0, 0, [], 0, 0) 40 70 := X_at (r := mi40) rfl rfl
theorem x40_72 {z : P0} : X z 40 72 = XI mT z (X z) (.aload_n 0, 1, 0, 0, 0, [], 0, 0) 40 72 := X_at (r := mi40) rfl rfl
theorem x40_73 {z : P0} : X z 40 73 = XI mT z (X z) (.getfield 21, 3, 6, 3, 3, [32], 0, 0) 40 73 := X_at (r := mi40) rfl rfl
theorem x40_76 {z : P0} : X z 40 76 = XI mT z (X z) (.iload_n 3, 1, 3, 0, 0, [], 0, 0) 40 76 := X_at (r := mi40) rfl rfl
theorem x40_77 {z : P0} : X z 40 77 = XI mT z (X z) (.iload 5, 2, 5, 0, 0, [], 0, 0) 40 77 := X_at (r := mi40) rfl rfl
theorem x40_79 {z : P0} : X z 40 79 = XI mT z (X z) (.iastore, 1, 0, 0, 0, [], 0, 0) 40 79 := X_at (r := mi40) rfl rfl
theorem x40_80 {z : P0} : X z 40 80 = XI mT z (X z) (.aload_n 0, 1, 0, 0, 0, [], 0, 0) 40 80 := X_at (r := mi40) rfl rfl
theorem x40_81 {z : P0} : X z 40 81 = XI mT z (X z) (.getfield 11, 3, 6, 0, 3, [30], 0, 0) 40 81 := X_at (r := mi40) rfl rfl
theorem x40_84 {z : P0} : X z 40 84 = XI mT z (X z) (.iload 5, 2, 5, 0, 0, [], 0, 0) 40 84 := X_at (r := mi40) rfl rfl
theorem x40_86 {z : P0} : X z 40 86 = XI mT z (X z) (.aaload, 1, 0, 0, 0, [], 0, 0) 40 86 := X_at (r := mi40) rfl rfl
theorem x40_87 {z : P0} : X z 40 87 = XI mT z (X z) (.iload_n 3, 1, 3, 0, 0, [], 0, 0) 40 87 := X_at (r := mi40) rfl rfl
theorem x40_88 {z : P0} : X z 40 88 = XI mT z (X z) (.invokevirtual 128, 3, 1, 21, 0, [41], 0, 0) 40 88 := X_at (r := mi40) rfl rfl
theorem x40_91 {z : P0} : X z 40 91 = XI mT z (X z) (.iinc 3 1, 3, 3, 0, 0, [], nI 1, 0) 40 91 := X_at (r := mi40) rfl rfl
theorem x40_94 {z : P0} : X z 40 94 = XI mT z (X z) (.goto (-87), 3, 7, 0, 0, [], 0, 0) 40 94 := X_at (r := mi40) rfl rfl
theorem x40_97 {z : P0} : X z 40 97 = XI mT z (X z) (.return_, 1, 0, 0, 0, [], 0, 0) 40 97 := X_at (r := mi40) rfl rfl
theorem x41_0 {z : P0} : X z 41 0 = XI mT z (X z) (.iconst 0, 1, 0, 0, 0, [], nI 0, 0) 41 0 := X_at (r := mi41) rfl rfl
theorem x41_1 {z : P0} : X z 41 1 = XI mT z (X z) (.istore_n 3, 1, 3, 0, 0, [], 0, 0) 41 1 := X_at (r := mi41) rfl rfl
theorem x41_2 {z : P0} : X z 41 2 = XI mT z (X z) (.iload_n 3, 1, 3, 0, 0, [], 0, 0) 41 2 := X_at (r := mi41) rfl rfl
theorem x41_3 {z : P0} : X z 41 3 = XI mT z (X z) (.aload_n 0, 1, 0, 0, 0, [], 0, 0) 41 3 := X_at (r := mi41) rfl rfl
theorem x41_4 {z : P0} : X z 41 4 = XI mT z (X z) (.getfield 39, 3, 6, 1, 0, [37], 0, 0) 41 4 := X_at (r := mi41) rfl rfl
theorem x41_7 {z : P0} : X z 41 7 = XI mT z (X z) (.if_icmp .ge 37, 3, 44, 0, 0, [], 0, 0) 41 7 := X_at (r := mi41) rfl rfl
theorem x41_10 {z : P0} : X z 41 10 = XI mT z (X z) (.aload_n 0, 1, 0, 0, 0, [], 0, 0) 41 10 := X_at (r := mi41) rfl rfl
theorem x41_11 {z : P0} : X z 41 11 = XI mT z (X z) (.getfield 11, 3, 6, 0, 3, [30], 0, 0) 41 11 := X_at (r := mi41) rfl rfl
theorem x41_14 {z : P0} : X z 41 14 = XI mT z (X z) (.iload_n 3, 1, 3, 0, 0, [], 0, 0) 41 14 := X_at (r := mi41) rfl rfl
theorem x41_15 {z : P0} : X z 41 15 = XI mT z (X z) (.aaload, 1, 0, 0, 0, [], 0, 0) 41 15 := X_at (r := mi41) rfl rfl
theorem x41_16 {z : P0} : X z 41 16 = XI mT z (X z) (.getfield 132, 3, 2, 2, 0, [53], 0, 0) 41 16 := X_at (r := mi41) rfl rfl
theorem x41_19 {z : P0} : X z 41 19 = XI mT z (X z) (.iload_n 1, 1, 1, 0, 0, [], 0, 0) 41 19 := X_at (r := mi41) rfl rfl
theorem x41_20 {z : P0} : X z 41 20 = XI mT z (X z) (.if_icmp .ne 18, 3, 38, 0, 0, [], 0, 0) 41 20 := X_at (r := mi41) rfl rfl
theorem x41_23 {z : P0} : X z 41 23 = XI mT z (X z) (.aload_n 0, 1, 0, 0, 0, [], 0, 0) 41 23 := X_at (r := mi41) rfl rfl
theorem x41_24 {z : P0} : X z 41 24 = XI mT z (X z) (.getfield 11, 3, 6, 0, 3, [30], 0, 0) 41 24 := X_at (r := mi41) rfl rfl
theorem x41_27 {z : P0} : X z 41 27 = XI mT z (X z) (.iload_n 3, 1, 3, 0, 0, [], 0, 0) 41 27 := X_at (r := mi41) rfl rfl
theorem x41_28 {z : P0} : X z 41 28 = XI mT z (X z) (.aaload, 1, 0, 0, 0, [], 0, 0) 41 28 := X_at (r := mi41) rfl rfl
theorem x41_29 {z : P0} : X z 41 29 = XI mT z (X z) (.getfield 133, 3, 2, 1, 0, [54], 0, 0) 41 29 := X_at (r := mi41) rfl rfl
theorem x41_32 {z : P0} : X z 41 32 = XI mT z (X z) (.iload_n 2, 1, 2, 0, 0, [], 0, 0) 41 32 := X_at (r := mi41) rfl rfl
theorem x41_33 {z : P0} : X z 41 33 = XI mT z (X z) (.if_icmp .ge 5, 3, 38, 0, 0, [], 0, 0) 41 33 := X_at (r := mi41) rfl rfl
theorem x41_36 {z : P0} : X z 41 36 = XI mT z (X z) (.iload_n 3, 1, 3, 0, 0, [], 0, 0) 41 36 := X_at (r := mi41) rfl rfl
theorem x41_37 {z : P0} : X z 41 37 = XI mT z (X z) (.ireturn, 1, 0, 0, 0, [], 0, 0) 41 37 := X_at (r := mi41) rfl rfl
theorem x41_38 {z : P0} : X z 41 38 = XI mT z (X z) (.iinc 3 1, 3, 3, 0, 0, [], nI 1, 0) 41 38 := X_at (r := mi41) rfl rfl
theorem x41_41 {z : P0} : X z 41 41 = XI mT z (X z) (.goto (-39), 3, 2, 0, 0, [], 0, 0) 41 41 := X_at (r := mi41) rfl rfl
theorem x41_44 {z : P0} : X z 41 44 = XI mT z (X z) (.aload_n 0, 1, 0, 0, 0, [], 0, 0) 41 44 := X_at (r := mi41) rfl rfl
theorem x41_45 {z : P0} : X z 41 45 = XI mT z (X z) (.getfield 39, 3, 6, 1, 0, [37], 0, 0) 41 45 := X_at (r := mi41) rfl rfl
theorem x41_48 {z : P0} : X z 41 48 = XI mT z (X z) (.istore_n 3, 1, 3, 0, 0, [], 0, 0) 41 48 := X_at (r := mi41) rfl rfl
theorem x41_49 {z : P0} : X z 41 49 = XI mT z (X z) (.aload_n 0, 1, 0, 0, 0, [], 0, 0) 41 49 := X_at (r := mi41) rfl rfl
theorem x41_50 {z : P0} : X z 41 50 = XI mT z (X z) (.getfield 11, 3, 6, 0, 3, [30], 0, 0) 41 50 := X_at (r := mi41) rfl rfl
theorem x41_53 {z : P0} : X z 41 53 = XI mT z (X z) (.iload_n 3, 1, 3, 0, 0, [], 0, 0) 41 53 := X_at (r := mi41) rfl rfl
theorem x41_54 {z : P0} : X z 41 54 = XI mT z (X z) (.aaload, 1, 0, 0, 0, [], 0, 0) 41 54 := X_at (r := mi41) rfl rfl
theorem x41_55 {z : P0} : X z 41 55 = XI mT z (X z) (.iload_n 1, 1, 1, 0, 0, [], 0, 0) 41 55 := X_at (r := mi41) rfl rfl
theorem x41_56 {z : P0} : X z 41 56 = XI mT z (X z) (.putfield 132, 3, 2, 2, 0, [53], 0, 0) 41 56 := X_at (r := mi41) rfl rfl
theorem x41_59 {z : P0} : X z 41 59 = XI mT z (X z) (.aload_n 0, 1, 0, 0, 0, [], 0, 0) 41 59 := X_at (r := mi41) rfl rfl
theorem x41_60 {z : P0} : X z 41 60 = XI mT z (X z) (.getfield 11, 3, 6, 0, 3, [30], 0, 0) 41 60 := X_at (r := mi41) rfl rfl
theorem x41_63 {z : P0} : X z 41 63 = XI mT z (X z) (.iload_n 3, 1, 3, 0, 0, [], 0, 0) 41 63 := X_at (r := mi41) rfl rfl
theorem x41_64 {z : P0} : X z 41 64 = XI mT z (X z) (.aaload, 1, 0, 0, 0, [], 0, 0) 41 64 := X_at (r := mi41) rfl rfl
theorem x41_65 {z : P0} : X z 41 65 = XI mT z (X z) (.iconst 0, 1, 0, 0, 0, [], nI 0, 0) 41 65 := X_at (r := mi41) rfl rfl
theorem x41_66 {z : P0} : X z 41 66 = XI mT z (X z) (.putfield 133, 3, 2, 1, 0, [54], 0, 0) 41 66 := X_at (r := mi41) rfl rfl
theorem x41_69 {z : P0} : X z 41 69 = XI mT z (X z) (.aload_n 0, 1, 0, 0, 0, [], 0, 0) 41 69 := X_at (r := mi41) rfl rfl
theorem x41_70 {z : P0} : X z 41 70 = XI mT z (X z) (.iload_n 3, 1, 3, 0, 0, [], 0, 0) 41 70 := X_at (r := mi41) rfl rfl
theorem x41_71 {z : P0} : X z 41 71 = XI mT z (X z) (.iconst 1, 1, 0, 0, 0, [], nI 1, 0) 41 71 := X_at (r := mi41) rfl rfl
theorem x41_72 {z : P0} : X z 41 72 = XI mT z (X z) (.iadd, 1, 0, 0, 0, [], 0, 0) 41 72 := X_at (r := mi41) rfl rfl
theorem x41_73 {z : P0} : X z 41 73 = XI mT z (X z) (.putfield 39, 3, 6, 1, 0, [37], 0, 0) 41 73 := X_at (r := mi41) rfl rfl
theorem x41_76 {z : P0} : X z 41 76 = XI mT z (X z) (.iload_n 3, 1, 3, 0, 0, [], 0, 0) 41 76 := X_at (r := mi41) rfl rfl
theorem x41_77 {z : P0} : X z 41 77 = XI mT z (X z) (.ireturn, 1, 0, 0, 0, [], 0, 0) 41 77 := X_at (r := mi41) rfl rfl
theorem x42_0 {z : P0} : X z 42 0 = XI mT z (X z) (.aload_n 1, 1, 1, 0, 0, [], 0, 0) 42 0 := X_at (r := mi42) rfl rfl
theorem x42_1 {z : P0} : X z 42 1 = XI mT z (X z) (.getfield 88, 3, 2, 5, 0, [47], 0, 0) 42 1 := X_at (r := mi42) rfl rfl
theorem x42_4 {z : P0} : X z 42 4 = XI mT z (X z) (.iload_n 2, 1, 2, 0, 0, [], 0, 0) 42 4 := X_at (r := mi42) rfl rfl
theorem x42_5 {z : P0} : X z 42 5 = XI mT z (X z) (.if_icmp .gt 40, 3, 45, 0, 0, [], 0, 0) 42 5 := X_at (r := mi42) rfl rfl
theorem x42_8 {z : P0} : X z 42 8 = XI mT z (X z) (.aload_n 0, 1, 0, 0, 0, [], 0, 0) 42 8 := X_at (r := mi42) rfl rfl
theorem x42_9 {z : P0} : X z 42 9 = XI mT z (X z) (.dup, 1, 0, 0, 0, [], 0, 0) 42 9 := X_at (r := mi42) rfl rfl
theorem x42_10 {z : P0} : X z 42 10 = XI mT z (X z) (.getfield 43, 3, 6, 8, 0, [38], 0, 0) 42 10 := X_at (r := mi42) rfl rfl
theorem x42_13 {z : P0} : X z 42 13 = XI mT z (X z) (.iconst 1, 1, 0, 0, 0, [], nI 1, 0) 42 13 := X_at (r := mi42) rfl rfl
theorem x42_14 {z : P0} : X z 42 14 = XI mT z (X z) (.iadd, 1, 0, 0, 0, [], 0, 0) 42 14 := X_at (r := mi42) rfl rfl
theorem x42_15 {z : P0} : X z 42 15 = XI mT z (X z) (.putfield 43, 3, 6, 8, 0, [38], 0, 0) 42 15 := X_at (r := mi42) rfl rfl
theorem x42_18 {z : P0} : X z 42 18 = XI mT z (X z) (.aload_n 0, 1, 0, 0, 0, [], 0, 0) 42 18 := X_at (r := mi42) rfl rfl
theorem x42_19 {z : P0} : X z 42 19 = XI mT z (X z) (.dup, 1, 0, 0, 0, [], 0, 0) 42 19 := X_at (r := mi42) rfl rfl
theorem x42_20 {z : P0} : X z 42 20 = XI mT z (X z) (.getfield 46, 3, 6, 9, 0, [39], 0, 0) 42 20 := X_at (r := mi42) rfl rfl
theorem x42_23 {z : P0} : X z 42 23 = XI mT z (X z) (.aload_n 1, 1, 1, 0, 0, [], 0, 0) 42 23 := X_at (r := mi42) rfl rfl
theorem x42_24 {z : P0} : X z 42 24 = XI mT z (X z) (.getfield 133, 3, 2, 1, 0, [54], 0, 0) 42 24 := X_at (r := mi42) rfl rfl
theorem x42_27 {z : P0} : X z 42 27 = XI mT z (X z) (.iadd, 1, 0, 0, 0, [], 0, 0) 42 27 := X_at (r := mi42) rfl rfl
theorem x42_28 {z : P0} : X z 42 28 = XI mT z (X z) (.putfield 46, 3, 6, 9, 0, [39], 0, 0) 42 28 := X_at (r := mi42) rfl rfl
theorem x42_31 {z : P0} : X z 42 31 = XI mT z (X z) (.aload_n 0, 1, 0, 0, 0, [], 0, 0) 42 31 := X_at (r := mi42) rfl rfl
theorem x42_32 {z : P0} : X z 42 32 = XI mT z (X z) (.dup, 1, 0, 0, 0, [], 0, 0) 42 32 := X_at (r := mi42) rfl rfl
theorem x42_33 {z : P0} : X z 42 33 = XI mT z (X z) (.getfield 49, 3, 6, 10, 0, [40], 0, 0) 42 33 := X_at (r := mi42) rfl rfl
theorem x42_36 {z : P0} : X z 42 36 = XI mT z (X z) (.aload_n 1, 1, 1, 0, 0, [], 0, 0) 42 36 := X_at (r := mi42) rfl rfl
theorem x42_37 {z : P0} : X z 42 37 = XI mT z (X z) (.getfield 88, 3, 2, 5, 0, [47], 0, 0) 42 37 := X_at (r := mi42) rfl rfl
theorem x42_40 {z : P0} : X z 42 40 = XI mT z (X z) (.iadd, 1, 0, 0, 0, [], 0, 0) 42 40 := X_at (r := mi42) rfl rfl
theorem x42_41 {z : P0} : X z 42 41 = XI mT z (X z) (.putfield 49, 3, 6, 10, 0, [40], 0, 0) 42 41 := X_at (r := mi42) rfl rfl
theorem x42_44 {z : P0} : X z 42 44 = XI mT z (X z) (.return_, 1, 0, 0, 0, [], 0, 0) 42 44 := X_at (r := mi42) rfl rfl
theorem x42_45 {z : P0} : X z 42 45 = XI mT z (X z) (.iconst 0, 1, 0, 0, 0, [], nI 0, 0) 42 45 := X_at (r := mi42) rfl rfl
theorem x42_46 {z : P0} : X z 42 46 = XI mT z (X z) (.istore_n 3, 1, 3, 0, 0, [], 0, 0) 42 46 := X_at (r := mi42) rfl rfl
theorem x42_47 {z : P0} : X z 42 47 = XI mT z (X z) (.iload_n 3, 1, 3, 0, 0, [], 0, 0) 42 47 := X_at (r := mi42) rfl rfl
theorem x42_48 {z : P0} : X z 42 48 = XI mT z (X z) (.aload_n 1, 1, 1, 0, 0, [], 0, 0) 42 48 := X_at (r := mi42) rfl rfl
theorem x42_49 {z : P0} : X z 42 49 = XI mT z (X z) (.getfield 133, 3, 2, 1, 0, [54], 0, 0) 42 49 := X_at (r := mi42) rfl rfl
theorem x42_52 {z : P0} : X z 42 52 = XI mT z (X z) (.if_icmp .ge 21, 3, 73, 0, 0, [], 0, 0) 42 52 := X_at (r := mi42) rfl rfl
theorem x42_55 {z : P0} : X z 42 55 = XI mT z (X z) (.aload_n 0, 1, 0, 0, 0, [], 0, 0) 42 55 := X_at (r := mi42) rfl rfl
theorem x42_56 {z : P0} : X z 42 56 = XI mT z (X z) (.getfield 17, 3, 6, 2, 3, [31], 0, 0) 42 56 := X_at (r := mi42) rfl rfl
theorem x42_59 {z : P0} : X z 42 59 = XI mT z (X z) (.aload_n 1, 1, 1, 0, 0, [], 0, 0) 42 59 := X_at (r := mi42) rfl rfl
theorem x42_60 {z : P0} : X z 42 60 = XI mT z (X z) (.getfield 136, 3, 2, 0, 3, [55], 0, 0) 42 60 := X_at (r := mi42) rfl rfl
theorem x42_63 {z : P0} : X z 42 63 = XI mT z (X z) (.iload_n 3, 1, 3, 0, 0, [], 0, 0) 42 63 := X_at (r := mi42) rfl rfl
theorem x42_64 {z : P0} : X z 42 64 = XI mT z (X z) (.iaload, 1, 0, 0, 0, [], 0, 0) 42 64 := X_at (r := mi42) rfl rfl
theorem x42_65 {z : P0} : X z 42 65 = XI mT z (X z) (.iconst 4, 1, 0, 0, 0, [], nI 4, 0) 42 65 := X_at (r := mi42) rfl rfl
theorem x42_66 {z : P0} : X z 42 66 = XI mT z (X z) (.iastore, 1, 0, 0, 0, [], 0, 0) 42 66 := X_at (r := mi42) rfl rfl
theorem x42_67 {z : P0} : X z 42 67 = XI mT z (X z) (.iinc 3 1, 3, 3, 0, 0, [], nI 1, 0) 42 67 := X_at (r := mi42) rfl rfl
theorem x42_70 {z : P0} : X z 42 70 = XI mT z (X z) (.goto (-23), 3, 47, 0, 0, [], 0, 0) 42 70 := X_at (r := mi42) rfl rfl
theorem x42_73 {z : P0} : X z 42 73 = XI mT z (X z) (.return_, 1, 0, 0, 0, [], 0, 0) 42 73 := X_at (r := mi42) rfl rfl
theorem x44_0 {z : P0} : X z 44 0 = XI mT z (X z) (.aload_n 0, 1, 0, 0, 0, [], 0, 0) 44 0 := X_at (r := mi44) rfl rfl
theorem x44_1 {z : P0} : X z 44 1 = XI mT z (X z) (.invokespecial 3, 3, 0, 9003, 0, [42], 0, 0) 44 1 := X_at (r := mi44) rfl rfl
theorem x44_4 {z : P0} : X z 44 4 = XI mT z (X z) (.aload_n 0, 1, 0, 0, 0, [], 0, 0) 44 4 := X_at (r := mi44) rfl rfl
theorem x44_5 {z : P0} : X z 44 5 = XI mT z (X z) (.bipush 8, 2, 0, 0, 0, [], nI 8, 0) 44 5 := X_at (r := mi44) rfl rfl
theorem x44_7 {z : P0} : X z 44 7 = XI mT z (X z) (.newarray .int, 2, 20, 0, 0, [], 0, 0) 44 7 := X_at (r := mi44) rfl rfl
theorem x44_9 {z : P0} : X z 44 9 = XI mT z (X z) (.putfield 9, 3, 7, 0, 3, [56], 0, 0) 44 9 := X_at (r := mi44) rfl rfl
theorem x44_12 {z : P0} : X z 44 12 = XI mT z (X z) (.return_, 1, 0, 0, 0, [], 0, 0) 44 12 := X_at (r := mi44) rfl rfl
theorem x45_0 {z : P0} : X z 45 0 = XI mT z (X z) (.aload_n 0, 1, 0, 0, 0, [], 0, 0) 45 0 := X_at (r := mi45) rfl rfl
theorem x45_1 {z : P0} : X z 45 1 = XI mT z (X z) (.aload_n 1, 1, 1, 0, 0, [], 0, 0) 45 1 := X_at (r := mi45) rfl rfl
theorem x45_2 {z : P0} : X z 45 2 = XI mT z (X z) (.getfield 15, 3, 0, 1, 0, [57], 0, 0) 45 2 := X_at (r := mi45) rfl rfl
theorem x45_5 {z : P0} : X z 45 5 = XI mT z (X z) (.bipush 8, 2, 0, 0, 0, [], nI 8, 0) 45 5 := X_at (r := mi45) rfl rfl
theorem x45_7 {z : P0} : X z 45 7 = XI mT z (X z) (.invokestatic 21, 3, 2, 184, 0, [43], 0, 0) 45 7 := X_at (r := mi45) rfl rfl
theorem x45_10 {z : P0} : X z 45 10 = XI mT z (X z) (.putfield 27, 3, 7, 1, 0, [58], 0, 0) 45 10 := X_at (r := mi45) rfl rfl
theorem x45_13 {z : P0} : X z 45 13 = XI mT z (X z) (.aload_n 1, 1, 1, 0, 0, [], 0, 0) 45 13 := X_at (r := mi45) rfl rfl
theorem x45_14 {z : P0} : X z 45 14 = XI mT z (X z) (.getfield 30, 3, 0, 0, 3, [59], 0, 0) 45 14 := X_at (r := mi45) rfl rfl
theorem x45_17 {z : P0} : X z 45 17 = XI mT z (X z) (.iconst 0, 1, 0, 0, 0, [], nI 0, 0) 45 17 := X_at (r := mi45) rfl rfl
theorem x45_18 {z : P0} : X z 45 18 = XI mT z (X z) (.aload_n 0, 1, 0, 0, 0, [], 0, 0) 45 18 := X_at (r := mi45) rfl rfl
theorem x45_19 {z : P0} : X z 45 19 = XI mT z (X z) (.getfield 9, 3, 7, 0, 3, [56], 0, 0) 45 19 := X_at (r := mi45) rfl rfl
theorem x45_22 {z : P0} : X z 45 22 = XI mT z (X z) (.iconst 0, 1, 0, 0, 0, [], nI 0, 0) 45 22 := X_at (r := mi45) rfl rfl
theorem x45_23 {z : P0} : X z 45 23 = XI mT z (X z) (.aload_n 0, 1, 0, 0, 0, [], 0, 0) 45 23 := X_at (r := mi45) rfl rfl
theorem x45_24 {z : P0} : X z 45 24 = XI mT z (X z) (.getfield 27, 3, 7, 1, 0, [58], 0, 0) 45 24 := X_at (r := mi45) rfl rfl
theorem x45_27 {z : P0} : X z 45 27 = XI mT z (X z) (.invokestatic 33, 3, 5, 9001, 0, [44], 0, 0) 45 27 := X_at (r := mi45) rfl rfl
theorem x45_30 {z : P0} : X z 45 30 = XI mT z (X z) (.aload_n 0, 1, 0, 0, 0, [], 0, 0) 45 30 := X_at (r := mi45) rfl rfl
theorem x45_31 {z : P0} : X z 45 31 = XI mT z (X z) (.iload_n 2, 1, 2, 0, 0, [], 0, 0) 45 31 := X_at (r := mi45) rfl rfl
theorem x45_32 {z : P0} : X z 45 32 = XI mT z (X z) (.putfield 39, 3, 7, 2, 0, [60], 0, 0) 45 32 := X_at (r := mi45) rfl rfl
theorem x45_35 {z : P0} : X z 45 35 = XI mT z (X z) (.aload_n 0, 1, 0, 0, 0, [], 0, 0) 45 35 := X_at (r := mi45) rfl rfl
theorem x45_36 {z : P0} : X z 45 36 = XI mT z (X z) (.iload_n 3, 1, 3, 0, 0, [], 0, 0) 45 36 := X_at (r := mi45) rfl rfl
theorem x45_37 {z : P0} : X z 45 37 = XI mT z (X z) (.putfield 42, 3, 7, 3, 0, [61], 0, 0) 45 37 := X_at (r := mi45) rfl rfl
theorem x45_40 {z : P0} : X z 45 40 = XI mT z (X z) (.aload_n 0, 1, 0, 0, 0, [], 0, 0) 45 40 := X_at (r := mi45) rfl rfl
theorem x45_41 {z : P0} : X z 45 41 = XI mT z (X z) (.iconst (-1), 1, 0, 0, 0, [], (-1), 0) 45 41 := X_at (r := mi45) rfl rfl
theorem x45_42 {z : P0} : X z 45 42 = XI mT z (X z) (.putfield 45, 3, 7, 4, 0, [62], 0, 0) 45 42 := X_at (r := mi45) rfl rfl
theorem x45_45 {z : P0} : X z 45 45 = XI mT z (X z) (.aload_n 0, 1, 0, 0, 0, [], 0, 0) 45 45 := X_at (r := mi45) rfl rfl
theorem x45_46 {z : P0} : X z 45 46 = XI mT z (X z) (.iconst 0, 1, 0, 0, 0, [], nI 0, 0) 45 46 := X_at (r := mi45) rfl rfl
theorem x45_47 {z : P0} : X z 45 47 = XI mT z (X z) (.putfield 48, 3, 7, 5, 1, [63], 0, 0) 45 47 := X_at (r := mi45) rfl rfl
theorem x45_50 {z : P0} : X z 45 50 = XI mT z (X z) (.aload_n 0, 1, 0, 0, 0, [], 0, 0) 45 50 := X_at (r := mi45) rfl rfl
theorem x45_51 {z : P0} : X z 45 51 = XI mT z (X z) (.iconst (-1), 1, 0, 0, 0, [], (-1), 0) 45 51 := X_at (r := mi45) rfl rfl
theorem x45_52 {z : P0} : X z 45 52 = XI mT z (X z) (.putfield 52, 3, 7, 6, 0, [64], 0, 0) 45 52 := X_at (r := mi45) rfl rfl
theorem x45_55 {z : P0} : X z 45 55 = XI mT z (X z) (.aload_n 0, 1, 0, 0, 0, [], 0, 0) 45 55 := X_at (r := mi45) rfl rfl
theorem x45_56 {z : P0} : X z 45 56 = XI mT z (X z) (.iconst 0, 1, 0, 0, 0, [], nI 0, 0) 45 56 := X_at (r := mi45) rfl rfl
theorem x45_57 {z : P0} : X z 45 57 = XI mT z (X z) (.putfield 55, 3, 7, 7, 0, [65], 0, 0) 45 57 := X_at (r := mi45) rfl rfl
theorem x45_60 {z : P0} : X z 45 60 = XI mT z (X z) (.return_, 1, 0, 0, 0, [], 0, 0) 45 60 := X_at (r := mi45) rfl rfl
theorem x46_0 {z : P0} : X z 46 0 = XI mT z (X z) (.aload_n 1, 1, 1, 0, 0, [], 0, 0) 46 0 := X_at (r := mi46) rfl rfl
theorem x46_1 {z : P0} : X z 46 1 = XI mT z (X z) (.getfield 9, 3, 7, 0, 3, [56], 0, 0) 46 1 := X_at (r := mi46) rfl rfl
theorem x46_4 {z : P0} : X z 46 4 = XI mT z (X z) (.iconst 0, 1, 0, 0, 0, [], nI 0, 0) 46 4 := X_at (r := mi46) rfl rfl
theorem x46_5 {z : P0} : X z 46 5 = XI mT z (X z) (.aload_n 0, 1, 0, 0, 0, [], 0, 0) 46 5 := X_at (r := mi46) rfl rfl
theorem x46_6 {z : P0} : X z 46 6 = XI mT z (X z) (.getfield 9, 3, 7, 0, 3, [56], 0, 0) 46 6 := X_at (r := mi46) rfl rfl
theorem x46_9 {z : P0} : X z 46 9 = XI mT z (X z) (.iconst 0, 1, 0, 0, 0, [], nI 0, 0) 46 9 := X_at (r := mi46) rfl rfl
theorem x46_10 {z : P0} : X z 46 10 = XI mT z (X z) (.bipush 8, 2, 0, 0, 0, [], nI 8, 0) 46 10 := X_at (r := mi46) rfl rfl
theorem x46_12 {z : P0} : X z 46 12 = XI mT z (X z) (.invokestatic 33, 3, 5, 9001, 0, [44], 0, 0) 46 12 := X_at (r := mi46) rfl rfl
theorem x46_15 {z : P0} : X z 46 15 = XI mT z (X z) (.aload_n 0, 1, 0, 0, 0, [], 0, 0) 46 15 := X_at (r := mi46) rfl rfl
theorem x46_16 {z : P0} : X z 46 16 = XI mT z (X z) (.aload_n 1, 1, 1, 0, 0, [], 0, 0) 46 16 := X_at (r := mi46) rfl rfl
theorem x46_17 {z : P0} : X z 46 17 = XI mT z (X z) (.getfield 27, 3, 7, 1, 0, [58], 0, 0) 46 17 := X_at (r := mi46) rfl rfl
theorem x46_20 {z : P0} : X z 46 20 = XI mT z (X z) (.putfield 27, 3, 7, 1, 0, [58], 0, 0) 46 20 := X_at (r := mi46) rfl rfl
theorem x46_23 {z : P0} : X z 46 23 = XI mT z (X z) (.aload_n 0, 1, 0, 0, 0, [], 0, 0) 46 23 := X_at (r := mi46) rfl rfl
theorem x46_24 {z : P0} : X z 46 24 = XI mT z (X z) (.aload_n 1, 1, 1, 0, 0, [], 0, 0) 46 24 := X_at (r := mi46) rfl rfl
theorem x46_25 {z : P0} : X z 46 25 = XI mT z (X z) (.getfield 39, 3, 7, 2, 0, [60], 0, 0) 46 25 := X_at (r := mi46) rfl rfl
theorem x46_28 {z : P0} : X z 46 28 = XI mT z (X z) (.putfield 39, 3, 7, 2, 0, [60], 0, 0) 46 28 := X_at (r := mi46) rfl rfl
theorem x46_31 {z : P0} : X z 46 31 = XI mT z (X z) (.aload_n 0, 1, 0, 0, 0, [], 0, 0) 46 31 := X_at (r := mi46) rfl rfl
theorem x46_32 {z : P0} : X z 46 32 = XI mT z (X z) (.aload_n 1, 1, 1, 0, 0, [], 0, 0) 46 32 := X_at (r := mi46) rfl rfl
theorem x46_33 {z : P0} : X z 46 33 = XI mT z (X z) (.getfield 42, 3, 7, 3, 0, [61], 0, 0) 46 33 := X_at (r := mi46) rfl rfl
theorem x46_36 {z : P0} : X z 46 36 = XI mT z (X z) (.putfield 42, 3, 7, 3, 0, [61], 0, 0) 46 36 := X_at (r := mi46) rfl rfl
theorem x46_39 {z : P0} : X z 46 39 = XI mT z (X z) (.aload_n 0, 1, 0, 0, 0, [], 0, 0) 46 39 := X_at (r := mi46) rfl rfl
theorem x46_40 {z : P0} : X z 46 40 = XI mT z (X z) (.aload_n 1, 1, 1, 0, 0, [], 0, 0) 46 40 := X_at (r := mi46) rfl rfl
theorem x46_41 {z : P0} : X z 46 41 = XI mT z (X z) (.getfield 45, 3, 7, 4, 0, [62], 0, 0) 46 41 := X_at (r := mi46) rfl rfl
theorem x46_44 {z : P0} : X z 46 44 = XI mT z (X z) (.putfield 45, 3, 7, 4, 0, [62], 0, 0) 46 44 := X_at (r := mi46) rfl rfl
theorem x46_47 {z : P0} : X z 46 47 = XI mT z (X z) (.aload_n 0, 1, 0, 0, 0, [], 0, 0) 46 47 := X_at (r := mi46) rfl rfl
theorem x46_48 {z : P0} : X z 46 48 = XI mT z (X z) (.aload_n 1, 1, 1, 0, 0, [], 0, 0) 46 48 := X_at (r := mi46) rfl rfl
theorem x46_49 {z : P0} : X z 46 49 = XI mT z (X z) (.getfield 48, 3, 7, 5, 1, [63], 0, 0) 46 49 := X_at (r := mi46) rfl rfl
theorem x46_52 {z : P0} : X z 46 52 = XI mT z (X z) (.putfield 48, 3, 7, 5, 1, [63], 0, 0) 46 52 := X_at (r := mi46) rfl rfl
theorem x46_55 {z : P0} : X z 46 55 = XI mT z (X z) (.aload_n 0, 1, 0, 0, 0, [], 0, 0) 46 55 := X_at (r := mi46) rfl rfl
theorem x46_56 {z : P0} : X z 46 56 = XI mT z (X z) (.aload_n 1, 1, 1, 0, 0, [], 0, 0) 46 56 := X_at (r := mi46) rfl rfl
theorem x46_57 {z : P0} : X z 46 57 = XI mT z (X z) (.getfield 52, 3, 7, 6, 0, [64], 0, 0) 46 57 := X_at (r := mi46) rfl rfl
theorem x46_60 {z : P0} : X z 46 60 = XI mT z (X z) (.putfield 52, 3, 7, 6, 0, [64], 0, 0) 46 60 := X_at (r := mi46) rfl rfl
theorem x46_63 {z : P0} : X z 46 63 = XI mT z (X z) (.aload_n 0, 1, 0, 0, 0, [], 0, 0) 46 63 := X_at (r := mi46) rfl rfl
theorem x46_64 {z : P0} : X z 46 64 = XI mT z (X z) (.aload_n 1, 1, 1, 0, 0, [], 0, 0) 46 64 := X_at (r := mi46) rfl rfl
theorem x46_65 {z : P0} : X z 46 65 = XI mT z (X z) (.getfield 55, 3, 7, 7, 0, [65], 0, 0) 46 65 := X_at (r := mi46) rfl rfl
theorem x46_68 {z : P0} : X z 46 68 = XI mT z (X z) (.putfield 55, 3, 7, 7, 0, [65], 0, 0) 46 68 := X_at (r := mi46) rfl rfl
theorem x46_71 {z : P0} : X z 46 71 = XI mT z (X z) (.return_, 1, 0, 0, 0, [], 0, 0) 46 71 := X_at (r := mi46) rfl rfl
theorem x47_0 {z : P0} : X z 47 0 = XI mT z (X z) (.aload_n 0, 1, 0, 0, 0, [], 0, 0) 47 0 := X_at (r := mi47) rfl rfl
theorem x47_1 {z : P0} : X z 47 1 = XI mT z (X z) (.invokespecial 3, 3, 0, 9003, 0, [45], 0, 0) 47 1 := X_at (r := mi47) rfl rfl
theorem x47_4 {z : P0} : X z 47 4 = XI mT z (X z) (.aload_n 0, 1, 0, 0, 0, [], 0, 0) 47 4 := X_at (r := mi47) rfl rfl
theorem x47_5 {z : P0} : X z 47 5 = XI mT z (X z) (.bipush 20, 2, 0, 0, 0, [], nI 20, 0) 47 5 := X_at (r := mi47) rfl rfl
theorem x47_7 {z : P0} : X z 47 7 = XI mT z (X z) (.anewarray 9, 3, 23, 0, 0, [38], 0, 0) 47 7 := X_at (r := mi47) rfl rfl
theorem x47_10 {z : P0} : X z 47 10 = XI mT z (X z) (.putfield 11, 3, 8, 0, 3, [66], 0, 0) 47 10 := X_at (r := mi47) rfl rfl
theorem x47_13 {z : P0} : X z 47 13 = XI mT z (X z) (.aload_n 0, 1, 0, 0, 0, [], 0, 0) 47 13 := X_at (r := mi47) rfl rfl
theorem x47_14 {z : P0} : X z 47 14 = XI mT z (X z) (.bipush 10, 2, 0, 0, 0, [], nI 10, 0) 47 14 := X_at (r := mi47) rfl rfl
theorem x47_16 {z : P0} : X z 47 16 = XI mT z (X z) (.anewarray 17, 3, 25, 0, 0, [40], 0, 0) 47 16 := X_at (r := mi47) rfl rfl
theorem x47_19 {z : P0} : X z 47 19 = XI mT z (X z) (.putfield 19, 3, 8, 2, 3, [67], 0, 0) 47 19 := X_at (r := mi47) rfl rfl
theorem x47_22 {z : P0} : X z 47 22 = XI mT z (X z) (.aload_n 0, 1, 0, 0, 0, [], 0, 0) 47 22 := X_at (r := mi47) rfl rfl
theorem x47_23 {z : P0} : X z 47 23 = XI mT z (X z) (.new 23, 3, 4, 2, 0, [42], 0, 0) 47 23 := X_at (r := mi47) rfl rfl
theorem x47_26 {z : P0} : X z 47 26 = XI mT z (X z) (.dup, 1, 0, 0, 0, [], 0, 0) 47 26 := X_at (r := mi47) rfl rfl
theorem x47_27 {z : P0} : X z 47 27 = XI mT z (X z) (.invokespecial 25, 3, 0, 27, 1, [46], 0, 0) 47 27 := X_at (r := mi47) rfl rfl
theorem x47_30 {z : P0} : X z 47 30 = XI mT z (X z) (.putfield 26, 3, 8, 4, 3, [68], 0, 0) 47 30 := X_at (r := mi47) rfl rfl
theorem x47_33 {z : P0} : X z 47 33 = XI mT z (X z) (.aload_n 0, 1, 0, 0, 0, [], 0, 0) 47 33 := X_at (r := mi47) rfl rfl
theorem x47_34 {z : P0} : X z 47 34 = XI mT z (X z) (.bipush 6, 2, 0, 0, 0, [], nI 6, 0) 47 34 := X_at (r := mi47) rfl rfl
theorem x47_36 {z : P0} : X z 47 36 = XI mT z (X z) (.newarray .int, 2, 20, 0, 0, [], 0, 0) 47 36 := X_at (r := mi47) rfl rfl
theorem x47_38 {z : P0} : X z 47 38 = XI mT z (X z) (.putfield 30, 3, 8, 5, 3, [69], 0, 0) 47 38 := X_at (r := mi47) rfl rfl
theorem x47_41 {z : P0} : X z 47 41 = XI mT z (X z) (.iconst 0, 1, 0, 0, 0, [], nI 0, 0) 47 41 := X_at (r := mi47) rfl rfl
theorem x47_42 {z : P0} : X z 47 42 = XI mT z (X z) (.istore_n 1, 1, 1, 0, 0, [], 0, 0) 47 42 := X_at (r := mi47) rfl rfl
theorem x47_43 {z : P0} : X z 47 43 = XI mT z (X z) (.iload_n 1, 1, 1, 0, 0, [], 0, 0) 47 43 := X_at (r := mi47) rfl rfl
theorem x47_44 {z : P0} : X z 47 44 = XI mT z (X z) (.bipush 20, 2, 0, 0, 0, [], nI 20, 0) 47 44 := X_at (r := mi47) rfl rfl
theorem x47_46 {z : P0} : X z 47 46 = XI mT z (X z) (.if_icmp .ge 22, 3, 68, 0, 0, [], 0, 0) 47 46 := X_at (r := mi47) rfl rfl
theorem x47_49 {z : P0} : X z 47 49 = XI mT z (X z) (.aload_n 0, 1, 0, 0, 0, [], 0, 0) 47 49 := X_at (r := mi47) rfl rfl
theorem x47_50 {z : P0} : X z 47 50 = XI mT z (X z) (.getfield 11, 3, 8, 0, 3, [66], 0, 0) 47 50 := X_at (r := mi47) rfl rfl
theorem x47_53 {z : P0} : X z 47 53 = XI mT z (X z) (.iload_n 1, 1, 1, 0, 0, [], 0, 0) 47 53 := X_at (r := mi47) rfl rfl
theorem x47_54 {z : P0} : X z 47 54 = XI mT z (X z) (.new 9, 3, 7, 8, 0, [38], 0, 0) 47 54 := X_at (r := mi47) rfl rfl
theorem x47_57 {z : P0} : X z 47 57 = XI mT z (X z) (.dup, 1, 0, 0, 0, [], 0, 0) 47 57 := X_at (r := mi47) rfl rfl
theorem x47_58 {z : P0} : X z 47 58 = XI mT z (X z) (.invokespecial 34, 3, 0, 44, 1, [47], 0, 0) 47 58 := X_at (r := mi47) rfl rfl
theorem x47_61 {z : P0} : X z 47 61 = XI mT z (X z) (.aastore, 1, 0, 0, 0, [], 0, 0) 47 61 := X_at (r := mi47) rfl rfl
theorem x47_62 {z : P0} : X z 47 62 = XI mT z (X z) (.iinc 1 1, 3, 1, 0, 0, [], nI 1, 0) 47 62 := X_at (r := mi47) rfl rfl
theorem x47_65 {z : P0} : X z 47 65 = XI mT z (X z) (.goto (-22), 3, 43, 0, 0, [], 0, 0) 47 65 := X_at (r := mi47) rfl rfl
theorem x47_68 {z : P0} : X z 47 68 = XI mT z (X z) (.iconst 0, 1, 0, 0, 0, [], nI 0, 0) 47 68 := X_at (r := mi47) rfl rfl
theorem x47_69 {z : P0} : X z 47 69 = XI mT z (X z) (.istore_n 1, 1, 1, 0, 0, [], 0, 0) 47 69 := X_at (r := mi47) rfl rfl
theorem x47_70 {z : P0} : X z 47 70 = XI mT z (X z) (.iload_n 1, 1, 1, 0, 0, [], 0, 0) 47 70 := X_at (r := mi47) rfl rfl
theorem x47_71 {z : P0} : X z 47 71 = XI mT z (X z) (.bipush 10, 2, 0, 0, 0, [], nI 10, 0) 47 71 := X_at (r := mi47) rfl rfl
theorem x47_73 {z : P0} : X z 47 73 = XI mT z (X z) (.if_icmp .ge 22, 3, 95, 0, 0, [], 0, 0) 47 73 := X_at (r := mi47) rfl rfl
theorem x47_76 {z : P0} : X z 47 76 = XI mT z (X z) (.aload_n 0, 1, 0, 0, 0, [], 0, 0) 47 76 := X_at (r := mi47) rfl rfl
theorem x47_77 {z : P0} : X z 47 77 = XI mT z (X z) (.getfield 19, 3, 8, 2, 3, [67], 0, 0) 47 77 := X_at (r := mi47) rfl rfl
theorem x47_80 {z : P0} : X z 47 80 = XI mT z (X z) (.iload_n 1, 1, 1, 0, 0, [], 0, 0) 47 80 := X_at (r := mi47) rfl rfl
theorem x47_81 {z : P0} : X z 47 81 = XI mT z (X z) (.new 17, 3, 9, 3, 0, [40], 0, 0) 47 81 := X_at (r := mi47) rfl rfl
theorem x47_84 {z : P0} : X z 47 84 = XI mT z (X z) (.dup, 1, 0, 0, 0, [], 0, 0) 47 84 := X_at (r := mi47) rfl rfl
theorem x47_85 {z : P0} : X z 47 85 = XI mT z (X z) (.invokespecial 35, 3, 0, 52, 1, [48], 0, 0) 47 85 := X_at (r := mi47) rfl rfl
theorem x47_88 {z : P0} : X z 47 88 = XI mT z (X z) (.aastore, 1, 0, 0, 0, [], 0, 0) 47 88 := X_at (r := mi47) rfl rfl
theorem x47_89 {z : P0} : X z 47 89 = XI mT z (X z) (.iinc 1 1, 3, 1, 0, 0, [], nI 1, 0) 47 89 := X_at (r := mi47) rfl rfl
theorem x47_92 {z : P0} : X z 47 92 = XI mT z (X z) (.goto (-22), 3, 70, 0, 0, [], 0, 0) 47 92 := X_at (r := mi47) rfl rfl
theorem x47_95 {z : P0} : X z 47 95 = XI mT z (X z) (.getstatic 36, 3, 0, 0, 0, [123], 0, 0) 47 95 := X_at (r := mi47) rfl rfl
theorem x47_98 {z : P0} : X z 47 98 = XI mT z (X z) (.iconst 0, 1, 0, 0, 0, [], nI 0, 0) 47 98 := X_at (r := mi47) rfl rfl
theorem x47_99 {z : P0} : X z 47 99 = XI mT z (X z) (.aload_n 0, 1, 0, 0, 0, [], 0, 0) 47 99 := X_at (r := mi47) rfl rfl
theorem x47_100 {z : P0} : X z 47 100 = XI mT z (X z) (.getfield 30, 3, 8, 5, 3, [69], 0, 0) 47 100 := X_at (r := mi47) rfl rfl
theorem x47_103 {z : P0} : X z 47 103 = XI mT z (X z) (.iconst 0, 1, 0, 0, 0, [], nI 0, 0) 47 103 := X_at (r := mi47) rfl rfl
theorem x47_104 {z : P0} : X z 47 104 = XI mT z (X z) (.bipush 6, 2, 0, 0, 0, [], nI 6, 0) 47 104 := X_at (r := mi47) rfl rfl
theorem x47_106 {z : P0} : X z 47 106 = XI mT z (X z) (.invokestatic 39, 3, 5, 9001, 0, [49], 0, 0) 47 106 := X_at (r := mi47) rfl rfl
theorem x47_109 {z : P0} : X z 47 109 = XI mT z (X z) (.return_, 1, 0, 0, 0, [], 0, 0) 47 109 := X_at (r := mi47) rfl rfl
theorem x48_0 {z : P0} : X z 48 0 = XI mT z (X z) (.iconst 0, 1, 0, 0, 0, [], nI 0, 0) 48 0 := X_at (r := mi48) rfl rfl
theorem x48_1 {z : P0} : X z 48 1 = XI mT z (X z) (.istore_n 2, 1, 2, 0, 0, [], 0, 0) 48 1 := X_at (r := mi48) rfl rfl
theorem x48_2 {z : P0} : X z 48 2 = XI mT z (X z) (.iload_n 2, 1, 2, 0, 0, [], 0, 0) 48 2 := X_at (r := mi48) rfl rfl
theorem x48_3 {z : P0} : X z 48 3 = XI mT z (X z) (.aload_n 1, 1, 1, 0, 0, [], 0, 0) 48 3 := X_at (r := mi48) rfl rfl
theorem x48_4 {z : P0} : X z 48 4 = XI mT z (X z) (.getfield 45, 3, 8, 1, 0, [70], 0, 0) 48 4 := X_at (r := mi48) rfl rfl
theorem x48_7 {z : P0} : X z 48 7 = XI mT z (X z) (.if_icmp .ge 24, 3, 31, 0, 0, [], 0, 0) 48 7 := X_at (r := mi48) rfl rfl
theorem x48_10 {z : P0} : X z 48 10 = XI mT z (X z) (.aload_n 0, 1, 0, 0, 0, [], 0, 0) 48 10 := X_at (r := mi48) rfl rfl
theorem x48_11 {z : P0} : X z 48 11 = XI mT z (X z) (.getfield 11, 3, 8, 0, 3, [66], 0, 0) 48 11 := X_at (r := mi48) rfl rfl
theorem x48_14 {z : P0} : X z 48 14 = XI mT z (X z) (.iload_n 2, 1, 2, 0, 0, [], 0, 0) 48 14 := X_at (r := mi48) rfl rfl
theorem x48_15 {z : P0} : X z 48 15 = XI mT z (X z) (.aaload, 1, 0, 0, 0, [], 0, 0) 48 15 := X_at (r := mi48) rfl rfl
theorem x48_16 {z : P0} : X z 48 16 = XI mT z (X z) (.aload_n 1, 1, 1, 0, 0, [], 0, 0) 48 16 := X_at (r := mi48) rfl rfl
theorem x48_17 {z : P0} : X z 48 17 = XI mT z (X z) (.getfield 11, 3, 8, 0, 3, [66], 0, 0) 48 17 := X_at (r := mi48) rfl rfl
theorem x48_20 {z : P0} : X z 48 20 = XI mT z (X z) (.iload_n 2, 1, 2, 0, 0, [], 0, 0) 48 20 := X_at (r := mi48) rfl rfl
theorem x48_21 {z : P0} : X z 48 21 = XI mT z (X z) (.aaload, 1, 0, 0, 0, [], 0, 0) 48 21 := X_at (r := mi48) rfl rfl
theorem x48_22 {z : P0} : X z 48 22 = XI mT z (X z) (.invokevirtual 49, 3, 1, 46, 0, [50], 0, 0) 48 22 := X_at (r := mi48) rfl rfl
theorem x48_25 {z : P0} : X z 48 25 = XI mT z (X z) (.iinc 2 1, 3, 2, 0, 0, [], nI 1, 0) 48 25 := X_at (r := mi48) rfl rfl
theorem x48_28 {z : P0} : X z 48 28 = XI mT z (X z) (.goto (-26), 3, 2, 0, 0, [], 0, 0) 48 28 := X_at (r := mi48) rfl rfl
theorem x48_31 {z : P0} : X z 48 31 = XI mT z (X z) (.aload_n 0, 1, 0, 0, 0, [], 0, 0) 48 31 := X_at (r := mi48) rfl rfl
theorem x48_32 {z : P0} : X z 48 32 = XI mT z (X z) (.aload_n 1, 1, 1, 0, 0, [], 0, 0) 48 32 := X_at (r := mi48) rfl rfl
theorem x48_33 {z : P0} : X z 48 33 = XI mT z (X z) (.getfield 45, 3, 8, 1, 0, [70], 0, 0) 48 33 := X_at (r := mi48) rfl rfl
theorem x48_36 {z : P0} : X z 48 36 = XI mT z (X z) (.putfield 45, 3, 8, 1, 0, [70], 0, 0) 48 36 := X_at (r := mi48) rfl rfl
theorem x48_39 {z : P0} : X z 48 39 = XI mT z (X z) (.iconst 0, 1, 0, 0, 0, [], nI 0, 0) 48 39 := X_at (r := mi48) rfl rfl
theorem x48_40 {z : P0} : X z 48 40 = XI mT z (X z) (.istore_n 2, 1, 2, 0, 0, [], 0, 0) 48 40 := X_at (r := mi48) rfl rfl
theorem x48_41 {z : P0} : X z 48 41 = XI mT z (X z) (.iload_n 2, 1, 2, 0, 0, [], 0, 0) 48 41 := X_at (r := mi48) rfl rfl
theorem x48_42 {z : P0} : X z 48 42 = XI mT z (X z) (.aload_n 1, 1, 1, 0, 0, [], 0, 0) 48 42 := X_at (r := mi48) rfl rfl
theorem x48_43 {z : P0} : X z 48 43 = XI mT z (X z) (.getfield 53, 3, 8, 3, 0, [71], 0, 0) 48 43 := X_at (r := mi48) rfl rfl
theorem x48_46 {z : P0} : X z 48 46 = XI mT z (X z) (.if_icmp .ge 24, 3, 70, 0, 0, [], 0, 0) 48 46 := X_at (r := mi48) rfl rfl
theorem x48_49 {z : P0} : X z 48 49 = XI mT z (X z) (.aload_n 0, 1, 0, 0, 0, [], 0, 0) 48 49 := X_at (r := mi48) rfl rfl
theorem x48_50 {z : P0} : X z 48 50 = XI mT z (X z) (.getfield 19, 3, 8, 2, 3, [67], 0, 0) 48 50 := X_at (r := mi48) rfl rfl
theorem x48_53 {z : P0} : X z 48 53 = XI mT z (X z) (.iload_n 2, 1, 2, 0, 0, [], 0, 0) 48 53 := X_at (r := mi48) rfl rfl
theorem x48_54 {z : P0} : X z 48 54 = XI mT z (X z) (.aaload, 1, 0, 0, 0, [], 0, 0) 48 54 := X_at (r := mi48) rfl rfl
theorem x48_55 {z : P0} : X z 48 55 = XI mT z (X z) (.aload_n 1, 1, 1, 0, 0, [], 0, 0) 48 55 := X_at (r := mi48) rfl rfl
theorem x48_56 {z : P0} : X z 48 56 = XI mT z (X z) (.getfield 19, 3, 8, 2, 3, [67], 0, 0) 48 56 := X_at (r := mi48) rfl rfl
theorem x48_59 {z : P0} : X z 48 59 = XI mT z (X z) (.iload_n 2, 1, 2, 0, 0, [], 0, 0) 48 59 := X_at (r := mi48) rfl rfl
theorem x48_60 {z : P0} : X z 48 60 = XI mT z (X z) (.aaload, 1, 0, 0, 0, [], 0, 0) 48 60 := X_at (r := mi48) rfl rfl
theorem x48_61 {z : P0} : X z 48 61 = XI mT z (X z) (.invokevirtual 56, 3, 1, 54, 0, [51], 0, 0) 48 61 := X_at (r := mi48) rfl rfl
theorem x48_64 {z : P0} : X z 48 64 = XI mT z (X z) (.iinc 2 1, 3, 2, 0, 0, [], nI 1, 0) 48 64 := X_at (r := mi48) rfl rfl
theorem x48_67 {z : P0} : X z 48 67 = XI mT z (X z) (.goto (-26), 3, 41, 0, 0, [], 0, 0) 48 67 := X_at (r := mi48) rfl rfl
theorem x48_70 {z : P0} : X z 48 70 = XI mT z (X z) (.aload_n 0, 1, 0, 0, 0, [], 0, 0) 48 70 := X_at (r := mi48) rfl rfl
theorem x48_71 {z : P0} : X z 48 71 = XI mT z (X z) (.aload_n 1, 1, 1, 0, 0, [], 0, 0) 48 71 := X_at (r := mi48) rfl rfl
theorem x48_72 {z : P0} : X z 48 72 = XI mT z (X z) (.getfield 53, 3, 8, 3, 0, [71], 0, 0) 48 72 := X_at (r := mi48) rfl rfl
theorem x48_75 {z : P0} : X z 48 75 = XI mT z (X z) (.putfield 53, 3, 8, 3, 0, [71], 0, 0) 48 75 := X_at (r := mi48) rfl rfl
theorem x48_78 {z : P0} : X z 48 78 = XI mT z (X z) (.aload_n 0, 1, 0, 0, 0, [], 0, 0) 48 78 := X_at (r := mi48) rfl rfl
theorem x48_79 {z : P0} : X z 48 79 = XI mT z (X z) (.getfield 26, 3, 8, 4, 3, [68], 0, 0) 48 79 := X_at (r := mi48) rfl rfl
theorem x48_82 {z : P0} : X z 48 82 = XI mT z (X z) (.aload_n 1, 1, 1, 0, 0, [], 0, 0) 48 82 := X_at (r := mi48) rfl rfl
theorem x48_83 {z : P0} : X z 48 83 = XI mT z (X z) (.getfield 26, 3, 8, 4, 3, [68], 0, 0) 48 83 := X_at (r := mi48) rfl rfl
theorem x48_86 {z : P0} : X z 48 86 = XI mT z (X z) (.getfield 59, 3, 4, 0, 3, [72], 0, 0) 48 86 := X_at (r := mi48) rfl rfl
theorem x48_89 {z : P0} : X z 48 89 = XI mT z (X z) (.aload_n 1, 1, 1, 0, 0, [], 0, 0) 48 89 := X_at (r := mi48) rfl rfl
theorem x48_90 {z : P0} : X z 48 90 = XI mT z (X z) (.getfield 26, 3, 8, 4, 3, [68], 0, 0) 48 90 := X_at (r := mi48) rfl rfl
theorem x48_93 {z : P0} : X z 48 93 = XI mT z (X z) (.getfield 62, 3, 4, 1, 0, [73], 0, 0) 48 93 := X_at (r := mi48) rfl rfl
theorem x48_96 {z : P0} : X z 48 96 = XI mT z (X z) (.invokevirtual 65, 3, 2, 28, 0, [52], 0, 0) 48 96 := X_at (r := mi48) rfl rfl
theorem x48_99 {z : P0} : X z 48 99 = XI mT z (X z) (.aload_n 1, 1, 1, 0, 0, [], 0, 0) 48 99 := X_at (r := mi48) rfl rfl
theorem x48_100 {z : P0} : X z 48 100 = XI mT z (X z) (.getfield 30, 3, 8, 5, 3, [69], 0, 0) 48 100 := X_at (r := mi48) rfl rfl
theorem x48_103 {z : P0} : X z 48 103 = XI mT z (X z) (.iconst 0, 1, 0, 0, 0, [], nI 0, 0) 48 103 := X_at (r := mi48) rfl rfl
theorem x48_104 {z : P0} : X z 48 104 = XI mT z (X z) (.aload_n 0, 1, 0, 0, 0, [], 0, 0) 48 104 := X_at (r := mi48) rfl rfl
theorem x48_105 {z : P0} : X z 48 105 = XI mT z (X z) (.getfield 30, 3, 8, 5, 3, [69], 0, 0) 48 105 := X_at (r := mi48) rfl rfl
theorem x48_108 {z : P0} : X z 48 108 = XI mT z (X z) (.iconst 0, 1, 0, 0, 0, [], nI 0, 0) 48 108 := X_at (r := mi48) rfl rfl
theorem x48_109 {z : P0} : X z 48 109 = XI mT z (X z) (.bipush 6, 2, 0, 0, 0, [], nI 6, 0) 48 109 := X_at (r := mi48) rfl rfl
theorem x48_111 {z : P0} : X z 48 111 = XI mT z (X z) (.invokestatic 39, 3, 5, 9001, 0, [49], 0, 0) 48 111 := X_at (r := mi48) rfl rfl
theorem x48_114 {z : P0} : X z 48 114 = XI mT z (X z) (.aload_n 0, 1, 0, 0, 0, [], 0, 0) 48 114 := X_at (r := mi48) rfl rfl
theorem x48_115 {z : P0} : X z 48 115 = XI mT z (X z) (.aload_n 1, 1, 1, 0, 0, [], 0, 0) 48 115 := X_at (r := mi48) rfl rfl
theorem x48_116 {z : P0} : X z 48 116 = XI mT z (X z) (.getfield 68, 3, 8, 6, 0, [74], 0, 0) 48 116 := X_at (r := mi48) rfl rfl
theorem x48_119 {z : P0} : X z 48 119 = XI mT z (X z) (.putfield 68, 3, 8, 6, 0, [74], 0, 0) 48 119 := X_at (r := mi48) rfl rfl
theorem x48_122 {z : P0} : X z 48 122 = XI mT z (X z) (.aload_n 0, 1, 0, 0, 0, [], 0, 0) 48 122 := X_at (r := mi48) rfl rfl
theorem x48_123 {z : P0} : X z 48 123 = XI mT z (X z) (.aload_n 1, 1, 1, 0, 0, [], 0, 0) 48 123 := X_at (r := mi48) rfl rfl
theorem x48_124 {z : P0} : X z 48 124 = XI mT z (X z) (.getfield 71, 3, 8, 7, 0, [75], 0, 0) 48 124 := X_at (r := mi48) rfl rfl
theorem x48_127 {z : P0} : X z 48 127 = XI mT z (X z) (.putfield 71, 3, 8, 7, 0, [75], 0, 0) 48 127 := X_at (r := mi48) rfl rfl
theorem x48_130 {z : P0} : X z 48 130 = XI mT z (X z) (.aload_n 0, 1, 0, 0, 0, [], 0, 0) 48 130 := X_at (r := mi48) rfl rfl
theorem x48_131 {z : P0} : X z 48 131 = XI mT z (X z) (.aload_n 1, 1, 1, 0, 0, [], 0, 0) 48 131 := X_at (r := mi48) rfl rfl
theorem x48_132 {z : P0} : X z 48 132 = XI mT z (X z) (.getfield 74, 3, 8, 8, 0, [76], 0, 0) 48 132 := X_at (r := mi48) rfl rfl
theorem x48_135 {z : P0} : X z 48 135 = XI mT z (X z) (.putfield 74, 3, 8, 8, 0, [76], 0, 0) 48 135 := X_at (r := mi48) rfl rfl
theorem x48_138 {z : P0} : X z 48 138 = XI mT z (X z) (.aload_n 0, 1, 0, 0, 0, [], 0, 0) 48 138 := X_at (r := mi48) rfl rfl
theorem x48_139 {z : P0} : X z 48 139 = XI mT z (X z) (.aload_n 1, 1, 1, 0, 0, [], 0, 0) 48 139 := X_at (r := mi48) rfl rfl
theorem x48_140 {z : P0} : X z 48 140 = XI mT z (X z) (.getfield 77, 3, 8, 9, 0, [77], 0, 0) 48 140 := X_at (r := mi48) rfl rfl
theorem x48_143 {z : P0} : X z 48 143 = XI mT z (X z) (.putfield 77, 3, 8, 9, 0, [77], 0, 0) 48 143 := X_at (r := mi48) rfl rfl
theorem x48_146 {z : P0} : X z 48 146 = XI mT z (X z) (.return_, 1, 0, 0, 0, [], 0, 0) 48 146 := X_at (r := mi48) rfl rfl
theorem x49_0 {z : P0} : X z 49 0 = XI mT z (X z) (.aload_n 2, 1, 2, 0, 0, [], 0, 0) 49 0 := X_at (r := mi49) rfl rfl
theorem x49_1 {z : P0} : X z 49 1 = XI mT z (X z) (.getfield 80, 3, 7, 5, 1, [78], 0, 0) 49 1 := X_at (r := mi49) rfl rfl
theorem x49_4 {z : P0} : X z 49 4 = XI mT z (X z) (.ifCond .eq 5, 3, 9, 0, 0, [], 0, 0) 49 4 := X_at (r := mi49) rfl rfl
theorem x49_7 {z : P0} : X z 49 7 = XI mT z (X z) (.iconst 1, 1, 0, 0, 0, [], nI 1, 0) 49 7 := X_at (r := mi49) rfl rfl
theorem x49_8 {z : P0} : X z 49 8 = XI mT z (X z) (.ireturn, 1, 0, 0, 0, [], 0, 0) 49 8 := X_at (r := mi49) rfl rfl
theorem x49_9 {z : P0} : X z 49 9 = XI mT z (X z) (.aload_n 2, 1, 2, 0, 0, [], 0, 0) 49 9 := X_at (r := mi49) rfl rfl
theorem x49_10 {z : P0} : X z 49 10 = XI mT z (X z) (.getfield 84, 3, 7, 6, 0, [79], 0, 0) 49 10 := X_at (r := mi49) rfl rfl
theorem x49_13 {z : P0} : X z 49 13 = XI mT z (X z) (.iconst (-1), 1, 0, 0, 0, [], (-1), 0) 49 13 := X_at (r := mi49) rfl rfl
theorem x49_14 {z : P0} : X z 49 14 = XI mT z (X z) (.if_icmp .eq 15, 3, 29, 0, 0, [], 0, 0) 49 14 := X_at (r := mi49) rfl rfl
theorem x49_17 {z : P0} : X z 49 17 = XI mT z (X z) (.iload_n 1, 1, 1, 0, 0, [], 0, 0) 49 17 := X_at (r := mi49) rfl rfl
theorem x49_18 {z : P0} : X z 49 18 = XI mT z (X z) (.aload_n 2, 1, 2, 0, 0, [], 0, 0) 49 18 := X_at (r := mi49) rfl rfl
theorem x49_19 {z : P0} : X z 49 19 = XI mT z (X z) (.getfield 84, 3, 7, 6, 0, [79], 0, 0) 49 19 := X_at (r := mi49) rfl rfl
theorem x49_22 {z : P0} : X z 49 22 = XI mT z (X z) (.isub, 1, 0, 0, 0, [], 0, 0) 49 22 := X_at (r := mi49) rfl rfl
theorem x49_23 {z : P0} : X z 49 23 = XI mT z (X z) (.iload_n 3, 1, 3, 0, 0, [], 0, 0) 49 23 := X_at (r := mi49) rfl rfl
theorem x49_24 {z : P0} : X z 49 24 = XI mT z (X z) (.if_icmp .ge 5, 3, 29, 0, 0, [], 0, 0) 49 24 := X_at (r := mi49) rfl rfl
theorem x49_27 {z : P0} : X z 49 27 = XI mT z (X z) (.iconst 2, 1, 0, 0, 0, [], nI 2, 0) 49 27 := X_at (r := mi49) rfl rfl
theorem x49_28 {z : P0} : X z 49 28 = XI mT z (X z) (.ireturn, 1, 0, 0, 0, [], 0, 0) 49 28 := X_at (r := mi49) rfl rfl
theorem x49_29 {z : P0} : X z 49 29 = XI mT z (X z) (.aload_n 2, 1, 2, 0, 0, [], 0, 0) 49 29 := X_at (r := mi49) rfl rfl
theorem x49_30 {z : P0} : X z 49 30 = XI mT z (X z) (.getfield 87, 3, 7, 4, 0, [80], 0, 0) 49 30 := X_at (r := mi49) rfl rfl
theorem x49_33 {z : P0} : X z 49 33 = XI mT z (X z) (.iconst (-1), 1, 0, 0, 0, [], (-1), 0) 49 33 := X_at (r := mi49) rfl rfl
theorem x49_34 {z : P0} : X z 49 34 = XI mT z (X z) (.if_icmp .ne 15, 3, 49, 0, 0, [], 0, 0) 49 34 := X_at (r := mi49) rfl rfl
theorem x49_37 {z : P0} : X z 49 37 = XI mT z (X z) (.aload_n 0, 1, 0, 0, 0, [], 0, 0) 49 37 := X_at (r := mi49) rfl rfl
theorem x49_38 {z : P0} : X z 49 38 = XI mT z (X z) (.getfield 26, 3, 8, 4, 3, [68], 0, 0) 49 38 := X_at (r := mi49) rfl rfl
theorem x49_41 {z : P0} : X z 49 41 = XI mT z (X z) (.invokevirtual 90, 3, 0, 31, 0, [53], 0, 0) 49 41 := X_at (r := mi49) rfl rfl
theorem x49_44 {z : P0} : X z 49 44 = XI mT z (X z) (.ifCond .eq 5, 3, 49, 0, 0, [], 0, 0) 49 44 := X_at (r := mi49) rfl rfl
theorem x49_47 {z : P0} : X z 49 47 = XI mT z (X z) (.iconst 3, 1, 0, 0, 0, [], nI 3, 0) 49 47 := X_at (r := mi49) rfl rfl
theorem x49_48 {z : P0} : X z 49 48 = XI mT z (X z) (.ireturn, 1, 0, 0, 0, [], 0, 0) 49 48 := X_at (r := mi49) rfl rfl
theorem x49_49 {z : P0} : X z 49 49 = XI mT z (X z) (.iconst 0, 1, 0, 0, 0, [], nI 0, 0) 49 49 := X_at (r := mi49) rfl rfl
theorem x49_50 {z : P0} : X z 49 50 = XI mT z (X z) (.ireturn, 1, 0, 0, 0, [], 0, 0) 49 50 := X_at (r := mi49) rfl rfl
theorem x50_0 {z : P0} : X z 50 0 = XI mT z (X z) (.iconst 0, 1, 0, 0, 0, [], nI 0, 0) 50 0 := X_at (r := mi50) rfl rfl
theorem x50_1 {z : P0} : X z 50 1 = XI mT z (X z) (.istore_n 1, 1, 1, 0, 0, [], 0, 0) 50 1 := X_at (r := mi50) rfl rfl
theorem x50_2 {z : P0} : X z 50 2 = XI mT z (X z) (.iconst 0, 1, 0, 0, 0, [], nI 0, 0) 50 2 := X_at (r := mi50) rfl rfl
theorem x50_3 {z : P0} : X z 50 3 = XI mT z (X z) (.istore_n 2, 1, 2, 0, 0, [], 0, 0) 50 3 := X_at (r := mi50) rfl rfl
theorem x50_4 {z : P0} : X z 50 4 = XI mT z (X z) (.iload_n 2, 1, 2, 0, 0, [], 0, 0) 50 4 := X_at (r := mi50) rfl rfl
theorem x50_5 {z : P0} : X z 50 5 = XI mT z (X z) (.aload_n 0, 1, 0, 0, 0, [], 0, 0) 50 5 := X_at (r := mi50) rfl rfl
theorem x50_6 {z : P0} : X z 50 6 = XI mT z (X z) (.getfield 45, 3, 8, 1, 0, [70], 0, 0) 50 6 := X_at (r := mi50) rfl rfl
theorem x50_9 {z : P0} : X z 50 9 = XI mT z (X z) (.if_icmp .ge 24, 3, 33, 0, 0, [], 0, 0) 50 9 := X_at (r := mi50) rfl rfl
theorem x50_12 {z : P0} : X z 50 12 = XI mT z (X z) (.aload_n 0, 1, 0, 0, 0, [], 0, 0) 50 12 := X_at (r := mi50) rfl rfl
theorem x50_13 {z : P0} : X z 50 13 = XI mT z (X z) (.getfield 11, 3, 8, 0, 3, [66], 0, 0) 50 13 := X_at (r := mi50) rfl rfl
theorem x50_16 {z : P0} : X z 50 16 = XI mT z (X z) (.iload_n 2, 1, 2, 0, 0, [], 0, 0) 50 16 := X_at (r := mi50) rfl rfl
theorem x50_17 {z : P0} : X z 50 17 = XI mT z (X z) (.aaload, 1, 0, 0, 0, [], 0, 0) 50 17 := X_at (r := mi50) rfl rfl
theorem x50_18 {z : P0} : X z 50 18 = XI mT z (X z) (.getfield 80, 3, 7, 5, 1, [78], 0, 0) 50 18 := X_at (r := mi50) rfl rfl
theorem x50_21 {z : P0} : X z 50 21 = XI mT z (X z) (.ifCond .eq 6, 3, 27, 0, 0, [], 0, 0) 50 21 := X_at (r := mi50) rfl rfl
theorem x50_24 {z : P0} : X z 50 24 = XI mT z (X z) (.iinc 1 1, 3, 1, 0, 0, [], nI 1, 0) 50 24 := X_at (r := mi50) rfl rfl
theorem x50_27 {z : P0} : X z 50 27 = XI mT z (X z) (.iinc 2 1, 3, 2, 0, 0, [], nI 1, 0) 50 27 := X_at (r := mi50) rfl rfl
theorem x50_30 {z : P0} : X z 50 30 = XI mT z (X z) (.goto (-26), 3, 4, 0, 0, [], 0, 0) 50 30 := X_at (r := mi50) rfl rfl
theorem x50_33 {z : P0} : X z 50 33 = XI mT z (X z) (.iload_n 1, 1, 1, 0, 0, [], 0, 0) 50 33 := X_at (r := mi50) rfl rfl
theorem x50_34 {z : P0} : X z 50 34 = XI mT z (X z) (.ireturn, 1, 0, 0, 0, [], 0, 0) 50 34 := X_at (r := mi50) rfl rfl
theorem x52_0 {z : P0} : X z 52 0 = XI mT z (X z) (.aload_n 0, 1, 0, 0, 0, [], 0, 0) 52 0 := X_at (r := mi52) rfl rfl
theorem x52_1 {z : P0} : X z 52 1 = XI mT z (X z) (.invokespecial 3, 3, 0, 9003, 0, [54], 0, 0) 52 1 := X_at (r := mi52) rfl rfl
theorem x52_4 {z : P0} : X z 52 4 = XI mT z (X z) (.aload_n 0, 1, 0, 0, 0, [], 0, 0) 52 4 := X_at (r := mi52) rfl rfl
theorem x52_5 {z : P0} : X z 52 5 = XI mT z (X z) (.bipush 8, 2, 0, 0, 0, [], nI 8, 0) 52 5 := X_at (r := mi52) rfl rfl
theorem x52_7 {z : P0} : X z 52 7 = XI mT z (X z) (.newarray .int, 2, 20, 0, 0, [], 0, 0) 52 7 := X_at (r := mi52) rfl rfl
theorem x52_9 {z : P0} : X z 52 9 = XI mT z (X z) (.putfield 9, 3, 9, 0, 3, [81], 0, 0) 52 9 := X_at (r := mi52) rfl rfl
theorem x52_12 {z : P0} : X z 52 12 = XI mT z (X z) (.return_, 1, 0, 0, 0, [], 0, 0) 52 12 := X_at (r := mi52) rfl rfl
theorem x53_0 {z : P0} : X z 53 0 = XI mT z (X z) (.aload_n 1, 1, 1, 0, 0, [], 0, 0) 53 0 := X_at (r := mi53) rfl rfl
theorem x53_1 {z : P0} : X z 53 1 = XI mT z (X z) (.getfield 15, 3, 0, 1, 0, [82], 0, 0) 53 1 := X_at (r := mi53) rfl rfl
theorem x53_4 {z : P0} : X z 53 4 = XI mT z (X z) (.iconst 1, 1, 0, 0, 0, [], nI 1, 0) 53 4 := X_at (r := mi53) rfl rfl
theorem x53_5 {z : P0} : X z 53 5 = XI mT z (X z) (.isub, 1, 0, 0, 0, [], 0, 0) 53 5 := X_at (r := mi53) rfl rfl
theorem x53_6 {z : P0} : X z 53 6 = XI mT z (X z) (.istore_n 2, 1, 2, 0, 0, [], 0, 0) 53 6 := X_at (r := mi53) rfl rfl
theorem x53_7 {z : P0} : X z 53 7 = XI mT z (X z) (.aload_n 0, 1, 0, 0, 0, [], 0, 0) 53 7 := X_at (r := mi53) rfl rfl
theorem x53_8 {z : P0} : X z 53 8 = XI mT z (X z) (.iload_n 2, 1, 2, 0, 0, [], 0, 0) 53 8 := X_at (r := mi53) rfl rfl
theorem x53_9 {z : P0} : X z 53 9 = XI mT z (X z) (.ifCond .lt 18, 3, 27, 0, 0, [], 0, 0) 53 9 := X_at (r := mi53) rfl rfl
theorem x53_12 {z : P0} : X z 53 12 = XI mT z (X z) (.aload_n 1, 1, 1, 0, 0, [], 0, 0) 53 12 := X_at (r := mi53) rfl rfl
theorem x53_13 {z : P0} : X z 53 13 = XI mT z (X z) (.getfield 21, 3, 0, 0, 3, [83], 0, 0) 53 13 := X_at (r := mi53) rfl rfl
theorem x53_16 {z : P0} : X z 53 16 = XI mT z (X z) (.iload_n 2, 1, 2, 0, 0, [], 0, 0) 53 16 := X_at (r := mi53) rfl rfl
theorem x53_17 {z : P0} : X z 53 17 = XI mT z (X z) (.iaload, 1, 0, 0, 0, [], 0, 0) 53 17 := X_at (r := mi53) rfl rfl
theorem x53_18 {z : P0} : X z 53 18 = XI mT z (X z) (.bipush 42, 2, 0, 0, 0, [], nI 42, 0) 53 18 := X_at (r := mi53) rfl rfl
theorem x53_20 {z : P0} : X z 53 20 = XI mT z (X z) (.if_icmp .ne 7, 3, 27, 0, 0, [], 0, 0) 53 20 := X_at (r := mi53) rfl rfl
theorem x53_23 {z : P0} : X z 53 23 = XI mT z (X z) (.iconst 1, 1, 0, 0, 0, [], nI 1, 0) 53 23 := X_at (r := mi53) rfl rfl
theorem x53_24 {z : P0} : X z 53 24 = XI mT z (X z) (.goto 4, 3, 28, 0, 0, [], 0, 0) 53 24 := X_at (r := mi53) rfl rfl
theorem x53_27 {z : P0} : X z 53 27 = XI mT z (X z) (.iconst 0, 1, 0, 0, 0, [], nI 0, 0) 53 27 := X_at (r := mi53) rfl rfl
theorem x53_28 {z : P0} : X z 53 28 = XI mT z (X z) (.putfield 24, 3, 9, 2, 1, [84], 0, 0) 53 28 := X_at (r := mi53) rfl rfl
theorem x53_31 {z : P0} : X z 53 31 = XI mT z (X z) (.aload_n 0, 1, 0, 0, 0, [], 0, 0) 53 31 := X_at (r := mi53) rfl rfl
theorem x53_32 {z : P0} : X z 53 32 = XI mT z (X z) (.aload_n 0, 1, 0, 0, 0, [], 0, 0) 53 32 := X_at (r := mi53) rfl rfl
theorem x53_33 {z : P0} : X z 53 33 = XI mT z (X z) (.getfield 24, 3, 9, 2, 1, [84], 0, 0) 53 33 := X_at (r := mi53) rfl rfl
theorem x53_36 {z : P0} : X z 53 36 = XI mT z (X z) (.ifCond .eq 7, 3, 43, 0, 0, [], 0, 0) 53 36 := X_at (r := mi53) rfl rfl
theorem x53_39 {z : P0} : X z 53 39 = XI mT z (X z) (.iload_n 2, 1, 2, 0, 0, [], 0, 0) 53 39 := X_at (r := mi53) rfl rfl
theorem x53_40 {z : P0} : X z 53 40 = XI mT z (X z) (.goto 7, 3, 47, 0, 0, [], 0, 0) 53 40 := X_at (r := mi53) rfl rfl
theorem x53_43 {z : P0} : X z 53 43 = XI mT z (X z) (.aload_n 1, 1, 1, 0, 0, [], 0, 0) 53 43 := X_at (r := mi53) rfl rfl
theorem x53_44 {z : P0} : X z 53 44 = XI mT z (X z) (.getfield 15, 3, 0, 1, 0, [82], 0, 0) 53 44 := X_at (r := mi53) rfl rfl
theorem x53_47 {z : P0} : X z 53 47 = XI mT z (X z) (.bipush 8, 2, 0, 0, 0, [], nI 8, 0) 53 47 := X_at (r := mi53) rfl rfl
theorem x53_49 {z : P0} : X z 53 49 = XI mT z (X z) (.invokestatic 28, 3, 2, 184, 0, [55], 0, 0) 53 49 := X_at (r := mi53) rfl rfl
theorem x53_52 {z : P0} : X z 53 52 = XI mT z (X z) (.putfield 34, 3, 9, 1, 0, [85], 0, 0) 53 52 := X_at (r := mi53) rfl rfl
theorem x53_55 {z : P0} : X z 53 55 = XI mT z (X z) (.aload_n 1, 1, 1, 0, 0, [], 0, 0) 53 55 := X_at (r := mi53) rfl rfl
theorem x53_56 {z : P0} : X z 53 56 = XI mT z (X z) (.getfield 21, 3, 0, 0, 3, [83], 0, 0) 53 56 := X_at (r := mi53) rfl rfl
theorem x53_59 {z : P0} : X z 53 59 = XI mT z (X z) (.iconst 0, 1, 0, 0, 0, [], nI 0, 0) 53 59 := X_at (r := mi53) rfl rfl
theorem x53_60 {z : P0} : X z 53 60 = XI mT z (X z) (.aload_n 0, 1, 0, 0, 0, [], 0, 0) 53 60 := X_at (r := mi53) rfl rfl
theorem x53_61 {z : P0} : X z 53 61 = XI mT z (X z) (.getfield 9, 3, 9, 0, 3, [81], 0, 0) 53 61 := X_at (r := mi53) rfl rfl
theorem x53_64 {z : P0} : X z 53 64 = XI mT z (X z) (.iconst 0, 1, 0, 0, 0, [], nI 0, 0) 53 64 := X_at (r := mi53) rfl rfl
theorem x53_65 {z : P0} : X z 53 65 = XI mT z (X z) (.aload_n 0, 1, 0, 0, 0, [], 0, 0) 53 65 := X_at (r := mi53) rfl rfl
theorem x53_66 {z : P0} : X z 53 66 = XI mT z (X z) (.getfield 34, 3, 9, 1, 0, [85], 0, 0) 53 66 := X_at (r := mi53) rfl rfl
theorem x53_69 {z : P0} : X z 53 69 = XI mT z (X z) (.invokestatic 35, 3, 5, 9001, 0, [56], 0, 0) 53 69 := X_at (r := mi53) rfl rfl
theorem x53_72 {z : P0} : X z 53 72 = XI mT z (X z) (.return_, 1, 0, 0, 0, [], 0, 0) 53 72 := X_at (r := mi53) rfl rfl
theorem x54_0 {z : P0} : X z 54 0 = XI mT z (X z) (.aload_n 1, 1, 1, 0, 0, [], 0, 0) 54 0 := X_at (r := mi54) rfl rfl
theorem x54_1 {z : P0} : X z 54 1 = XI mT z (X z) (.getfield 9, 3, 9, 0, 3, [81], 0, 0) 54 1 := X_at (r := mi54) rfl rfl
theorem x54_4 {z : P0} : X z 54 4 = XI mT z (X z) (.iconst 0, 1, 0, 0, 0, [], nI 0, 0) 54 4 := X_at (r := mi54) rfl rfl
theorem x54_5 {z : P0} : X z 54 5 = XI mT z (X z) (.aload_n 0, 1, 0, 0, 0, [], 0, 0) 54 5 := X_at (r := mi54) rfl rfl
theorem x54_6 {z : P0} : X z 54 6 = XI mT z (X z) (.getfield 9, 3, 9, 0, 3, [81], 0, 0) 54 6 := X_at (r := mi54) rfl rfl
theorem x54_9 {z : P0} : X z 54 9 = XI mT z (X z) (.iconst 0, 1, 0, 0, 0, [], nI 0, 0) 54 9 := X_at (r := mi54) rfl rfl
theorem x54_10 {z : P0} : X z 54 10 = XI mT z (X z) (.bipush 8, 2, 0, 0, 0, [], nI 8, 0) 54 10 := X_at (r := mi54) rfl rfl
theorem x54_12 {z : P0} : X z 54 12 = XI mT z (X z) (.invokestatic 35, 3, 5, 9001, 0, [56], 0, 0) 54 12 := X_at (r := mi54) rfl rfl
theorem x54_15 {z : P0} : X z 54 15 = XI mT z (X z) (.aload_n 0, 1, 0, 0, 0, [], 0, 0) 54 15 := X_at (r := mi54) rfl rfl
theorem x54_16 {z : P0} : X z 54 16 = XI mT z (X z) (.aload_n 1, 1, 1, 0, 0, [], 0, 0) 54 16 := X_at (r := mi54) rfl rfl
theorem x54_17 {z : P0} : X z 54 17 = XI mT z (X z) (.getfield 34, 3, 9, 1, 0, [85], 0, 0) 54 17 := X_at (r := mi54) rfl rfl
theorem x54_20 {z : P0} : X z 54 20 = XI mT z (X z) (.putfield 34, 3, 9, 1, 0, [85], 0, 0) 54 20 := X_at (r := mi54) rfl rfl
theorem x54_23 {z : P0} : X z 54 23 = XI mT z (X z) (.aload_n 0, 1, 0, 0, 0, [], 0, 0) 54 23 := X_at (r := mi54) rfl rfl
theorem x54_24 {z : P0} : X z 54 24 = XI mT z (X z) (.aload_n 1, 1, 1, 0, 0, [], 0, 0) 54 24 := X_at (r := mi54) rfl rfl
theorem x54_25 {z : P0} : X z 54 25 = XI mT z (X z) (.getfield 24, 3, 9, 2, 1, [84], 0, 0) 54 25 := X_at (r := mi54) rfl rfl
theorem x54_28 {z : P0} : X z 54 28 = XI mT z (X z) (.putfield 24, 3, 9, 2, 1, [84], 0, 0) 54 28 := X_at (r := mi54) rfl rfl
theorem x54_31 {z : P0} : X z 54 31 = XI mT z (X z) (.return_, 1, 0, 0, 0, [], 0, 0) 54 31 := X_at (r := mi54) rfl rfl
theorem x56_0 {z : P0} : X z 56 0 = XI mT z (X z) (.aload_n 0, 1, 0, 0, 0, [], 0, 0) 56 0 := X_at (r := mi56) rfl rfl
theorem x56_1 {z : P0} : X z 56 1 = XI mT z (X z) (.getfield 24, 3, 9, 2, 1, [84], 0, 0) 56 1 := X_at (r := mi56) rfl rfl
theorem x56_4 {z : P0} : X z 56 4 = XI mT z (X z) (.ifCond .eq 6, 3, 10, 0, 0, [], 0, 0) 56 4 := X_at (r := mi56) rfl rfl
theorem x56_7 {z : P0} : X z 56 7 = XI mT z (X z) (.ldc 41, 2, 1, 0, 0, [806], 0, 0) 56 7 := X_at (r := mi56) rfl rfl
theorem x56_9 {z : P0} : X z 56 9 = XI mT z (X z) (.areturn, 1, 0, 0, 0, [], 0, 0) 56 9 := X_at (r := mi56) rfl rfl
theorem x56_10 {z : P0} : X z 56 10 = XI mT z (X z) (.aload_n 0, 1, 0, 0, 0, [], 0, 0) 56 10 := X_at (r := mi56) rfl rfl
theorem x56_11 {z : P0} : X z 56 11 = XI mT z (X z) (.getfield 9, 3, 9, 0, 3, [81], 0, 0) 56 11 := X_at (r := mi56) rfl rfl
theorem x56_14 {z : P0} : X z 56 14 = XI mT z (X z) (.iconst 0, 1, 0, 0, 0, [], nI 0, 0) 56 14 := X_at (r := mi56) rfl rfl
theorem x56_15 {z : P0} : X z 56 15 = XI mT z (X z) (.iaload, 1, 0, 0, 0, [], 0, 0) 56 15 := X_at (r := mi56) rfl rfl
theorem x56_16 {z : P0} : X z 56 16 = XI mT z (X z) (.istore_n 1, 1, 1, 0, 0, [], 0, 0) 56 16 := X_at (r := mi56) rfl rfl
theorem x56_17 {z : P0} : X z 56 17 = XI mT z (X z) (.iload_n 1, 1, 1, 0, 0, [], 0, 0) 56 17 := X_at (r := mi56) rfl rfl
theorem x56_18 {z : P0} : X z 56 18 = XI mT z (X z) (.bipush 97, 2, 0, 0, 0, [], nI 97, 0) 56 18 := X_at (r := mi56) rfl rfl
theorem x56_20 {z : P0} : X z 56 20 = XI mT z (X z) (.if_icmp .eq 27, 3, 47, 0, 0, [], 0, 0) 56 20 := X_at (r := mi56) rfl rfl
theorem x56_23 {z : P0} : X z 56 23 = XI mT z (X z) (.iload_n 1, 1, 1, 0, 0, [], 0, 0) 56 23 := X_at (r := mi56) rfl rfl
theorem x56_24 {z : P0} : X z 56 24 = XI mT z (X z) (.bipush 101, 2, 0, 0, 0, [], nI 101, 0) 56 24 := X_at (r := mi56) rfl rfl
theorem x56_26 {z : P0} : X z 56 26 = XI mT z (X z) (.if_icmp .eq 21, 3, 47, 0, 0, [], 0, 0) 56 26 := X_at (r := mi56) rfl rfl
theorem x56_29 {z : P0} : X z 56 29 = XI mT z (X z) (.iload_n 1, 1, 1, 0, 0, [], 0, 0) 56 29 := X_at (r := mi56) rfl rfl
theorem x56_30 {z : P0} : X z 56 30 = XI mT z (X z) (.bipush 105, 2, 0, 0, 0, [], nI 105, 0) 56 30 := X_at (r := mi56) rfl rfl
theorem x56_32 {z : P0} : X z 56 32 = XI mT z (X z) (.if_icmp .eq 15, 3, 47, 0, 0, [], 0, 0) 56 32 := X_at (r := mi56) rfl rfl
theorem x56_35 {z : P0} : X z 56 35 = XI mT z (X z) (.iload_n 1, 1, 1, 0, 0, [], 0, 0) 56 35 := X_at (r := mi56) rfl rfl
theorem x56_36 {z : P0} : X z 56 36 = XI mT z (X z) (.bipush 111, 2, 0, 0, 0, [], nI 111, 0) 56 36 := X_at (r := mi56) rfl rfl
theorem x56_38 {z : P0} : X z 56 38 = XI mT z (X z) (.if_icmp .eq 9, 3, 47, 0, 0, [], 0, 0) 56 38 := X_at (r := mi56) rfl rfl
theorem x56_41 {z : P0} : X z 56 41 = XI mT z (X z) (.iload_n 1, 1, 1, 0, 0, [], 0, 0) 56 41 := X_at (r := mi56) rfl rfl
theorem x56_42 {z : P0} : X z 56 42 = XI mT z (X z) (.bipush 117, 2, 0, 0, 0, [], nI 117, 0) 56 42 := X_at (r := mi56) rfl rfl
theorem x56_44 {z : P0} : X z 56 44 = XI mT z (X z) (.if_icmp .ne 7, 3, 51, 0, 0, [], 0, 0) 56 44 := X_at (r := mi56) rfl rfl
theorem x56_47 {z : P0} : X z 56 47 = XI mT z (X z) (.iconst 1, 1, 0, 0, 0, [], nI 1, 0) 56 47 := X_at (r := mi56) rfl rfl
theorem x56_48 {z : P0} : X z 56 48 = XI mT z (X z) (.goto 4, 3, 52, 0, 0, [], 0, 0) 56 48 := X_at (r := mi56) rfl rfl
theorem x56_51 {z : P0} : X z 56 51 = XI mT z (X z) (.iconst 0, 1, 0, 0, 0, [], nI 0, 0) 56 51 := X_at (r := mi56) rfl rfl
theorem x56_52 {z : P0} : X z 56 52 = XI mT z (X z) (.istore_n 2, 1, 2, 0, 0, [], 0, 0) 56 52 := X_at (r := mi56) rfl rfl
theorem x56_53 {z : P0} : X z 56 53 = XI mT z (X z) (.iload_n 2, 1, 2, 0, 0, [], 0, 0) 56 53 := X_at (r := mi56) rfl rfl
theorem x56_54 {z : P0} : X z 56 54 = XI mT z (X z) (.ifCond .eq 8, 3, 62, 0, 0, [], 0, 0) 56 54 := X_at (r := mi56) rfl rfl
theorem x56_57 {z : P0} : X z 56 57 = XI mT z (X z) (.ldc 43, 2, 2, 0, 0, [807], 0, 0) 56 57 := X_at (r := mi56) rfl rfl
theorem x56_59 {z : P0} : X z 56 59 = XI mT z (X z) (.goto 5, 3, 64, 0, 0, [], 0, 0) 56 59 := X_at (r := mi56) rfl rfl
theorem x56_62 {z : P0} : X z 56 62 = XI mT z (X z) (.ldc 45, 2, 3, 0, 0, [808], 0, 0) 56 62 := X_at (r := mi56) rfl rfl
theorem x56_64 {z : P0} : X z 56 64 = XI mT z (X z) (.areturn, 1, 0, 0, 0, [], 0, 0) 56 64 := X_at (r := mi56) rfl rfl
