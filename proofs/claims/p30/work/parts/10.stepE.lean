theorem x192_0 {z : P0} : X z 192 0 = XI mT z (X z) (.iload_n 1, 1, 1, 0, 0, [], 0, 0) 192 0 := X_at (r := mi192) rfl rfl
theorem x192_1 {z : P0} : X z 192 1 = XI mT z (X z) (.aload_n 0, 1, 0, 0, 0, [], 0, 0) 192 1 := X_at (r := mi192) rfl rfl
theorem x192_2 {z : P0} : X z 192 2 = XI mT z (X z) (.arraylength, 1, 0, 0, 0, [], 0, 0) 192 2 := X_at (r := mi192) rfl rfl
theorem x192_3 {z : P0} : X z 192 3 = XI mT z (X z) (.if_icmp .ge 9, 3, 12, 0, 0, [], 0, 0) 192 3 := X_at (r := mi192) rfl rfl
theorem x192_6 {z : P0} : X z 192 6 = XI mT z (X z) (.aload_n 0, 1, 0, 0, 0, [], 0, 0) 192 6 := X_at (r := mi192) rfl rfl
theorem x192_7 {z : P0} : X z 192 7 = XI mT z (X z) (.iload_n 1, 1, 1, 0, 0, [], 0, 0) 192 7 := X_at (r := mi192) rfl rfl
theorem x192_8 {z : P0} : X z 192 8 = XI mT z (X z) (.iaload, 1, 0, 0, 0, [], 0, 0) 192 8 := X_at (r := mi192) rfl rfl
theorem x192_9 {z : P0} : X z 192 9 = XI mT z (X z) (.goto 10, 3, 19, 0, 0, [], 0, 0) 192 9 := X_at (r := mi192) rfl rfl
theorem x192_12 {z : P0} : X z 192 12 = XI mT z (X z) (.ldc 7, 2, 0, 0, 1, [365], nI 668265263, 0) 192 12 := X_at (r := mi192) rfl rfl
theorem x192_14 {z : P0} : X z 192 14 = XI mT z (X z) (.iload_n 1, 1, 1, 0, 0, [], 0, 0) 192 14 := X_at (r := mi192) rfl rfl
theorem x192_15 {z : P0} : X z 192 15 = XI mT z (X z) (.bipush 83, 2, 0, 0, 0, [], nI 83, 0) 192 15 := X_at (r := mi192) rfl rfl
theorem x192_17 {z : P0} : X z 192 17 = XI mT z (X z) (.iadd, 1, 0, 0, 0, [], 0, 0) 192 17 := X_at (r := mi192) rfl rfl
theorem x192_18 {z : P0} : X z 192 18 = XI mT z (X z) (.imul, 1, 0, 0, 0, [], 0, 0) 192 18 := X_at (r := mi192) rfl rfl
theorem x192_19 {z : P0} : X z 192 19 = XI mT z (X z) (.ireturn, 1, 0, 0, 0, [], 0, 0) 192 19 := X_at (r := mi192) rfl rfl
theorem x193_0 {z : P0} : X z 193 0 = XI mT z (X z) (.iload_n 0, 1, 0, 0, 0, [], 0, 0) 193 0 := X_at (r := mi193) rfl rfl
theorem x193_1 {z : P0} : X z 193 1 = XI mT z (X z) (.iconst 1, 1, 0, 0, 0, [], nI 1, 0) 193 1 := X_at (r := mi193) rfl rfl
theorem x193_2 {z : P0} : X z 193 2 = XI mT z (X z) (.iushr, 1, 0, 0, 0, [], 0, 0) 193 2 := X_at (r := mi193) rfl rfl
theorem x193_3 {z : P0} : X z 193 3 = XI mT z (X z) (.iload_n 1, 1, 1, 0, 0, [], 0, 0) 193 3 := X_at (r := mi193) rfl rfl
theorem x193_4 {z : P0} : X z 193 4 = XI mT z (X z) (.irem, 1, 0, 0, 0, [], 0, 0) 193 4 := X_at (r := mi193) rfl rfl
theorem x193_5 {z : P0} : X z 193 5 = XI mT z (X z) (.ireturn, 1, 0, 0, 0, [], 0, 0) 193 5 := X_at (r := mi193) rfl rfl
theorem x194_0 {z : P0} : X z 194 0 = XI mT z (X z) (.bipush 97, 2, 0, 0, 0, [], nI 97, 0) 194 0 := X_at (r := mi194) rfl rfl
theorem x194_2 {z : P0} : X z 194 2 = XI mT z (X z) (.iload_n 0, 1, 0, 0, 0, [], 0, 0) 194 2 := X_at (r := mi194) rfl rfl
theorem x194_3 {z : P0} : X z 194 3 = XI mT z (X z) (.ifCond .ne 13, 3, 16, 0, 0, [], 0, 0) 194 3 := X_at (r := mi194) rfl rfl
theorem x194_6 {z : P0} : X z 194 6 = XI mT z (X z) (.iload_n 1, 1, 1, 0, 0, [], 0, 0) 194 6 := X_at (r := mi194) rfl rfl
theorem x194_7 {z : P0} : X z 194 7 = XI mT z (X z) (.iconst 5, 1, 0, 0, 0, [], nI 5, 0) 194 7 := X_at (r := mi194) rfl rfl
theorem x194_8 {z : P0} : X z 194 8 = XI mT z (X z) (.iload_n 3, 1, 3, 0, 0, [], 0, 0) 194 8 := X_at (r := mi194) rfl rfl
theorem x194_9 {z : P0} : X z 194 9 = XI mT z (X z) (.imul, 1, 0, 0, 0, [], 0, 0) 194 9 := X_at (r := mi194) rfl rfl
theorem x194_10 {z : P0} : X z 194 10 = XI mT z (X z) (.iadd, 1, 0, 0, 0, [], 0, 0) 194 10 := X_at (r := mi194) rfl rfl
theorem x194_11 {z : P0} : X z 194 11 = XI mT z (X z) (.iload_n 2, 1, 2, 0, 0, [], 0, 0) 194 11 := X_at (r := mi194) rfl rfl
theorem x194_12 {z : P0} : X z 194 12 = XI mT z (X z) (.iadd, 1, 0, 0, 0, [], 0, 0) 194 12 := X_at (r := mi194) rfl rfl
theorem x194_13 {z : P0} : X z 194 13 = XI mT z (X z) (.goto 13, 3, 26, 0, 0, [], 0, 0) 194 13 := X_at (r := mi194) rfl rfl
theorem x194_16 {z : P0} : X z 194 16 = XI mT z (X z) (.iconst 3, 1, 0, 0, 0, [], nI 3, 0) 194 16 := X_at (r := mi194) rfl rfl
theorem x194_17 {z : P0} : X z 194 17 = XI mT z (X z) (.iload_n 1, 1, 1, 0, 0, [], 0, 0) 194 17 := X_at (r := mi194) rfl rfl
theorem x194_18 {z : P0} : X z 194 18 = XI mT z (X z) (.imul, 1, 0, 0, 0, [], 0, 0) 194 18 := X_at (r := mi194) rfl rfl
theorem x194_19 {z : P0} : X z 194 19 = XI mT z (X z) (.bipush 7, 2, 0, 0, 0, [], nI 7, 0) 194 19 := X_at (r := mi194) rfl rfl
theorem x194_21 {z : P0} : X z 194 21 = XI mT z (X z) (.iload_n 3, 1, 3, 0, 0, [], 0, 0) 194 21 := X_at (r := mi194) rfl rfl
theorem x194_22 {z : P0} : X z 194 22 = XI mT z (X z) (.imul, 1, 0, 0, 0, [], 0, 0) 194 22 := X_at (r := mi194) rfl rfl
theorem x194_23 {z : P0} : X z 194 23 = XI mT z (X z) (.iadd, 1, 0, 0, 0, [], 0, 0) 194 23 := X_at (r := mi194) rfl rfl
theorem x194_24 {z : P0} : X z 194 24 = XI mT z (X z) (.iload_n 2, 1, 2, 0, 0, [], 0, 0) 194 24 := X_at (r := mi194) rfl rfl
theorem x194_25 {z : P0} : X z 194 25 = XI mT z (X z) (.iadd, 1, 0, 0, 0, [], 0, 0) 194 25 := X_at (r := mi194) rfl rfl
theorem x194_26 {z : P0} : X z 194 26 = XI mT z (X z) (.bipush 26, 2, 0, 0, 0, [], nI 26, 0) 194 26 := X_at (r := mi194) rfl rfl
theorem x194_28 {z : P0} : X z 194 28 = XI mT z (X z) (.irem, 1, 0, 0, 0, [], 0, 0) 194 28 := X_at (r := mi194) rfl rfl
theorem x194_29 {z : P0} : X z 194 29 = XI mT z (X z) (.iadd, 1, 0, 0, 0, [], 0, 0) 194 29 := X_at (r := mi194) rfl rfl
theorem x194_30 {z : P0} : X z 194 30 = XI mT z (X z) (.ireturn, 1, 0, 0, 0, [], 0, 0) 194 30 := X_at (r := mi194) rfl rfl
theorem x195_0 {z : P0} : X z 195 0 = XI mT z (X z) (.aload_n 0, 1, 0, 0, 0, [], 0, 0) 195 0 := X_at (r := mi195) rfl rfl
theorem x195_1 {z : P0} : X z 195 1 = XI mT z (X z) (.invokevirtual 8, 3, 0, 68, 0, [90], 0, 0) 195 1 := X_at (r := mi195) rfl rfl
theorem x195_4 {z : P0} : X z 195 4 = XI mT z (X z) (.pop, 1, 0, 0, 0, [], 0, 0) 195 4 := X_at (r := mi195) rfl rfl
theorem x195_5 {z : P0} : X z 195 5 = XI mT z (X z) (.iconst 0, 1, 0, 0, 0, [], nI 0, 0) 195 5 := X_at (r := mi195) rfl rfl
theorem x195_6 {z : P0} : X z 195 6 = XI mT z (X z) (.istore 5, 2, 5, 0, 0, [], 0, 0) 195 6 := X_at (r := mi195) rfl rfl
theorem x195_8 {z : P0} : X z 195 8 = XI mT z (X z) (.iload 5, 2, 5, 0, 0, [], 0, 0) 195 8 := X_at (r := mi195) rfl rfl
theorem x195_10 {z : P0} : X z 195 10 = XI mT z (X z) (.iload_n 2, 1, 2, 0, 0, [], 0, 0) 195 10 := X_at (r := mi195) rfl rfl
theorem x195_11 {z : P0} : X z 195 11 = XI mT z (X z) (.if_icmp .ge 42, 3, 53, 0, 0, [], 0, 0) 195 11 := X_at (r := mi195) rfl rfl
theorem x195_14 {z : P0} : X z 195 14 = XI mT z (X z) (.aload_n 0, 1, 0, 0, 0, [], 0, 0) 195 14 := X_at (r := mi195) rfl rfl
theorem x195_15 {z : P0} : X z 195 15 = XI mT z (X z) (.iconst 0, 1, 0, 0, 0, [], nI 0, 0) 195 15 := X_at (r := mi195) rfl rfl
theorem x195_16 {z : P0} : X z 195 16 = XI mT z (X z) (.iload_n 1, 1, 1, 0, 0, [], 0, 0) 195 16 := X_at (r := mi195) rfl rfl
theorem x195_17 {z : P0} : X z 195 17 = XI mT z (X z) (.iload_n 2, 1, 2, 0, 0, [], 0, 0) 195 17 := X_at (r := mi195) rfl rfl
theorem x195_18 {z : P0} : X z 195 18 = XI mT z (X z) (.iload 5, 2, 5, 0, 0, [], 0, 0) 195 18 := X_at (r := mi195) rfl rfl
theorem x195_20 {z : P0} : X z 195 20 = XI mT z (X z) (.invokestatic 14, 3, 4, 194, 0, [91], 0, 0) 195 20 := X_at (r := mi195) rfl rfl
theorem x195_23 {z : P0} : X z 195 23 = XI mT z (X z) (.invokevirtual 20, 3, 1, 67, 0, [92], 0, 0) 195 23 := X_at (r := mi195) rfl rfl
theorem x195_26 {z : P0} : X z 195 26 = XI mT z (X z) (.iload 5, 2, 5, 0, 0, [], 0, 0) 195 26 := X_at (r := mi195) rfl rfl
theorem x195_28 {z : P0} : X z 195 28 = XI mT z (X z) (.iconst 1, 1, 0, 0, 0, [], nI 1, 0) 195 28 := X_at (r := mi195) rfl rfl
theorem x195_29 {z : P0} : X z 195 29 = XI mT z (X z) (.iadd, 1, 0, 0, 0, [], 0, 0) 195 29 := X_at (r := mi195) rfl rfl
theorem x195_30 {z : P0} : X z 195 30 = XI mT z (X z) (.if_icmp .ne 15, 3, 45, 0, 0, [], 0, 0) 195 30 := X_at (r := mi195) rfl rfl
theorem x195_33 {z : P0} : X z 195 33 = XI mT z (X z) (.aload_n 0, 1, 0, 0, 0, [], 0, 0) 195 33 := X_at (r := mi195) rfl rfl
theorem x195_34 {z : P0} : X z 195 34 = XI mT z (X z) (.iconst 0, 1, 0, 0, 0, [], nI 0, 0) 195 34 := X_at (r := mi195) rfl rfl
theorem x195_35 {z : P0} : X z 195 35 = XI mT z (X z) (.invokevirtual 24, 3, 1, 69, 0, [93], 0, 0) 195 35 := X_at (r := mi195) rfl rfl
theorem x195_38 {z : P0} : X z 195 38 = XI mT z (X z) (.iload 5, 2, 5, 0, 0, [], 0, 0) 195 38 := X_at (r := mi195) rfl rfl
theorem x195_40 {z : P0} : X z 195 40 = XI mT z (X z) (.iconst 1, 1, 0, 0, 0, [], nI 1, 0) 195 40 := X_at (r := mi195) rfl rfl
theorem x195_41 {z : P0} : X z 195 41 = XI mT z (X z) (.iadd, 1, 0, 0, 0, [], 0, 0) 195 41 := X_at (r := mi195) rfl rfl
theorem x195_42 {z : P0} : X z 195 42 = XI mT z (X z) (.if_icmp .eq 5, 3, 47, 0, 0, [], 0, 0) 195 42 := X_at (r := mi195) rfl rfl
theorem x195_45 {z : P0} : X z 195 45 = XI mT z (X z) (.iconst 0, 1, 0, 0, 0, [], nI 0, 0) 195 45 := X_at (r := mi195) rfl rfl
theorem x195_46 {z : P0} : X z 195 46 = XI mT z (X z) (.ireturn, 1, 0, 0, 0, [], 0, 0) 195 46 := X_at (r := mi195) rfl rfl
theorem x195_47 {z : P0} : X z 195 47 = XI mT z (X z) (.iinc 5 1, 3, 5, 0, 0, [], nI 1, 0) 195 47 := X_at (r := mi195) rfl rfl
theorem x195_50 {z : P0} : X z 195 50 = XI mT z (X z) (.goto (-42), 3, 8, 0, 0, [], 0, 0) 195 50 := X_at (r := mi195) rfl rfl
theorem x195_53 {z : P0} : X z 195 53 = XI mT z (X z) (.aload_n 0, 1, 0, 0, 0, [], 0, 0) 195 53 := X_at (r := mi195) rfl rfl
theorem x195_54 {z : P0} : X z 195 54 = XI mT z (X z) (.iload_n 3, 1, 3, 0, 0, [], 0, 0) 195 54 := X_at (r := mi195) rfl rfl
theorem x195_55 {z : P0} : X z 195 55 = XI mT z (X z) (.iload 4, 2, 4, 0, 0, [], 0, 0) 195 55 := X_at (r := mi195) rfl rfl
theorem x195_57 {z : P0} : X z 195 57 = XI mT z (X z) (.invokevirtual 27, 3, 2, 58, 0, [94], 0, 0) 195 57 := X_at (r := mi195) rfl rfl
theorem x195_60 {z : P0} : X z 195 60 = XI mT z (X z) (.iload_n 1, 1, 1, 0, 0, [], 0, 0) 195 60 := X_at (r := mi195) rfl rfl
theorem x195_61 {z : P0} : X z 195 61 = XI mT z (X z) (.if_icmp .ne 14, 3, 75, 0, 0, [], 0, 0) 195 61 := X_at (r := mi195) rfl rfl
theorem x195_64 {z : P0} : X z 195 64 = XI mT z (X z) (.aload_n 0, 1, 0, 0, 0, [], 0, 0) 195 64 := X_at (r := mi195) rfl rfl
theorem x195_65 {z : P0} : X z 195 65 = XI mT z (X z) (.invokevirtual 8, 3, 0, 68, 0, [90], 0, 0) 195 65 := X_at (r := mi195) rfl rfl
theorem x195_68 {z : P0} : X z 195 68 = XI mT z (X z) (.ifCond .ne 7, 3, 75, 0, 0, [], 0, 0) 195 68 := X_at (r := mi195) rfl rfl
theorem x195_71 {z : P0} : X z 195 71 = XI mT z (X z) (.iconst 1, 1, 0, 0, 0, [], nI 1, 0) 195 71 := X_at (r := mi195) rfl rfl
theorem x195_72 {z : P0} : X z 195 72 = XI mT z (X z) (.goto 4, 3, 76, 0, 0, [], 0, 0) 195 72 := X_at (r := mi195) rfl rfl
theorem x195_75 {z : P0} : X z 195 75 = XI mT z (X z) (.iconst 0, 1, 0, 0, 0, [], nI 0, 0) 195 75 := X_at (r := mi195) rfl rfl
theorem x195_76 {z : P0} : X z 195 76 = XI mT z (X z) (.ireturn, 1, 0, 0, 0, [], 0, 0) 195 76 := X_at (r := mi195) rfl rfl
theorem x196_0 {z : P0} : X z 196 0 = XI mT z (X z) (.aload_n 0, 1, 0, 0, 0, [], 0, 0) 196 0 := X_at (r := mi196) rfl rfl
theorem x196_1 {z : P0} : X z 196 1 = XI mT z (X z) (.invokevirtual 8, 3, 0, 68, 0, [90], 0, 0) 196 1 := X_at (r := mi196) rfl rfl
theorem x196_4 {z : P0} : X z 196 4 = XI mT z (X z) (.pop, 1, 0, 0, 0, [], 0, 0) 196 4 := X_at (r := mi196) rfl rfl
theorem x196_5 {z : P0} : X z 196 5 = XI mT z (X z) (.iconst 0, 1, 0, 0, 0, [], nI 0, 0) 196 5 := X_at (r := mi196) rfl rfl
theorem x196_6 {z : P0} : X z 196 6 = XI mT z (X z) (.istore 4, 2, 4, 0, 0, [], 0, 0) 196 6 := X_at (r := mi196) rfl rfl
theorem x196_8 {z : P0} : X z 196 8 = XI mT z (X z) (.iload 4, 2, 4, 0, 0, [], 0, 0) 196 8 := X_at (r := mi196) rfl rfl
theorem x196_10 {z : P0} : X z 196 10 = XI mT z (X z) (.iload_n 2, 1, 2, 0, 0, [], 0, 0) 196 10 := X_at (r := mi196) rfl rfl
theorem x196_11 {z : P0} : X z 196 11 = XI mT z (X z) (.if_icmp .ge 22, 3, 33, 0, 0, [], 0, 0) 196 11 := X_at (r := mi196) rfl rfl
theorem x196_14 {z : P0} : X z 196 14 = XI mT z (X z) (.aload_n 0, 1, 0, 0, 0, [], 0, 0) 196 14 := X_at (r := mi196) rfl rfl
theorem x196_15 {z : P0} : X z 196 15 = XI mT z (X z) (.iconst 1, 1, 0, 0, 0, [], nI 1, 0) 196 15 := X_at (r := mi196) rfl rfl
theorem x196_16 {z : P0} : X z 196 16 = XI mT z (X z) (.iload_n 1, 1, 1, 0, 0, [], 0, 0) 196 16 := X_at (r := mi196) rfl rfl
theorem x196_17 {z : P0} : X z 196 17 = XI mT z (X z) (.iload_n 2, 1, 2, 0, 0, [], 0, 0) 196 17 := X_at (r := mi196) rfl rfl
theorem x196_18 {z : P0} : X z 196 18 = XI mT z (X z) (.iload 4, 2, 4, 0, 0, [], 0, 0) 196 18 := X_at (r := mi196) rfl rfl
theorem x196_20 {z : P0} : X z 196 20 = XI mT z (X z) (.invokestatic 14, 3, 4, 194, 0, [91], 0, 0) 196 20 := X_at (r := mi196) rfl rfl
theorem x196_23 {z : P0} : X z 196 23 = XI mT z (X z) (.invokevirtual 20, 3, 1, 67, 0, [92], 0, 0) 196 23 := X_at (r := mi196) rfl rfl
theorem x196_26 {z : P0} : X z 196 26 = XI mT z (X z) (.pop, 1, 0, 0, 0, [], 0, 0) 196 26 := X_at (r := mi196) rfl rfl
theorem x196_27 {z : P0} : X z 196 27 = XI mT z (X z) (.iinc 4 1, 3, 4, 0, 0, [], nI 1, 0) 196 27 := X_at (r := mi196) rfl rfl
theorem x196_30 {z : P0} : X z 196 30 = XI mT z (X z) (.goto (-22), 3, 8, 0, 0, [], 0, 0) 196 30 := X_at (r := mi196) rfl rfl
theorem x196_33 {z : P0} : X z 196 33 = XI mT z (X z) (.iload_n 3, 1, 3, 0, 0, [], 0, 0) 196 33 := X_at (r := mi196) rfl rfl
theorem x196_34 {z : P0} : X z 196 34 = XI mT z (X z) (.ifCond .eq 10, 3, 44, 0, 0, [], 0, 0) 196 34 := X_at (r := mi196) rfl rfl
theorem x196_37 {z : P0} : X z 196 37 = XI mT z (X z) (.aload_n 0, 1, 0, 0, 0, [], 0, 0) 196 37 := X_at (r := mi196) rfl rfl
theorem x196_38 {z : P0} : X z 196 38 = XI mT z (X z) (.bipush 42, 2, 0, 0, 0, [], nI 42, 0) 196 38 := X_at (r := mi196) rfl rfl
theorem x196_40 {z : P0} : X z 196 40 = XI mT z (X z) (.invokevirtual 20, 3, 1, 67, 0, [92], 0, 0) 196 40 := X_at (r := mi196) rfl rfl
theorem x196_43 {z : P0} : X z 196 43 = XI mT z (X z) (.pop, 1, 0, 0, 0, [], 0, 0) 196 43 := X_at (r := mi196) rfl rfl
theorem x196_44 {z : P0} : X z 196 44 = XI mT z (X z) (.aload_n 0, 1, 0, 0, 0, [], 0, 0) 196 44 := X_at (r := mi196) rfl rfl
theorem x196_45 {z : P0} : X z 196 45 = XI mT z (X z) (.iconst 1, 1, 0, 0, 0, [], nI 1, 0) 196 45 := X_at (r := mi196) rfl rfl
theorem x196_46 {z : P0} : X z 196 46 = XI mT z (X z) (.invokevirtual 24, 3, 1, 69, 0, [93], 0, 0) 196 46 := X_at (r := mi196) rfl rfl
theorem x196_49 {z : P0} : X z 196 49 = XI mT z (X z) (.iload_n 2, 1, 2, 0, 0, [], 0, 0) 196 49 := X_at (r := mi196) rfl rfl
theorem x196_50 {z : P0} : X z 196 50 = XI mT z (X z) (.iload_n 3, 1, 3, 0, 0, [], 0, 0) 196 50 := X_at (r := mi196) rfl rfl
theorem x196_51 {z : P0} : X z 196 51 = XI mT z (X z) (.ifCond .eq 7, 3, 58, 0, 0, [], 0, 0) 196 51 := X_at (r := mi196) rfl rfl
theorem x196_54 {z : P0} : X z 196 54 = XI mT z (X z) (.iconst 1, 1, 0, 0, 0, [], nI 1, 0) 196 54 := X_at (r := mi196) rfl rfl
theorem x196_55 {z : P0} : X z 196 55 = XI mT z (X z) (.goto 4, 3, 59, 0, 0, [], 0, 0) 196 55 := X_at (r := mi196) rfl rfl
theorem x196_58 {z : P0} : X z 196 58 = XI mT z (X z) (.iconst 0, 1, 0, 0, 0, [], nI 0, 0) 196 58 := X_at (r := mi196) rfl rfl
theorem x196_59 {z : P0} : X z 196 59 = XI mT z (X z) (.iadd, 1, 0, 0, 0, [], 0, 0) 196 59 := X_at (r := mi196) rfl rfl
theorem x196_60 {z : P0} : X z 196 60 = XI mT z (X z) (.if_icmp .ne 22, 3, 82, 0, 0, [], 0, 0) 196 60 := X_at (r := mi196) rfl rfl
theorem x196_63 {z : P0} : X z 196 63 = XI mT z (X z) (.aload_n 0, 1, 0, 0, 0, [], 0, 0) 196 63 := X_at (r := mi196) rfl rfl
theorem x196_64 {z : P0} : X z 196 64 = XI mT z (X z) (.invokevirtual 31, 3, 0, 59, 0, [95], 0, 0) 196 64 := X_at (r := mi196) rfl rfl
theorem x196_67 {z : P0} : X z 196 67 = XI mT z (X z) (.iload_n 1, 1, 1, 0, 0, [], 0, 0) 196 67 := X_at (r := mi196) rfl rfl
theorem x196_68 {z : P0} : X z 196 68 = XI mT z (X z) (.if_icmp .ne 14, 3, 82, 0, 0, [], 0, 0) 196 68 := X_at (r := mi196) rfl rfl
theorem x196_71 {z : P0} : X z 196 71 = XI mT z (X z) (.aload_n 0, 1, 0, 0, 0, [], 0, 0) 196 71 := X_at (r := mi196) rfl rfl
theorem x196_72 {z : P0} : X z 196 72 = XI mT z (X z) (.invokevirtual 8, 3, 0, 68, 0, [90], 0, 0) 196 72 := X_at (r := mi196) rfl rfl
theorem x196_75 {z : P0} : X z 196 75 = XI mT z (X z) (.ifCond .ne 7, 3, 82, 0, 0, [], 0, 0) 196 75 := X_at (r := mi196) rfl rfl
theorem x196_78 {z : P0} : X z 196 78 = XI mT z (X z) (.iconst 1, 1, 0, 0, 0, [], nI 1, 0) 196 78 := X_at (r := mi196) rfl rfl
theorem x196_79 {z : P0} : X z 196 79 = XI mT z (X z) (.goto 4, 3, 83, 0, 0, [], 0, 0) 196 79 := X_at (r := mi196) rfl rfl
theorem x196_82 {z : P0} : X z 196 82 = XI mT z (X z) (.iconst 0, 1, 0, 0, 0, [], nI 0, 0) 196 82 := X_at (r := mi196) rfl rfl
theorem x196_83 {z : P0} : X z 196 83 = XI mT z (X z) (.ireturn, 1, 0, 0, 0, [], 0, 0) 196 83 := X_at (r := mi196) rfl rfl
set_option maxRecDepth 20000 in
theorem x197_0 {z : P0} : X z 197 0 = XI mT z (X z) (.aload_n 0, 1, 0, 0, 0, [], 0, 0) 197 0 := X_at (r := mi197) rfl rfl
set_option maxRecDepth 20000 in
theorem x197_1 {z : P0} : X z 197 1 = XI mT z (X z) (.invokevirtual 8, 3, 0, 68, 0, [90], 0, 0) 197 1 := X_at (r := mi197) rfl rfl
set_option maxRecDepth 20000 in
theorem x197_4 {z : P0} : X z 197 4 = XI mT z (X z) (.pop, 1, 0, 0, 0, [], 0, 0) 197 4 := X_at (r := mi197) rfl rfl
set_option maxRecDepth 20000 in
theorem x197_5 {z : P0} : X z 197 5 = XI mT z (X z) (.iconst 0, 1, 0, 0, 0, [], nI 0, 0) 197 5 := X_at (r := mi197) rfl rfl
set_option maxRecDepth 20000 in
theorem x197_6 {z : P0} : X z 197 6 = XI mT z (X z) (.istore 4, 2, 4, 0, 0, [], 0, 0) 197 6 := X_at (r := mi197) rfl rfl
set_option maxRecDepth 20000 in
theorem x197_8 {z : P0} : X z 197 8 = XI mT z (X z) (.iconst 0, 1, 0, 0, 0, [], nI 0, 0) 197 8 := X_at (r := mi197) rfl rfl
set_option maxRecDepth 20000 in
theorem x197_9 {z : P0} : X z 197 9 = XI mT z (X z) (.istore 5, 2, 5, 0, 0, [], 0, 0) 197 9 := X_at (r := mi197) rfl rfl
set_option maxRecDepth 20000 in
theorem x197_11 {z : P0} : X z 197 11 = XI mT z (X z) (.iconst 0, 1, 0, 0, 0, [], nI 0, 0) 197 11 := X_at (r := mi197) rfl rfl
set_option maxRecDepth 20000 in
theorem x197_12 {z : P0} : X z 197 12 = XI mT z (X z) (.istore 6, 2, 6, 0, 0, [], 0, 0) 197 12 := X_at (r := mi197) rfl rfl
set_option maxRecDepth 20000 in
theorem x197_14 {z : P0} : X z 197 14 = XI mT z (X z) (.iconst 3, 1, 0, 0, 0, [], nI 3, 0) 197 14 := X_at (r := mi197) rfl rfl
set_option maxRecDepth 20000 in
theorem x197_15 {z : P0} : X z 197 15 = XI mT z (X z) (.iload_n 1, 1, 1, 0, 0, [], 0, 0) 197 15 := X_at (r := mi197) rfl rfl
set_option maxRecDepth 20000 in
theorem x197_16 {z : P0} : X z 197 16 = XI mT z (X z) (.bipush 12, 2, 0, 0, 0, [], nI 12, 0) 197 16 := X_at (r := mi197) rfl rfl
set_option maxRecDepth 20000 in
theorem x197_18 {z : P0} : X z 197 18 = XI mT z (X z) (.invokestatic 34, 3, 2, 193, 0, [96], 0, 0) 197 18 := X_at (r := mi197) rfl rfl
set_option maxRecDepth 20000 in
theorem x197_21 {z : P0} : X z 197 21 = XI mT z (X z) (.iadd, 1, 0, 0, 0, [], 0, 0) 197 21 := X_at (r := mi197) rfl rfl
set_option maxRecDepth 20000 in
theorem x197_22 {z : P0} : X z 197 22 = XI mT z (X z) (.istore 7, 2, 7, 0, 0, [], 0, 0) 197 22 := X_at (r := mi197) rfl rfl
set_option maxRecDepth 20000 in
theorem x197_24 {z : P0} : X z 197 24 = XI mT z (X z) (.iconst 0, 1, 0, 0, 0, [], nI 0, 0) 197 24 := X_at (r := mi197) rfl rfl
set_option maxRecDepth 20000 in
theorem x197_25 {z : P0} : X z 197 25 = XI mT z (X z) (.istore 8, 2, 8, 0, 0, [], 0, 0) 197 25 := X_at (r := mi197) rfl rfl
set_option maxRecDepth 20000 in
theorem x197_27 {z : P0} : X z 197 27 = XI mT z (X z) (.iload 8, 2, 8, 0, 0, [], 0, 0) 197 27 := X_at (r := mi197) rfl rfl
set_option maxRecDepth 20000 in
theorem x197_29 {z : P0} : X z 197 29 = XI mT z (X z) (.iload 7, 2, 7, 0, 0, [], 0, 0) 197 29 := X_at (r := mi197) rfl rfl
set_option maxRecDepth 20000 in
theorem x197_31 {z : P0} : X z 197 31 = XI mT z (X z) (.if_icmp .ge 284, 3, 315, 0, 0, [], 0, 0) 197 31 := X_at (r := mi197) rfl rfl
set_option maxRecDepth 20000 in
theorem x197_34 {z : P0} : X z 197 34 = XI mT z (X z) (.iload_n 2, 1, 2, 0, 0, [], 0, 0) 197 34 := X_at (r := mi197) rfl rfl
set_option maxRecDepth 20000 in
theorem x197_35 {z : P0} : X z 197 35 = XI mT z (X z) (.iload 8, 2, 8, 0, 0, [], 0, 0) 197 35 := X_at (r := mi197) rfl rfl
set_option maxRecDepth 20000 in
theorem x197_37 {z : P0} : X z 197 37 = XI mT z (X z) (.ishr, 1, 0, 0, 0, [], 0, 0) 197 37 := X_at (r := mi197) rfl rfl
set_option maxRecDepth 20000 in
theorem x197_38 {z : P0} : X z 197 38 = XI mT z (X z) (.bipush 16, 2, 0, 0, 0, [], nI 16, 0) 197 38 := X_at (r := mi197) rfl rfl
set_option maxRecDepth 20000 in
theorem x197_40 {z : P0} : X z 197 40 = XI mT z (X z) (.invokestatic 34, 3, 2, 193, 0, [96], 0, 0) 197 40 := X_at (r := mi197) rfl rfl
set_option maxRecDepth 20000 in
theorem x197_43 {z : P0} : X z 197 43 = XI mT z (X z) (.istore 9, 2, 9, 0, 0, [], 0, 0) 197 43 := X_at (r := mi197) rfl rfl
set_option maxRecDepth 20000 in
theorem x197_45 {z : P0} : X z 197 45 = XI mT z (X z) (.iload 9, 2, 9, 0, 0, [], 0, 0) 197 45 := X_at (r := mi197) rfl rfl
set_option maxRecDepth 20000 in
theorem x197_47 {z : P0} : X z 197 47 = XI mT z (X z) (.iconst 4, 1, 0, 0, 0, [], nI 4, 0) 197 47 := X_at (r := mi197) rfl rfl
set_option maxRecDepth 20000 in
theorem x197_48 {z : P0} : X z 197 48 = XI mT z (X z) (.if_icmp .ge 8, 3, 56, 0, 0, [], 0, 0) 197 48 := X_at (r := mi197) rfl rfl
set_option maxRecDepth 20000 in
theorem x197_51 {z : P0} : X z 197 51 = XI mT z (X z) (.bipush 95, 2, 0, 0, 0, [], nI 95, 0) 197 51 := X_at (r := mi197) rfl rfl
set_option maxRecDepth 20000 in
theorem x197_53 {z : P0} : X z 197 53 = XI mT z (X z) (.goto 159, 3, 212, 0, 0, [], 0, 0) 197 53 := X_at (r := mi197) rfl rfl
set_option maxRecDepth 20000 in
theorem x197_56 {z : P0} : X z 197 56 = XI mT z (X z) (.iload 9, 2, 9, 0, 0, [], 0, 0) 197 56 := X_at (r := mi197) rfl rfl
set_option maxRecDepth 20000 in
theorem x197_58 {z : P0} : X z 197 58 = XI mT z (X z) (.bipush 6, 2, 0, 0, 0, [], nI 6, 0) 197 58 := X_at (r := mi197) rfl rfl
set_option maxRecDepth 20000 in
theorem x197_60 {z : P0} : X z 197 60 = XI mT z (X z) (.if_icmp .ge 18, 3, 78, 0, 0, [], 0, 0) 197 60 := X_at (r := mi197) rfl rfl
set_option maxRecDepth 20000 in
theorem x197_63 {z : P0} : X z 197 63 = XI mT z (X z) (.bipush 98, 2, 0, 0, 0, [], nI 98, 0) 197 63 := X_at (r := mi197) rfl rfl
set_option maxRecDepth 20000 in
theorem x197_65 {z : P0} : X z 197 65 = XI mT z (X z) (.iload_n 1, 1, 1, 0, 0, [], 0, 0) 197 65 := X_at (r := mi197) rfl rfl
set_option maxRecDepth 20000 in
theorem x197_66 {z : P0} : X z 197 66 = XI mT z (X z) (.iload 8, 2, 8, 0, 0, [], 0, 0) 197 66 := X_at (r := mi197) rfl rfl
set_option maxRecDepth 20000 in
theorem x197_68 {z : P0} : X z 197 68 = XI mT z (X z) (.ishr, 1, 0, 0, 0, [], 0, 0) 197 68 := X_at (r := mi197) rfl rfl
set_option maxRecDepth 20000 in
theorem x197_69 {z : P0} : X z 197 69 = XI mT z (X z) (.bipush 20, 2, 0, 0, 0, [], nI 20, 0) 197 69 := X_at (r := mi197) rfl rfl
set_option maxRecDepth 20000 in
theorem x197_71 {z : P0} : X z 197 71 = XI mT z (X z) (.invokestatic 34, 3, 2, 193, 0, [96], 0, 0) 197 71 := X_at (r := mi197) rfl rfl
set_option maxRecDepth 20000 in
theorem x197_74 {z : P0} : X z 197 74 = XI mT z (X z) (.iadd, 1, 0, 0, 0, [], 0, 0) 197 74 := X_at (r := mi197) rfl rfl
set_option maxRecDepth 20000 in
theorem x197_75 {z : P0} : X z 197 75 = XI mT z (X z) (.goto 137, 3, 212, 0, 0, [], 0, 0) 197 75 := X_at (r := mi197) rfl rfl
set_option maxRecDepth 20000 in
theorem x197_78 {z : P0} : X z 197 78 = XI mT z (X z) (.iload 9, 2, 9, 0, 0, [], 0, 0) 197 78 := X_at (r := mi197) rfl rfl
set_option maxRecDepth 20000 in
theorem x197_80 {z : P0} : X z 197 80 = XI mT z (X z) (.bipush 6, 2, 0, 0, 0, [], nI 6, 0) 197 80 := X_at (r := mi197) rfl rfl
set_option maxRecDepth 20000 in
theorem x197_82 {z : P0} : X z 197 82 = XI mT z (X z) (.if_icmp .ne 8, 3, 90, 0, 0, [], 0, 0) 197 82 := X_at (r := mi197) rfl rfl
set_option maxRecDepth 20000 in
theorem x197_85 {z : P0} : X z 197 85 = XI mT z (X z) (.bipush 47, 2, 0, 0, 0, [], nI 47, 0) 197 85 := X_at (r := mi197) rfl rfl
set_option maxRecDepth 20000 in
theorem x197_87 {z : P0} : X z 197 87 = XI mT z (X z) (.goto 125, 3, 212, 0, 0, [], 0, 0) 197 87 := X_at (r := mi197) rfl rfl
set_option maxRecDepth 20000 in
theorem x197_90 {z : P0} : X z 197 90 = XI mT z (X z) (.iload 9, 2, 9, 0, 0, [], 0, 0) 197 90 := X_at (r := mi197) rfl rfl
set_option maxRecDepth 20000 in
theorem x197_92 {z : P0} : X z 197 92 = XI mT z (X z) (.bipush 7, 2, 0, 0, 0, [], nI 7, 0) 197 92 := X_at (r := mi197) rfl rfl
set_option maxRecDepth 20000 in
theorem x197_94 {z : P0} : X z 197 94 = XI mT z (X z) (.if_icmp .ne 8, 3, 102, 0, 0, [], 0, 0) 197 94 := X_at (r := mi197) rfl rfl
set_option maxRecDepth 20000 in
theorem x197_97 {z : P0} : X z 197 97 = XI mT z (X z) (.bipush 124, 2, 0, 0, 0, [], nI 124, 0) 197 97 := X_at (r := mi197) rfl rfl
set_option maxRecDepth 20000 in
theorem x197_99 {z : P0} : X z 197 99 = XI mT z (X z) (.goto 113, 3, 212, 0, 0, [], 0, 0) 197 99 := X_at (r := mi197) rfl rfl
set_option maxRecDepth 20000 in
theorem x197_102 {z : P0} : X z 197 102 = XI mT z (X z) (.iload 9, 2, 9, 0, 0, [], 0, 0) 197 102 := X_at (r := mi197) rfl rfl
set_option maxRecDepth 20000 in
theorem x197_104 {z : P0} : X z 197 104 = XI mT z (X z) (.bipush 8, 2, 0, 0, 0, [], nI 8, 0) 197 104 := X_at (r := mi197) rfl rfl
set_option maxRecDepth 20000 in
theorem x197_106 {z : P0} : X z 197 106 = XI mT z (X z) (.if_icmp .ne 8, 3, 114, 0, 0, [], 0, 0) 197 106 := X_at (r := mi197) rfl rfl
set_option maxRecDepth 20000 in
theorem x197_109 {z : P0} : X z 197 109 = XI mT z (X z) (.bipush 44, 2, 0, 0, 0, [], nI 44, 0) 197 109 := X_at (r := mi197) rfl rfl
set_option maxRecDepth 20000 in
theorem x197_111 {z : P0} : X z 197 111 = XI mT z (X z) (.goto 101, 3, 212, 0, 0, [], 0, 0) 197 111 := X_at (r := mi197) rfl rfl
set_option maxRecDepth 20000 in
theorem x197_114 {z : P0} : X z 197 114 = XI mT z (X z) (.iload 9, 2, 9, 0, 0, [], 0, 0) 197 114 := X_at (r := mi197) rfl rfl
set_option maxRecDepth 20000 in
theorem x197_116 {z : P0} : X z 197 116 = XI mT z (X z) (.bipush 9, 2, 0, 0, 0, [], nI 9, 0) 197 116 := X_at (r := mi197) rfl rfl
set_option maxRecDepth 20000 in
theorem x197_118 {z : P0} : X z 197 118 = XI mT z (X z) (.if_icmp .ne 8, 3, 126, 0, 0, [], 0, 0) 197 118 := X_at (r := mi197) rfl rfl
set_option maxRecDepth 20000 in
theorem x197_121 {z : P0} : X z 197 121 = XI mT z (X z) (.bipush 46, 2, 0, 0, 0, [], nI 46, 0) 197 121 := X_at (r := mi197) rfl rfl
set_option maxRecDepth 20000 in
theorem x197_123 {z : P0} : X z 197 123 = XI mT z (X z) (.goto 89, 3, 212, 0, 0, [], 0, 0) 197 123 := X_at (r := mi197) rfl rfl
set_option maxRecDepth 20000 in
theorem x197_126 {z : P0} : X z 197 126 = XI mT z (X z) (.iload 9, 2, 9, 0, 0, [], 0, 0) 197 126 := X_at (r := mi197) rfl rfl
set_option maxRecDepth 20000 in
theorem x197_128 {z : P0} : X z 197 128 = XI mT z (X z) (.bipush 14, 2, 0, 0, 0, [], nI 14, 0) 197 128 := X_at (r := mi197) rfl rfl
set_option maxRecDepth 20000 in
theorem x197_130 {z : P0} : X z 197 130 = XI mT z (X z) (.if_icmp .ge 48, 3, 178, 0, 0, [], 0, 0) 197 130 := X_at (r := mi197) rfl rfl
set_option maxRecDepth 20000 in
theorem x197_133 {z : P0} : X z 197 133 = XI mT z (X z) (.sipush 256, 3, 0, 0, 0, [], nI 256, 0) 197 133 := X_at (r := mi197) rfl rfl
set_option maxRecDepth 20000 in
theorem x197_136 {z : P0} : X z 197 136 = XI mT z (X z) (.iload 9, 2, 9, 0, 0, [], 0, 0) 197 136 := X_at (r := mi197) rfl rfl
set_option maxRecDepth 20000 in
theorem x197_138 {z : P0} : X z 197 138 = XI mT z (X z) (.bipush 10, 2, 0, 0, 0, [], nI 10, 0) 197 138 := X_at (r := mi197) rfl rfl
set_option maxRecDepth 20000 in
theorem x197_140 {z : P0} : X z 197 140 = XI mT z (X z) (.if_icmp .ne 8, 3, 148, 0, 0, [], 0, 0) 197 140 := X_at (r := mi197) rfl rfl
set_option maxRecDepth 20000 in
theorem x197_143 {z : P0} : X z 197 143 = XI mT z (X z) (.bipush 110, 2, 0, 0, 0, [], nI 110, 0) 197 143 := X_at (r := mi197) rfl rfl
set_option maxRecDepth 20000 in
theorem x197_145 {z : P0} : X z 197 145 = XI mT z (X z) (.goto 29, 3, 174, 0, 0, [], 0, 0) 197 145 := X_at (r := mi197) rfl rfl
set_option maxRecDepth 20000 in
theorem x197_148 {z : P0} : X z 197 148 = XI mT z (X z) (.iload 9, 2, 9, 0, 0, [], 0, 0) 197 148 := X_at (r := mi197) rfl rfl
set_option maxRecDepth 20000 in
theorem x197_150 {z : P0} : X z 197 150 = XI mT z (X z) (.bipush 11, 2, 0, 0, 0, [], nI 11, 0) 197 150 := X_at (r := mi197) rfl rfl
set_option maxRecDepth 20000 in
theorem x197_152 {z : P0} : X z 197 152 = XI mT z (X z) (.if_icmp .ne 8, 3, 160, 0, 0, [], 0, 0) 197 152 := X_at (r := mi197) rfl rfl
set_option maxRecDepth 20000 in
theorem x197_155 {z : P0} : X z 197 155 = XI mT z (X z) (.bipush 103, 2, 0, 0, 0, [], nI 103, 0) 197 155 := X_at (r := mi197) rfl rfl
set_option maxRecDepth 20000 in
theorem x197_157 {z : P0} : X z 197 157 = XI mT z (X z) (.goto 17, 3, 174, 0, 0, [], 0, 0) 197 157 := X_at (r := mi197) rfl rfl
set_option maxRecDepth 20000 in
theorem x197_160 {z : P0} : X z 197 160 = XI mT z (X z) (.iload 9, 2, 9, 0, 0, [], 0, 0) 197 160 := X_at (r := mi197) rfl rfl
set_option maxRecDepth 20000 in
theorem x197_162 {z : P0} : X z 197 162 = XI mT z (X z) (.bipush 12, 2, 0, 0, 0, [], nI 12, 0) 197 162 := X_at (r := mi197) rfl rfl
set_option maxRecDepth 20000 in
theorem x197_164 {z : P0} : X z 197 164 = XI mT z (X z) (.if_icmp .ne 8, 3, 172, 0, 0, [], 0, 0) 197 164 := X_at (r := mi197) rfl rfl
set_option maxRecDepth 20000 in
theorem x197_167 {z : P0} : X z 197 167 = XI mT z (X z) (.bipush 119, 2, 0, 0, 0, [], nI 119, 0) 197 167 := X_at (r := mi197) rfl rfl
set_option maxRecDepth 20000 in
theorem x197_169 {z : P0} : X z 197 169 = XI mT z (X z) (.goto 5, 3, 174, 0, 0, [], 0, 0) 197 169 := X_at (r := mi197) rfl rfl
set_option maxRecDepth 20000 in
theorem x197_172 {z : P0} : X z 197 172 = XI mT z (X z) (.bipush 99, 2, 0, 0, 0, [], nI 99, 0) 197 172 := X_at (r := mi197) rfl rfl
set_option maxRecDepth 20000 in
theorem x197_174 {z : P0} : X z 197 174 = XI mT z (X z) (.iadd, 1, 0, 0, 0, [], 0, 0) 197 174 := X_at (r := mi197) rfl rfl
set_option maxRecDepth 20000 in
theorem x197_175 {z : P0} : X z 197 175 = XI mT z (X z) (.goto 37, 3, 212, 0, 0, [], 0, 0) 197 175 := X_at (r := mi197) rfl rfl
set_option maxRecDepth 20000 in
theorem x197_178 {z : P0} : X z 197 178 = XI mT z (X z) (.iload 9, 2, 9, 0, 0, [], 0, 0) 197 178 := X_at (r := mi197) rfl rfl
set_option maxRecDepth 20000 in
theorem x197_180 {z : P0} : X z 197 180 = XI mT z (X z) (.bipush 14, 2, 0, 0, 0, [], nI 14, 0) 197 180 := X_at (r := mi197) rfl rfl
set_option maxRecDepth 20000 in
theorem x197_182 {z : P0} : X z 197 182 = XI mT z (X z) (.if_icmp .ne 13, 3, 195, 0, 0, [], 0, 0) 197 182 := X_at (r := mi197) rfl rfl
set_option maxRecDepth 20000 in
theorem x197_185 {z : P0} : X z 197 185 = XI mT z (X z) (.iload 5, 2, 5, 0, 0, [], 0, 0) 197 185 := X_at (r := mi197) rfl rfl
set_option maxRecDepth 20000 in
theorem x197_187 {z : P0} : X z 197 187 = XI mT z (X z) (.ifCond .ne 8, 3, 195, 0, 0, [], 0, 0) 197 187 := X_at (r := mi197) rfl rfl
set_option maxRecDepth 20000 in
theorem x197_190 {z : P0} : X z 197 190 = XI mT z (X z) (.bipush 123, 2, 0, 0, 0, [], nI 123, 0) 197 190 := X_at (r := mi197) rfl rfl
set_option maxRecDepth 20000 in
theorem x197_192 {z : P0} : X z 197 192 = XI mT z (X z) (.goto 20, 3, 212, 0, 0, [], 0, 0) 197 192 := X_at (r := mi197) rfl rfl
set_option maxRecDepth 20000 in
theorem x197_195 {z : P0} : X z 197 195 = XI mT z (X z) (.iload 5, 2, 5, 0, 0, [], 0, 0) 197 195 := X_at (r := mi197) rfl rfl
set_option maxRecDepth 20000 in
theorem x197_197 {z : P0} : X z 197 197 = XI mT z (X z) (.ifCond .eq 13, 3, 210, 0, 0, [], 0, 0) 197 197 := X_at (r := mi197) rfl rfl
set_option maxRecDepth 20000 in
theorem x197_200 {z : P0} : X z 197 200 = XI mT z (X z) (.iload 6, 2, 6, 0, 0, [], 0, 0) 197 200 := X_at (r := mi197) rfl rfl
set_option maxRecDepth 20000 in
theorem x197_202 {z : P0} : X z 197 202 = XI mT z (X z) (.ifCond .le 8, 3, 210, 0, 0, [], 0, 0) 197 202 := X_at (r := mi197) rfl rfl
set_option maxRecDepth 20000 in
theorem x197_205 {z : P0} : X z 197 205 = XI mT z (X z) (.bipush 125, 2, 0, 0, 0, [], nI 125, 0) 197 205 := X_at (r := mi197) rfl rfl
set_option maxRecDepth 20000 in
theorem x197_207 {z : P0} : X z 197 207 = XI mT z (X z) (.goto 5, 3, 212, 0, 0, [], 0, 0) 197 207 := X_at (r := mi197) rfl rfl
set_option maxRecDepth 20000 in
theorem x197_210 {z : P0} : X z 197 210 = XI mT z (X z) (.bipush 95, 2, 0, 0, 0, [], nI 95, 0) 197 210 := X_at (r := mi197) rfl rfl
set_option maxRecDepth 20000 in
theorem x197_212 {z : P0} : X z 197 212 = XI mT z (X z) (.istore 10, 2, 10, 0, 0, [], 0, 0) 197 212 := X_at (r := mi197) rfl rfl
set_option maxRecDepth 20000 in
theorem x197_214 {z : P0} : X z 197 214 = XI mT z (X z) (.iload 10, 2, 10, 0, 0, [], 0, 0) 197 214 := X_at (r := mi197) rfl rfl
set_option maxRecDepth 20000 in
theorem x197_216 {z : P0} : X z 197 216 = XI mT z (X z) (.sipush 255, 3, 0, 0, 0, [], nI 255, 0) 197 216 := X_at (r := mi197) rfl rfl
set_option maxRecDepth 20000 in
theorem x197_219 {z : P0} : X z 197 219 = XI mT z (X z) (.if_icmp .le 31, 3, 250, 0, 0, [], 0, 0) 197 219 := X_at (r := mi197) rfl rfl
set_option maxRecDepth 20000 in
theorem x197_222 {z : P0} : X z 197 222 = XI mT z (X z) (.aload_n 0, 1, 0, 0, 0, [], 0, 0) 197 222 := X_at (r := mi197) rfl rfl
set_option maxRecDepth 20000 in
theorem x197_223 {z : P0} : X z 197 223 = XI mT z (X z) (.bipush 60, 2, 0, 0, 0, [], nI 60, 0) 197 223 := X_at (r := mi197) rfl rfl
set_option maxRecDepth 20000 in
theorem x197_225 {z : P0} : X z 197 225 = XI mT z (X z) (.invokevirtual 20, 3, 1, 67, 0, [92], 0, 0) 197 225 := X_at (r := mi197) rfl rfl
set_option maxRecDepth 20000 in
theorem x197_228 {z : P0} : X z 197 228 = XI mT z (X z) (.pop, 1, 0, 0, 0, [], 0, 0) 197 228 := X_at (r := mi197) rfl rfl
set_option maxRecDepth 20000 in
theorem x197_229 {z : P0} : X z 197 229 = XI mT z (X z) (.aload_n 0, 1, 0, 0, 0, [], 0, 0) 197 229 := X_at (r := mi197) rfl rfl
set_option maxRecDepth 20000 in
theorem x197_230 {z : P0} : X z 197 230 = XI mT z (X z) (.iload 10, 2, 10, 0, 0, [], 0, 0) 197 230 := X_at (r := mi197) rfl rfl
set_option maxRecDepth 20000 in
theorem x197_232 {z : P0} : X z 197 232 = XI mT z (X z) (.sipush 256, 3, 0, 0, 0, [], nI 256, 0) 197 232 := X_at (r := mi197) rfl rfl
set_option maxRecDepth 20000 in
theorem x197_235 {z : P0} : X z 197 235 = XI mT z (X z) (.isub, 1, 0, 0, 0, [], 0, 0) 197 235 := X_at (r := mi197) rfl rfl
set_option maxRecDepth 20000 in
theorem x197_236 {z : P0} : X z 197 236 = XI mT z (X z) (.invokevirtual 20, 3, 1, 67, 0, [92], 0, 0) 197 236 := X_at (r := mi197) rfl rfl
set_option maxRecDepth 20000 in
theorem x197_239 {z : P0} : X z 197 239 = XI mT z (X z) (.pop, 1, 0, 0, 0, [], 0, 0) 197 239 := X_at (r := mi197) rfl rfl
set_option maxRecDepth 20000 in
theorem x197_240 {z : P0} : X z 197 240 = XI mT z (X z) (.aload_n 0, 1, 0, 0, 0, [], 0, 0) 197 240 := X_at (r := mi197) rfl rfl
set_option maxRecDepth 20000 in
theorem x197_241 {z : P0} : X z 197 241 = XI mT z (X z) (.bipush 62, 2, 0, 0, 0, [], nI 62, 0) 197 241 := X_at (r := mi197) rfl rfl
set_option maxRecDepth 20000 in
theorem x197_243 {z : P0} : X z 197 243 = XI mT z (X z) (.invokevirtual 20, 3, 1, 67, 0, [92], 0, 0) 197 243 := X_at (r := mi197) rfl rfl
set_option maxRecDepth 20000 in
theorem x197_246 {z : P0} : X z 197 246 = XI mT z (X z) (.pop, 1, 0, 0, 0, [], 0, 0) 197 246 := X_at (r := mi197) rfl rfl
set_option maxRecDepth 20000 in
theorem x197_247 {z : P0} : X z 197 247 = XI mT z (X z) (.goto 10, 3, 257, 0, 0, [], 0, 0) 197 247 := X_at (r := mi197) rfl rfl
set_option maxRecDepth 20000 in
theorem x197_250 {z : P0} : X z 197 250 = XI mT z (X z) (.aload_n 0, 1, 0, 0, 0, [], 0, 0) 197 250 := X_at (r := mi197) rfl rfl
set_option maxRecDepth 20000 in
theorem x197_251 {z : P0} : X z 197 251 = XI mT z (X z) (.iload 10, 2, 10, 0, 0, [], 0, 0) 197 251 := X_at (r := mi197) rfl rfl
set_option maxRecDepth 20000 in
theorem x197_253 {z : P0} : X z 197 253 = XI mT z (X z) (.invokevirtual 20, 3, 1, 67, 0, [92], 0, 0) 197 253 := X_at (r := mi197) rfl rfl
set_option maxRecDepth 20000 in
theorem x197_256 {z : P0} : X z 197 256 = XI mT z (X z) (.pop, 1, 0, 0, 0, [], 0, 0) 197 256 := X_at (r := mi197) rfl rfl
set_option maxRecDepth 20000 in
theorem x197_257 {z : P0} : X z 197 257 = XI mT z (X z) (.aload_n 3, 1, 3, 0, 0, [], 0, 0) 197 257 := X_at (r := mi197) rfl rfl
set_option maxRecDepth 20000 in
theorem x197_258 {z : P0} : X z 197 258 = XI mT z (X z) (.iload 4, 2, 4, 0, 0, [], 0, 0) 197 258 := X_at (r := mi197) rfl rfl
set_option maxRecDepth 20000 in
theorem x197_260 {z : P0} : X z 197 260 = XI mT z (X z) (.iload 10, 2, 10, 0, 0, [], 0, 0) 197 260 := X_at (r := mi197) rfl rfl
set_option maxRecDepth 20000 in
theorem x197_262 {z : P0} : X z 197 262 = XI mT z (X z) (.iastore, 1, 0, 0, 0, [], 0, 0) 197 262 := X_at (r := mi197) rfl rfl
set_option maxRecDepth 20000 in
theorem x197_263 {z : P0} : X z 197 263 = XI mT z (X z) (.iinc 4 1, 3, 4, 0, 0, [], nI 1, 0) 197 263 := X_at (r := mi197) rfl rfl
set_option maxRecDepth 20000 in
theorem x197_266 {z : P0} : X z 197 266 = XI mT z (X z) (.iload 10, 2, 10, 0, 0, [], 0, 0) 197 266 := X_at (r := mi197) rfl rfl
set_option maxRecDepth 20000 in
theorem x197_268 {z : P0} : X z 197 268 = XI mT z (X z) (.bipush 123, 2, 0, 0, 0, [], nI 123, 0) 197 268 := X_at (r := mi197) rfl rfl
set_option maxRecDepth 20000 in
theorem x197_270 {z : P0} : X z 197 270 = XI mT z (X z) (.if_icmp .ne 7, 3, 277, 0, 0, [], 0, 0) 197 270 := X_at (r := mi197) rfl rfl
set_option maxRecDepth 20000 in
theorem x197_273 {z : P0} : X z 197 273 = XI mT z (X z) (.iconst 0, 1, 0, 0, 0, [], nI 0, 0) 197 273 := X_at (r := mi197) rfl rfl
set_option maxRecDepth 20000 in
theorem x197_274 {z : P0} : X z 197 274 = XI mT z (X z) (.goto 7, 3, 281, 0, 0, [], 0, 0) 197 274 := X_at (r := mi197) rfl rfl
set_option maxRecDepth 20000 in
theorem x197_277 {z : P0} : X z 197 277 = XI mT z (X z) (.iload 6, 2, 6, 0, 0, [], 0, 0) 197 277 := X_at (r := mi197) rfl rfl
set_option maxRecDepth 20000 in
theorem x197_279 {z : P0} : X z 197 279 = XI mT z (X z) (.iconst 1, 1, 0, 0, 0, [], nI 1, 0) 197 279 := X_at (r := mi197) rfl rfl
set_option maxRecDepth 20000 in
theorem x197_280 {z : P0} : X z 197 280 = XI mT z (X z) (.iadd, 1, 0, 0, 0, [], 0, 0) 197 280 := X_at (r := mi197) rfl rfl
set_option maxRecDepth 20000 in
theorem x197_281 {z : P0} : X z 197 281 = XI mT z (X z) (.istore 6, 2, 6, 0, 0, [], 0, 0) 197 281 := X_at (r := mi197) rfl rfl
set_option maxRecDepth 20000 in
theorem x197_283 {z : P0} : X z 197 283 = XI mT z (X z) (.iload 10, 2, 10, 0, 0, [], 0, 0) 197 283 := X_at (r := mi197) rfl rfl
set_option maxRecDepth 20000 in
theorem x197_285 {z : P0} : X z 197 285 = XI mT z (X z) (.bipush 123, 2, 0, 0, 0, [], nI 123, 0) 197 285 := X_at (r := mi197) rfl rfl
set_option maxRecDepth 20000 in
theorem x197_287 {z : P0} : X z 197 287 = XI mT z (X z) (.if_icmp .eq 15, 3, 302, 0, 0, [], 0, 0) 197 287 := X_at (r := mi197) rfl rfl
set_option maxRecDepth 20000 in
theorem x197_290 {z : P0} : X z 197 290 = XI mT z (X z) (.iload 5, 2, 5, 0, 0, [], 0, 0) 197 290 := X_at (r := mi197) rfl rfl
set_option maxRecDepth 20000 in
theorem x197_292 {z : P0} : X z 197 292 = XI mT z (X z) (.ifCond .eq 14, 3, 306, 0, 0, [], 0, 0) 197 292 := X_at (r := mi197) rfl rfl
set_option maxRecDepth 20000 in
theorem x197_295 {z : P0} : X z 197 295 = XI mT z (X z) (.iload 10, 2, 10, 0, 0, [], 0, 0) 197 295 := X_at (r := mi197) rfl rfl
set_option maxRecDepth 20000 in
theorem x197_297 {z : P0} : X z 197 297 = XI mT z (X z) (.bipush 125, 2, 0, 0, 0, [], nI 125, 0) 197 297 := X_at (r := mi197) rfl rfl
set_option maxRecDepth 20000 in
theorem x197_299 {z : P0} : X z 197 299 = XI mT z (X z) (.if_icmp .eq 7, 3, 306, 0, 0, [], 0, 0) 197 299 := X_at (r := mi197) rfl rfl
set_option maxRecDepth 20000 in
theorem x197_302 {z : P0} : X z 197 302 = XI mT z (X z) (.iconst 1, 1, 0, 0, 0, [], nI 1, 0) 197 302 := X_at (r := mi197) rfl rfl
set_option maxRecDepth 20000 in
theorem x197_303 {z : P0} : X z 197 303 = XI mT z (X z) (.goto 4, 3, 307, 0, 0, [], 0, 0) 197 303 := X_at (r := mi197) rfl rfl
set_option maxRecDepth 20000 in
theorem x197_306 {z : P0} : X z 197 306 = XI mT z (X z) (.iconst 0, 1, 0, 0, 0, [], nI 0, 0) 197 306 := X_at (r := mi197) rfl rfl
set_option maxRecDepth 20000 in
theorem x197_307 {z : P0} : X z 197 307 = XI mT z (X z) (.istore 5, 2, 5, 0, 0, [], 0, 0) 197 307 := X_at (r := mi197) rfl rfl
set_option maxRecDepth 20000 in
theorem x197_309 {z : P0} : X z 197 309 = XI mT z (X z) (.iinc 8 1, 3, 8, 0, 0, [], nI 1, 0) 197 309 := X_at (r := mi197) rfl rfl
set_option maxRecDepth 20000 in
theorem x197_312 {z : P0} : X z 197 312 = XI mT z (X z) (.goto (-285), 3, 27, 0, 0, [], 0, 0) 197 312 := X_at (r := mi197) rfl rfl
set_option maxRecDepth 20000 in
theorem x197_315 {z : P0} : X z 197 315 = XI mT z (X z) (.iload 5, 2, 5, 0, 0, [], 0, 0) 197 315 := X_at (r := mi197) rfl rfl
set_option maxRecDepth 20000 in
theorem x197_317 {z : P0} : X z 197 317 = XI mT z (X z) (.ifCond .eq 24, 3, 341, 0, 0, [], 0, 0) 197 317 := X_at (r := mi197) rfl rfl
set_option maxRecDepth 20000 in
theorem x197_320 {z : P0} : X z 197 320 = XI mT z (X z) (.iload 6, 2, 6, 0, 0, [], 0, 0) 197 320 := X_at (r := mi197) rfl rfl
set_option maxRecDepth 20000 in
theorem x197_322 {z : P0} : X z 197 322 = XI mT z (X z) (.ifCond .ne 19, 3, 341, 0, 0, [], 0, 0) 197 322 := X_at (r := mi197) rfl rfl
set_option maxRecDepth 20000 in
theorem x197_325 {z : P0} : X z 197 325 = XI mT z (X z) (.aload_n 0, 1, 0, 0, 0, [], 0, 0) 197 325 := X_at (r := mi197) rfl rfl
set_option maxRecDepth 20000 in
theorem x197_326 {z : P0} : X z 197 326 = XI mT z (X z) (.bipush 120, 2, 0, 0, 0, [], nI 120, 0) 197 326 := X_at (r := mi197) rfl rfl
set_option maxRecDepth 20000 in
theorem x197_328 {z : P0} : X z 197 328 = XI mT z (X z) (.invokevirtual 20, 3, 1, 67, 0, [92], 0, 0) 197 328 := X_at (r := mi197) rfl rfl
set_option maxRecDepth 20000 in
theorem x197_331 {z : P0} : X z 197 331 = XI mT z (X z) (.pop, 1, 0, 0, 0, [], 0, 0) 197 331 := X_at (r := mi197) rfl rfl
set_option maxRecDepth 20000 in
theorem x197_332 {z : P0} : X z 197 332 = XI mT z (X z) (.aload_n 3, 1, 3, 0, 0, [], 0, 0) 197 332 := X_at (r := mi197) rfl rfl
set_option maxRecDepth 20000 in
theorem x197_333 {z : P0} : X z 197 333 = XI mT z (X z) (.iload 4, 2, 4, 0, 0, [], 0, 0) 197 333 := X_at (r := mi197) rfl rfl
set_option maxRecDepth 20000 in
theorem x197_335 {z : P0} : X z 197 335 = XI mT z (X z) (.bipush 120, 2, 0, 0, 0, [], nI 120, 0) 197 335 := X_at (r := mi197) rfl rfl
set_option maxRecDepth 20000 in
theorem x197_337 {z : P0} : X z 197 337 = XI mT z (X z) (.iastore, 1, 0, 0, 0, [], 0, 0) 197 337 := X_at (r := mi197) rfl rfl
set_option maxRecDepth 20000 in
theorem x197_338 {z : P0} : X z 197 338 = XI mT z (X z) (.iinc 4 1, 3, 4, 0, 0, [], nI 1, 0) 197 338 := X_at (r := mi197) rfl rfl
set_option maxRecDepth 20000 in
theorem x197_341 {z : P0} : X z 197 341 = XI mT z (X z) (.iload 5, 2, 5, 0, 0, [], 0, 0) 197 341 := X_at (r := mi197) rfl rfl
set_option maxRecDepth 20000 in
theorem x197_343 {z : P0} : X z 197 343 = XI mT z (X z) (.ifCond .eq 19, 3, 362, 0, 0, [], 0, 0) 197 343 := X_at (r := mi197) rfl rfl
set_option maxRecDepth 20000 in
theorem x197_346 {z : P0} : X z 197 346 = XI mT z (X z) (.aload_n 0, 1, 0, 0, 0, [], 0, 0) 197 346 := X_at (r := mi197) rfl rfl
set_option maxRecDepth 20000 in
theorem x197_347 {z : P0} : X z 197 347 = XI mT z (X z) (.bipush 125, 2, 0, 0, 0, [], nI 125, 0) 197 347 := X_at (r := mi197) rfl rfl
set_option maxRecDepth 20000 in
theorem x197_349 {z : P0} : X z 197 349 = XI mT z (X z) (.invokevirtual 20, 3, 1, 67, 0, [92], 0, 0) 197 349 := X_at (r := mi197) rfl rfl
set_option maxRecDepth 20000 in
theorem x197_352 {z : P0} : X z 197 352 = XI mT z (X z) (.pop, 1, 0, 0, 0, [], 0, 0) 197 352 := X_at (r := mi197) rfl rfl
set_option maxRecDepth 20000 in
theorem x197_353 {z : P0} : X z 197 353 = XI mT z (X z) (.aload_n 3, 1, 3, 0, 0, [], 0, 0) 197 353 := X_at (r := mi197) rfl rfl
set_option maxRecDepth 20000 in
theorem x197_354 {z : P0} : X z 197 354 = XI mT z (X z) (.iload 4, 2, 4, 0, 0, [], 0, 0) 197 354 := X_at (r := mi197) rfl rfl
set_option maxRecDepth 20000 in
theorem x197_356 {z : P0} : X z 197 356 = XI mT z (X z) (.bipush 125, 2, 0, 0, 0, [], nI 125, 0) 197 356 := X_at (r := mi197) rfl rfl
set_option maxRecDepth 20000 in
theorem x197_358 {z : P0} : X z 197 358 = XI mT z (X z) (.iastore, 1, 0, 0, 0, [], 0, 0) 197 358 := X_at (r := mi197) rfl rfl
set_option maxRecDepth 20000 in
theorem x197_359 {z : P0} : X z 197 359 = XI mT z (X z) (.iinc 4 1, 3, 4, 0, 0, [], nI 1, 0) 197 359 := X_at (r := mi197) rfl rfl
set_option maxRecDepth 20000 in
theorem x197_362 {z : P0} : X z 197 362 = XI mT z (X z) (.iload 4, 2, 4, 0, 0, [], 0, 0) 197 362 := X_at (r := mi197) rfl rfl
set_option maxRecDepth 20000 in
theorem x197_364 {z : P0} : X z 197 364 = XI mT z (X z) (.ireturn, 1, 0, 0, 0, [], 0, 0) 197 364 := X_at (r := mi197) rfl rfl
theorem x198_0 {z : P0} : X z 198 0 = XI mT z (X z) (.iconst 0, 1, 0, 0, 0, [], nI 0, 0) 198 0 := X_at (r := mi198) rfl rfl
theorem x198_1 {z : P0} : X z 198 1 = XI mT z (X z) (.istore_n 3, 1, 3, 0, 0, [], 0, 0) 198 1 := X_at (r := mi198) rfl rfl
theorem x198_2 {z : P0} : X z 198 2 = XI mT z (X z) (.iload_n 3, 1, 3, 0, 0, [], 0, 0) 198 2 := X_at (r := mi198) rfl rfl
theorem x198_3 {z : P0} : X z 198 3 = XI mT z (X z) (.bipush 10, 2, 0, 0, 0, [], nI 10, 0) 198 3 := X_at (r := mi198) rfl rfl
theorem x198_5 {z : P0} : X z 198 5 = XI mT z (X z) (.if_icmp .ge 13, 3, 18, 0, 0, [], 0, 0) 198 5 := X_at (r := mi198) rfl rfl
theorem x198_8 {z : P0} : X z 198 8 = XI mT z (X z) (.aload_n 0, 1, 0, 0, 0, [], 0, 0) 198 8 := X_at (r := mi198) rfl rfl
theorem x198_9 {z : P0} : X z 198 9 = XI mT z (X z) (.iload_n 3, 1, 3, 0, 0, [], 0, 0) 198 9 := X_at (r := mi198) rfl rfl
theorem x198_10 {z : P0} : X z 198 10 = XI mT z (X z) (.iconst 0, 1, 0, 0, 0, [], nI 0, 0) 198 10 := X_at (r := mi198) rfl rfl
theorem x198_11 {z : P0} : X z 198 11 = XI mT z (X z) (.iastore, 1, 0, 0, 0, [], 0, 0) 198 11 := X_at (r := mi198) rfl rfl
theorem x198_12 {z : P0} : X z 198 12 = XI mT z (X z) (.iinc 3 1, 3, 3, 0, 0, [], nI 1, 0) 198 12 := X_at (r := mi198) rfl rfl
theorem x198_15 {z : P0} : X z 198 15 = XI mT z (X z) (.goto (-13), 3, 2, 0, 0, [], 0, 0) 198 15 := X_at (r := mi198) rfl rfl
theorem x198_18 {z : P0} : X z 198 18 = XI mT z (X z) (.aload_n 0, 1, 0, 0, 0, [], 0, 0) 198 18 := X_at (r := mi198) rfl rfl
theorem x198_19 {z : P0} : X z 198 19 = XI mT z (X z) (.iconst 3, 1, 0, 0, 0, [], nI 3, 0) 198 19 := X_at (r := mi198) rfl rfl
theorem x198_20 {z : P0} : X z 198 20 = XI mT z (X z) (.iconst 1, 1, 0, 0, 0, [], nI 1, 0) 198 20 := X_at (r := mi198) rfl rfl
theorem x198_21 {z : P0} : X z 198 21 = XI mT z (X z) (.iastore, 1, 0, 0, 0, [], 0, 0) 198 21 := X_at (r := mi198) rfl rfl
theorem x198_22 {z : P0} : X z 198 22 = XI mT z (X z) (.aload_n 0, 1, 0, 0, 0, [], 0, 0) 198 22 := X_at (r := mi198) rfl rfl
theorem x198_23 {z : P0} : X z 198 23 = XI mT z (X z) (.iconst 4, 1, 0, 0, 0, [], nI 4, 0) 198 23 := X_at (r := mi198) rfl rfl
theorem x198_24 {z : P0} : X z 198 24 = XI mT z (X z) (.iconst 1, 1, 0, 0, 0, [], nI 1, 0) 198 24 := X_at (r := mi198) rfl rfl
theorem x198_25 {z : P0} : X z 198 25 = XI mT z (X z) (.iastore, 1, 0, 0, 0, [], 0, 0) 198 25 := X_at (r := mi198) rfl rfl
theorem x198_26 {z : P0} : X z 198 26 = XI mT z (X z) (.aload_n 0, 1, 0, 0, 0, [], 0, 0) 198 26 := X_at (r := mi198) rfl rfl
theorem x198_27 {z : P0} : X z 198 27 = XI mT z (X z) (.bipush 7, 2, 0, 0, 0, [], nI 7, 0) 198 27 := X_at (r := mi198) rfl rfl
theorem x198_29 {z : P0} : X z 198 29 = XI mT z (X z) (.iload_n 1, 1, 1, 0, 0, [], 0, 0) 198 29 := X_at (r := mi198) rfl rfl
theorem x198_30 {z : P0} : X z 198 30 = XI mT z (X z) (.iastore, 1, 0, 0, 0, [], 0, 0) 198 30 := X_at (r := mi198) rfl rfl
theorem x198_31 {z : P0} : X z 198 31 = XI mT z (X z) (.aload_n 0, 1, 0, 0, 0, [], 0, 0) 198 31 := X_at (r := mi198) rfl rfl
theorem x198_32 {z : P0} : X z 198 32 = XI mT z (X z) (.bipush 8, 2, 0, 0, 0, [], nI 8, 0) 198 32 := X_at (r := mi198) rfl rfl
theorem x198_34 {z : P0} : X z 198 34 = XI mT z (X z) (.iload_n 2, 1, 2, 0, 0, [], 0, 0) 198 34 := X_at (r := mi198) rfl rfl
theorem x198_35 {z : P0} : X z 198 35 = XI mT z (X z) (.iastore, 1, 0, 0, 0, [], 0, 0) 198 35 := X_at (r := mi198) rfl rfl
theorem x198_36 {z : P0} : X z 198 36 = XI mT z (X z) (.return_, 1, 0, 0, 0, [], 0, 0) 198 36 := X_at (r := mi198) rfl rfl
theorem x199_0 {z : P0} : X z 199 0 = XI mT z (X z) (.aload_n 0, 1, 0, 0, 0, [], 0, 0) 199 0 := X_at (r := mi199) rfl rfl
theorem x199_1 {z : P0} : X z 199 1 = XI mT z (X z) (.iconst 3, 1, 0, 0, 0, [], nI 3, 0) 199 1 := X_at (r := mi199) rfl rfl
theorem x199_2 {z : P0} : X z 199 2 = XI mT z (X z) (.iaload, 1, 0, 0, 0, [], 0, 0) 199 2 := X_at (r := mi199) rfl rfl
theorem x199_3 {z : P0} : X z 199 3 = XI mT z (X z) (.ifCond .ne 32, 3, 35, 0, 0, [], 0, 0) 199 3 := X_at (r := mi199) rfl rfl
theorem x199_6 {z : P0} : X z 199 6 = XI mT z (X z) (.aload_n 0, 1, 0, 0, 0, [], 0, 0) 199 6 := X_at (r := mi199) rfl rfl
theorem x199_7 {z : P0} : X z 199 7 = XI mT z (X z) (.iconst 2, 1, 0, 0, 0, [], nI 2, 0) 199 7 := X_at (r := mi199) rfl rfl
theorem x199_8 {z : P0} : X z 199 8 = XI mT z (X z) (.iaload, 1, 0, 0, 0, [], 0, 0) 199 8 := X_at (r := mi199) rfl rfl
theorem x199_9 {z : P0} : X z 199 9 = XI mT z (X z) (.iconst 1, 1, 0, 0, 0, [], nI 1, 0) 199 9 := X_at (r := mi199) rfl rfl
theorem x199_10 {z : P0} : X z 199 10 = XI mT z (X z) (.iadd, 1, 0, 0, 0, [], 0, 0) 199 10 := X_at (r := mi199) rfl rfl
theorem x199_11 {z : P0} : X z 199 11 = XI mT z (X z) (.iload_n 1, 1, 1, 0, 0, [], 0, 0) 199 11 := X_at (r := mi199) rfl rfl
theorem x199_12 {z : P0} : X z 199 12 = XI mT z (X z) (.iadd, 1, 0, 0, 0, [], 0, 0) 199 12 := X_at (r := mi199) rfl rfl
theorem x199_13 {z : P0} : X z 199 13 = XI mT z (X z) (.aload_n 0, 1, 0, 0, 0, [], 0, 0) 199 13 := X_at (r := mi199) rfl rfl
theorem x199_14 {z : P0} : X z 199 14 = XI mT z (X z) (.bipush 7, 2, 0, 0, 0, [], nI 7, 0) 199 14 := X_at (r := mi199) rfl rfl
theorem x199_16 {z : P0} : X z 199 16 = XI mT z (X z) (.iaload, 1, 0, 0, 0, [], 0, 0) 199 16 := X_at (r := mi199) rfl rfl
theorem x199_17 {z : P0} : X z 199 17 = XI mT z (X z) (.if_icmp .le 18, 3, 35, 0, 0, [], 0, 0) 199 17 := X_at (r := mi199) rfl rfl
theorem x199_20 {z : P0} : X z 199 20 = XI mT z (X z) (.aload_n 0, 1, 0, 0, 0, [], 0, 0) 199 20 := X_at (r := mi199) rfl rfl
theorem x199_21 {z : P0} : X z 199 21 = XI mT z (X z) (.iconst 4, 1, 0, 0, 0, [], nI 4, 0) 199 21 := X_at (r := mi199) rfl rfl
theorem x199_22 {z : P0} : X z 199 22 = XI mT z (X z) (.dup2, 1, 0, 0, 0, [], 0, 0) 199 22 := X_at (r := mi199) rfl rfl
theorem x199_23 {z : P0} : X z 199 23 = XI mT z (X z) (.iaload, 1, 0, 0, 0, [], 0, 0) 199 23 := X_at (r := mi199) rfl rfl
theorem x199_24 {z : P0} : X z 199 24 = XI mT z (X z) (.iconst 1, 1, 0, 0, 0, [], nI 1, 0) 199 24 := X_at (r := mi199) rfl rfl
theorem x199_25 {z : P0} : X z 199 25 = XI mT z (X z) (.iadd, 1, 0, 0, 0, [], 0, 0) 199 25 := X_at (r := mi199) rfl rfl
theorem x199_26 {z : P0} : X z 199 26 = XI mT z (X z) (.iastore, 1, 0, 0, 0, [], 0, 0) 199 26 := X_at (r := mi199) rfl rfl
theorem x199_27 {z : P0} : X z 199 27 = XI mT z (X z) (.aload_n 0, 1, 0, 0, 0, [], 0, 0) 199 27 := X_at (r := mi199) rfl rfl
theorem x199_28 {z : P0} : X z 199 28 = XI mT z (X z) (.iconst 2, 1, 0, 0, 0, [], nI 2, 0) 199 28 := X_at (r := mi199) rfl rfl
theorem x199_29 {z : P0} : X z 199 29 = XI mT z (X z) (.iconst 0, 1, 0, 0, 0, [], nI 0, 0) 199 29 := X_at (r := mi199) rfl rfl
theorem x199_30 {z : P0} : X z 199 30 = XI mT z (X z) (.iastore, 1, 0, 0, 0, [], 0, 0) 199 30 := X_at (r := mi199) rfl rfl
theorem x199_31 {z : P0} : X z 199 31 = XI mT z (X z) (.aload_n 0, 1, 0, 0, 0, [], 0, 0) 199 31 := X_at (r := mi199) rfl rfl
theorem x199_32 {z : P0} : X z 199 32 = XI mT z (X z) (.iconst 3, 1, 0, 0, 0, [], nI 3, 0) 199 32 := X_at (r := mi199) rfl rfl
theorem x199_33 {z : P0} : X z 199 33 = XI mT z (X z) (.iconst 1, 1, 0, 0, 0, [], nI 1, 0) 199 33 := X_at (r := mi199) rfl rfl
theorem x199_34 {z : P0} : X z 199 34 = XI mT z (X z) (.iastore, 1, 0, 0, 0, [], 0, 0) 199 34 := X_at (r := mi199) rfl rfl
theorem x199_35 {z : P0} : X z 199 35 = XI mT z (X z) (.aload_n 0, 1, 0, 0, 0, [], 0, 0) 199 35 := X_at (r := mi199) rfl rfl
theorem x199_36 {z : P0} : X z 199 36 = XI mT z (X z) (.iconst 2, 1, 0, 0, 0, [], nI 2, 0) 199 36 := X_at (r := mi199) rfl rfl
theorem x199_37 {z : P0} : X z 199 37 = XI mT z (X z) (.dup2, 1, 0, 0, 0, [], 0, 0) 199 37 := X_at (r := mi199) rfl rfl
theorem x199_38 {z : P0} : X z 199 38 = XI mT z (X z) (.iaload, 1, 0, 0, 0, [], 0, 0) 199 38 := X_at (r := mi199) rfl rfl
theorem x199_39 {z : P0} : X z 199 39 = XI mT z (X z) (.aload_n 0, 1, 0, 0, 0, [], 0, 0) 199 39 := X_at (r := mi199) rfl rfl
theorem x199_40 {z : P0} : X z 199 40 = XI mT z (X z) (.iconst 3, 1, 0, 0, 0, [], nI 3, 0) 199 40 := X_at (r := mi199) rfl rfl
theorem x199_41 {z : P0} : X z 199 41 = XI mT z (X z) (.iaload, 1, 0, 0, 0, [], 0, 0) 199 41 := X_at (r := mi199) rfl rfl
theorem x199_42 {z : P0} : X z 199 42 = XI mT z (X z) (.iconst 1, 1, 0, 0, 0, [], nI 1, 0) 199 42 := X_at (r := mi199) rfl rfl
theorem x199_43 {z : P0} : X z 199 43 = XI mT z (X z) (.if_icmp .ne 7, 3, 50, 0, 0, [], 0, 0) 199 43 := X_at (r := mi199) rfl rfl
theorem x199_46 {z : P0} : X z 199 46 = XI mT z (X z) (.iload_n 1, 1, 1, 0, 0, [], 0, 0) 199 46 := X_at (r := mi199) rfl rfl
theorem x199_47 {z : P0} : X z 199 47 = XI mT z (X z) (.goto 6, 3, 53, 0, 0, [], 0, 0) 199 47 := X_at (r := mi199) rfl rfl
theorem x199_50 {z : P0} : X z 199 50 = XI mT z (X z) (.iconst 1, 1, 0, 0, 0, [], nI 1, 0) 199 50 := X_at (r := mi199) rfl rfl
theorem x199_51 {z : P0} : X z 199 51 = XI mT z (X z) (.iload_n 1, 1, 1, 0, 0, [], 0, 0) 199 51 := X_at (r := mi199) rfl rfl
theorem x199_52 {z : P0} : X z 199 52 = XI mT z (X z) (.iadd, 1, 0, 0, 0, [], 0, 0) 199 52 := X_at (r := mi199) rfl rfl
theorem x199_53 {z : P0} : X z 199 53 = XI mT z (X z) (.iadd, 1, 0, 0, 0, [], 0, 0) 199 53 := X_at (r := mi199) rfl rfl
theorem x199_54 {z : P0} : X z 199 54 = XI mT z (X z) (.iastore, 1, 0, 0, 0, [], 0, 0) 199 54 := X_at (r := mi199) rfl rfl
theorem x199_55 {z : P0} : X z 199 55 = XI mT z (X z) (.aload_n 0, 1, 0, 0, 0, [], 0, 0) 199 55 := X_at (r := mi199) rfl rfl
theorem x199_56 {z : P0} : X z 199 56 = XI mT z (X z) (.iconst 3, 1, 0, 0, 0, [], nI 3, 0) 199 56 := X_at (r := mi199) rfl rfl
theorem x199_57 {z : P0} : X z 199 57 = XI mT z (X z) (.iconst 0, 1, 0, 0, 0, [], nI 0, 0) 199 57 := X_at (r := mi199) rfl rfl
theorem x199_58 {z : P0} : X z 199 58 = XI mT z (X z) (.iastore, 1, 0, 0, 0, [], 0, 0) 199 58 := X_at (r := mi199) rfl rfl
theorem x199_59 {z : P0} : X z 199 59 = XI mT z (X z) (.return_, 1, 0, 0, 0, [], 0, 0) 199 59 := X_at (r := mi199) rfl rfl
theorem x200_0 {z : P0} : X z 200 0 = XI mT z (X z) (.aload_n 0, 1, 0, 0, 0, [], 0, 0) 200 0 := X_at (r := mi200) rfl rfl
theorem x200_1 {z : P0} : X z 200 1 = XI mT z (X z) (.iconst 1, 1, 0, 0, 0, [], nI 1, 0) 200 1 := X_at (r := mi200) rfl rfl
theorem x200_2 {z : P0} : X z 200 2 = XI mT z (X z) (.iaload, 1, 0, 0, 0, [], 0, 0) 200 2 := X_at (r := mi200) rfl rfl
theorem x200_3 {z : P0} : X z 200 3 = XI mT z (X z) (.aload_n 0, 1, 0, 0, 0, [], 0, 0) 200 3 := X_at (r := mi200) rfl rfl
theorem x200_4 {z : P0} : X z 200 4 = XI mT z (X z) (.bipush 7, 2, 0, 0, 0, [], nI 7, 0) 200 4 := X_at (r := mi200) rfl rfl
theorem x200_6 {z : P0} : X z 200 6 = XI mT z (X z) (.iaload, 1, 0, 0, 0, [], 0, 0) 200 6 := X_at (r := mi200) rfl rfl
theorem x200_7 {z : P0} : X z 200 7 = XI mT z (X z) (.if_icmp .le 24, 3, 31, 0, 0, [], 0, 0) 200 7 := X_at (r := mi200) rfl rfl
theorem x200_10 {z : P0} : X z 200 10 = XI mT z (X z) (.aload_n 0, 1, 0, 0, 0, [], 0, 0) 200 10 := X_at (r := mi200) rfl rfl
theorem x200_11 {z : P0} : X z 200 11 = XI mT z (X z) (.aload_n 0, 1, 0, 0, 0, [], 0, 0) 200 11 := X_at (r := mi200) rfl rfl
theorem x200_12 {z : P0} : X z 200 12 = XI mT z (X z) (.bipush 7, 2, 0, 0, 0, [], nI 7, 0) 200 12 := X_at (r := mi200) rfl rfl
theorem x200_14 {z : P0} : X z 200 14 = XI mT z (X z) (.iaload, 1, 0, 0, 0, [], 0, 0) 200 14 := X_at (r := mi200) rfl rfl
theorem x200_15 {z : P0} : X z 200 15 = XI mT z (X z) (.invokestatic 37, 3, 2, 199, 0, [97], 0, 0) 200 15 := X_at (r := mi200) rfl rfl
theorem x200_18 {z : P0} : X z 200 18 = XI mT z (X z) (.aload_n 0, 1, 0, 0, 0, [], 0, 0) 200 18 := X_at (r := mi200) rfl rfl
theorem x200_19 {z : P0} : X z 200 19 = XI mT z (X z) (.iconst 1, 1, 0, 0, 0, [], nI 1, 0) 200 19 := X_at (r := mi200) rfl rfl
theorem x200_20 {z : P0} : X z 200 20 = XI mT z (X z) (.dup2, 1, 0, 0, 0, [], 0, 0) 200 20 := X_at (r := mi200) rfl rfl
theorem x200_21 {z : P0} : X z 200 21 = XI mT z (X z) (.iaload, 1, 0, 0, 0, [], 0, 0) 200 21 := X_at (r := mi200) rfl rfl
theorem x200_22 {z : P0} : X z 200 22 = XI mT z (X z) (.aload_n 0, 1, 0, 0, 0, [], 0, 0) 200 22 := X_at (r := mi200) rfl rfl
theorem x200_23 {z : P0} : X z 200 23 = XI mT z (X z) (.bipush 7, 2, 0, 0, 0, [], nI 7, 0) 200 23 := X_at (r := mi200) rfl rfl
theorem x200_25 {z : P0} : X z 200 25 = XI mT z (X z) (.iaload, 1, 0, 0, 0, [], 0, 0) 200 25 := X_at (r := mi200) rfl rfl
theorem x200_26 {z : P0} : X z 200 26 = XI mT z (X z) (.isub, 1, 0, 0, 0, [], 0, 0) 200 26 := X_at (r := mi200) rfl rfl
theorem x200_27 {z : P0} : X z 200 27 = XI mT z (X z) (.iastore, 1, 0, 0, 0, [], 0, 0) 200 27 := X_at (r := mi200) rfl rfl
theorem x200_28 {z : P0} : X z 200 28 = XI mT z (X z) (.goto (-28), 3, 0, 0, 0, [], 0, 0) 200 28 := X_at (r := mi200) rfl rfl
theorem x200_31 {z : P0} : X z 200 31 = XI mT z (X z) (.aload_n 0, 1, 0, 0, 0, [], 0, 0) 200 31 := X_at (r := mi200) rfl rfl
theorem x200_32 {z : P0} : X z 200 32 = XI mT z (X z) (.aload_n 0, 1, 0, 0, 0, [], 0, 0) 200 32 := X_at (r := mi200) rfl rfl
theorem x200_33 {z : P0} : X z 200 33 = XI mT z (X z) (.iconst 1, 1, 0, 0, 0, [], nI 1, 0) 200 33 := X_at (r := mi200) rfl rfl
theorem x200_34 {z : P0} : X z 200 34 = XI mT z (X z) (.iaload, 1, 0, 0, 0, [], 0, 0) 200 34 := X_at (r := mi200) rfl rfl
theorem x200_35 {z : P0} : X z 200 35 = XI mT z (X z) (.invokestatic 37, 3, 2, 199, 0, [97], 0, 0) 200 35 := X_at (r := mi200) rfl rfl
theorem x200_38 {z : P0} : X z 200 38 = XI mT z (X z) (.aload_n 0, 1, 0, 0, 0, [], 0, 0) 200 38 := X_at (r := mi200) rfl rfl
theorem x200_39 {z : P0} : X z 200 39 = XI mT z (X z) (.iconst 1, 1, 0, 0, 0, [], nI 1, 0) 200 39 := X_at (r := mi200) rfl rfl
theorem x200_40 {z : P0} : X z 200 40 = XI mT z (X z) (.iconst 0, 1, 0, 0, 0, [], nI 0, 0) 200 40 := X_at (r := mi200) rfl rfl
theorem x200_41 {z : P0} : X z 200 41 = XI mT z (X z) (.iastore, 1, 0, 0, 0, [], 0, 0) 200 41 := X_at (r := mi200) rfl rfl
theorem x200_42 {z : P0} : X z 200 42 = XI mT z (X z) (.return_, 1, 0, 0, 0, [], 0, 0) 200 42 := X_at (r := mi200) rfl rfl
theorem x201_0 {z : P0} : X z 201 0 = XI mT z (X z) (.aload_n 0, 1, 0, 0, 0, [], 0, 0) 201 0 := X_at (r := mi201) rfl rfl
theorem x201_1 {z : P0} : X z 201 1 = XI mT z (X z) (.iconst 4, 1, 0, 0, 0, [], nI 4, 0) 201 1 := X_at (r := mi201) rfl rfl
theorem x201_2 {z : P0} : X z 201 2 = XI mT z (X z) (.iaload, 1, 0, 0, 0, [], 0, 0) 201 2 := X_at (r := mi201) rfl rfl
theorem x201_3 {z : P0} : X z 201 3 = XI mT z (X z) (.aload_n 0, 1, 0, 0, 0, [], 0, 0) 201 3 := X_at (r := mi201) rfl rfl
theorem x201_4 {z : P0} : X z 201 4 = XI mT z (X z) (.iconst 5, 1, 0, 0, 0, [], nI 5, 0) 201 4 := X_at (r := mi201) rfl rfl
theorem x201_5 {z : P0} : X z 201 5 = XI mT z (X z) (.iaload, 1, 0, 0, 0, [], 0, 0) 201 5 := X_at (r := mi201) rfl rfl
theorem x201_6 {z : P0} : X z 201 6 = XI mT z (X z) (.isub, 1, 0, 0, 0, [], 0, 0) 201 6 := X_at (r := mi201) rfl rfl
theorem x201_7 {z : P0} : X z 201 7 = XI mT z (X z) (.istore_n 1, 1, 1, 0, 0, [], 0, 0) 201 7 := X_at (r := mi201) rfl rfl
theorem x201_8 {z : P0} : X z 201 8 = XI mT z (X z) (.aload_n 0, 1, 0, 0, 0, [], 0, 0) 201 8 := X_at (r := mi201) rfl rfl
theorem x201_9 {z : P0} : X z 201 9 = XI mT z (X z) (.bipush 6, 2, 0, 0, 0, [], nI 6, 0) 201 9 := X_at (r := mi201) rfl rfl
theorem x201_11 {z : P0} : X z 201 11 = XI mT z (X z) (.dup2, 1, 0, 0, 0, [], 0, 0) 201 11 := X_at (r := mi201) rfl rfl
theorem x201_12 {z : P0} : X z 201 12 = XI mT z (X z) (.iaload, 1, 0, 0, 0, [], 0, 0) 201 12 := X_at (r := mi201) rfl rfl
theorem x201_13 {z : P0} : X z 201 13 = XI mT z (X z) (.iload_n 1, 1, 1, 0, 0, [], 0, 0) 201 13 := X_at (r := mi201) rfl rfl
theorem x201_14 {z : P0} : X z 201 14 = XI mT z (X z) (.aload_n 0, 1, 0, 0, 0, [], 0, 0) 201 14 := X_at (r := mi201) rfl rfl
theorem x201_15 {z : P0} : X z 201 15 = XI mT z (X z) (.bipush 8, 2, 0, 0, 0, [], nI 8, 0) 201 15 := X_at (r := mi201) rfl rfl
theorem x201_17 {z : P0} : X z 201 17 = XI mT z (X z) (.iaload, 1, 0, 0, 0, [], 0, 0) 201 17 := X_at (r := mi201) rfl rfl
theorem x201_18 {z : P0} : X z 201 18 = XI mT z (X z) (.idiv, 1, 0, 0, 0, [], 0, 0) 201 18 := X_at (r := mi201) rfl rfl
theorem x201_19 {z : P0} : X z 201 19 = XI mT z (X z) (.iload_n 1, 1, 1, 0, 0, [], 0, 0) 201 19 := X_at (r := mi201) rfl rfl
theorem x201_20 {z : P0} : X z 201 20 = XI mT z (X z) (.aload_n 0, 1, 0, 0, 0, [], 0, 0) 201 20 := X_at (r := mi201) rfl rfl
theorem x201_21 {z : P0} : X z 201 21 = XI mT z (X z) (.bipush 8, 2, 0, 0, 0, [], nI 8, 0) 201 21 := X_at (r := mi201) rfl rfl
theorem x201_23 {z : P0} : X z 201 23 = XI mT z (X z) (.iaload, 1, 0, 0, 0, [], 0, 0) 201 23 := X_at (r := mi201) rfl rfl
theorem x201_24 {z : P0} : X z 201 24 = XI mT z (X z) (.irem, 1, 0, 0, 0, [], 0, 0) 201 24 := X_at (r := mi201) rfl rfl
theorem x201_25 {z : P0} : X z 201 25 = XI mT z (X z) (.ifCond .ne 7, 3, 32, 0, 0, [], 0, 0) 201 25 := X_at (r := mi201) rfl rfl
theorem x201_28 {z : P0} : X z 201 28 = XI mT z (X z) (.iconst 0, 1, 0, 0, 0, [], nI 0, 0) 201 28 := X_at (r := mi201) rfl rfl
theorem x201_29 {z : P0} : X z 201 29 = XI mT z (X z) (.goto 4, 3, 33, 0, 0, [], 0, 0) 201 29 := X_at (r := mi201) rfl rfl
theorem x201_32 {z : P0} : X z 201 32 = XI mT z (X z) (.iconst 1, 1, 0, 0, 0, [], nI 1, 0) 201 32 := X_at (r := mi201) rfl rfl
theorem x201_33 {z : P0} : X z 201 33 = XI mT z (X z) (.iadd, 1, 0, 0, 0, [], 0, 0) 201 33 := X_at (r := mi201) rfl rfl
theorem x201_34 {z : P0} : X z 201 34 = XI mT z (X z) (.iadd, 1, 0, 0, 0, [], 0, 0) 201 34 := X_at (r := mi201) rfl rfl
theorem x201_35 {z : P0} : X z 201 35 = XI mT z (X z) (.iastore, 1, 0, 0, 0, [], 0, 0) 201 35 := X_at (r := mi201) rfl rfl
theorem x201_36 {z : P0} : X z 201 36 = XI mT z (X z) (.aload_n 0, 1, 0, 0, 0, [], 0, 0) 201 36 := X_at (r := mi201) rfl rfl
theorem x201_37 {z : P0} : X z 201 37 = XI mT z (X z) (.iconst 5, 1, 0, 0, 0, [], nI 5, 0) 201 37 := X_at (r := mi201) rfl rfl
theorem x201_38 {z : P0} : X z 201 38 = XI mT z (X z) (.aload_n 0, 1, 0, 0, 0, [], 0, 0) 201 38 := X_at (r := mi201) rfl rfl
theorem x201_39 {z : P0} : X z 201 39 = XI mT z (X z) (.iconst 4, 1, 0, 0, 0, [], nI 4, 0) 201 39 := X_at (r := mi201) rfl rfl
theorem x201_40 {z : P0} : X z 201 40 = XI mT z (X z) (.iaload, 1, 0, 0, 0, [], 0, 0) 201 40 := X_at (r := mi201) rfl rfl
theorem x201_41 {z : P0} : X z 201 41 = XI mT z (X z) (.iastore, 1, 0, 0, 0, [], 0, 0) 201 41 := X_at (r := mi201) rfl rfl
theorem x201_42 {z : P0} : X z 201 42 = XI mT z (X z) (.return_, 1, 0, 0, 0, [], 0, 0) 201 42 := X_at (r := mi201) rfl rfl
theorem x202_0 {z : P0} : X z 202 0 = XI mT z (X z) (.aload_n 0, 1, 0, 0, 0, [], 0, 0) 202 0 := X_at (r := mi202) rfl rfl
theorem x202_1 {z : P0} : X z 202 1 = XI mT z (X z) (.iconst 0, 1, 0, 0, 0, [], nI 0, 0) 202 1 := X_at (r := mi202) rfl rfl
theorem x202_2 {z : P0} : X z 202 2 = XI mT z (X z) (.dup2, 1, 0, 0, 0, [], 0, 0) 202 2 := X_at (r := mi202) rfl rfl
theorem x202_3 {z : P0} : X z 202 3 = XI mT z (X z) (.iaload, 1, 0, 0, 0, [], 0, 0) 202 3 := X_at (r := mi202) rfl rfl
theorem x202_4 {z : P0} : X z 202 4 = XI mT z (X z) (.iconst 1, 1, 0, 0, 0, [], nI 1, 0) 202 4 := X_at (r := mi202) rfl rfl
theorem x202_5 {z : P0} : X z 202 5 = XI mT z (X z) (.iadd, 1, 0, 0, 0, [], 0, 0) 202 5 := X_at (r := mi202) rfl rfl
theorem x202_6 {z : P0} : X z 202 6 = XI mT z (X z) (.iastore, 1, 0, 0, 0, [], 0, 0) 202 6 := X_at (r := mi202) rfl rfl
theorem x202_7 {z : P0} : X z 202 7 = XI mT z (X z) (.aload_n 0, 1, 0, 0, 0, [], 0, 0) 202 7 := X_at (r := mi202) rfl rfl
theorem x202_8 {z : P0} : X z 202 8 = XI mT z (X z) (.bipush 9, 2, 0, 0, 0, [], nI 9, 0) 202 8 := X_at (r := mi202) rfl rfl
theorem x202_10 {z : P0} : X z 202 10 = XI mT z (X z) (.bipush 31, 2, 0, 0, 0, [], nI 31, 0) 202 10 := X_at (r := mi202) rfl rfl
theorem x202_12 {z : P0} : X z 202 12 = XI mT z (X z) (.aload_n 0, 1, 0, 0, 0, [], 0, 0) 202 12 := X_at (r := mi202) rfl rfl
theorem x202_13 {z : P0} : X z 202 13 = XI mT z (X z) (.bipush 9, 2, 0, 0, 0, [], nI 9, 0) 202 13 := X_at (r := mi202) rfl rfl
theorem x202_15 {z : P0} : X z 202 15 = XI mT z (X z) (.iaload, 1, 0, 0, 0, [], 0, 0) 202 15 := X_at (r := mi202) rfl rfl
theorem x202_16 {z : P0} : X z 202 16 = XI mT z (X z) (.imul, 1, 0, 0, 0, [], 0, 0) 202 16 := X_at (r := mi202) rfl rfl
theorem x202_17 {z : P0} : X z 202 17 = XI mT z (X z) (.iload_n 1, 1, 1, 0, 0, [], 0, 0) 202 17 := X_at (r := mi202) rfl rfl
theorem x202_18 {z : P0} : X z 202 18 = XI mT z (X z) (.iadd, 1, 0, 0, 0, [], 0, 0) 202 18 := X_at (r := mi202) rfl rfl
theorem x202_19 {z : P0} : X z 202 19 = XI mT z (X z) (.iastore, 1, 0, 0, 0, [], 0, 0) 202 19 := X_at (r := mi202) rfl rfl
theorem x202_20 {z : P0} : X z 202 20 = XI mT z (X z) (.iload_n 1, 1, 1, 0, 0, [], 0, 0) 202 20 := X_at (r := mi202) rfl rfl
theorem x202_21 {z : P0} : X z 202 21 = XI mT z (X z) (.bipush 95, 2, 0, 0, 0, [], nI 95, 0) 202 21 := X_at (r := mi202) rfl rfl
theorem x202_23 {z : P0} : X z 202 23 = XI mT z (X z) (.if_icmp .eq 23, 3, 46, 0, 0, [], 0, 0) 202 23 := X_at (r := mi202) rfl rfl
theorem x202_26 {z : P0} : X z 202 26 = XI mT z (X z) (.iload_n 1, 1, 1, 0, 0, [], 0, 0) 202 26 := X_at (r := mi202) rfl rfl
theorem x202_27 {z : P0} : X z 202 27 = XI mT z (X z) (.bipush 47, 2, 0, 0, 0, [], nI 47, 0) 202 27 := X_at (r := mi202) rfl rfl
theorem x202_29 {z : P0} : X z 202 29 = XI mT z (X z) (.if_icmp .eq 17, 3, 46, 0, 0, [], 0, 0) 202 29 := X_at (r := mi202) rfl rfl
theorem x202_32 {z : P0} : X z 202 32 = XI mT z (X z) (.iload_n 1, 1, 1, 0, 0, [], 0, 0) 202 32 := X_at (r := mi202) rfl rfl
theorem x202_33 {z : P0} : X z 202 33 = XI mT z (X z) (.bipush 124, 2, 0, 0, 0, [], nI 124, 0) 202 33 := X_at (r := mi202) rfl rfl
theorem x202_35 {z : P0} : X z 202 35 = XI mT z (X z) (.if_icmp .eq 11, 3, 46, 0, 0, [], 0, 0) 202 35 := X_at (r := mi202) rfl rfl
theorem x202_38 {z : P0} : X z 202 38 = XI mT z (X z) (.aload_n 0, 1, 0, 0, 0, [], 0, 0) 202 38 := X_at (r := mi202) rfl rfl
theorem x202_39 {z : P0} : X z 202 39 = XI mT z (X z) (.iconst 1, 1, 0, 0, 0, [], nI 1, 0) 202 39 := X_at (r := mi202) rfl rfl
theorem x202_40 {z : P0} : X z 202 40 = XI mT z (X z) (.dup2, 1, 0, 0, 0, [], 0, 0) 202 40 := X_at (r := mi202) rfl rfl
theorem x202_41 {z : P0} : X z 202 41 = XI mT z (X z) (.iaload, 1, 0, 0, 0, [], 0, 0) 202 41 := X_at (r := mi202) rfl rfl
theorem x202_42 {z : P0} : X z 202 42 = XI mT z (X z) (.iconst 1, 1, 0, 0, 0, [], nI 1, 0) 202 42 := X_at (r := mi202) rfl rfl
theorem x202_43 {z : P0} : X z 202 43 = XI mT z (X z) (.iadd, 1, 0, 0, 0, [], 0, 0) 202 43 := X_at (r := mi202) rfl rfl
theorem x202_44 {z : P0} : X z 202 44 = XI mT z (X z) (.iastore, 1, 0, 0, 0, [], 0, 0) 202 44 := X_at (r := mi202) rfl rfl
theorem x202_45 {z : P0} : X z 202 45 = XI mT z (X z) (.return_, 1, 0, 0, 0, [], 0, 0) 202 45 := X_at (r := mi202) rfl rfl
theorem x202_46 {z : P0} : X z 202 46 = XI mT z (X z) (.aload_n 0, 1, 0, 0, 0, [], 0, 0) 202 46 := X_at (r := mi202) rfl rfl
theorem x202_47 {z : P0} : X z 202 47 = XI mT z (X z) (.invokestatic 41, 3, 1, 200, 0, [98], 0, 0) 202 47 := X_at (r := mi202) rfl rfl
theorem x202_50 {z : P0} : X z 202 50 = XI mT z (X z) (.iload_n 1, 1, 1, 0, 0, [], 0, 0) 202 50 := X_at (r := mi202) rfl rfl
theorem x202_51 {z : P0} : X z 202 51 = XI mT z (X z) (.bipush 124, 2, 0, 0, 0, [], nI 124, 0) 202 51 := X_at (r := mi202) rfl rfl
theorem x202_53 {z : P0} : X z 202 53 = XI mT z (X z) (.if_icmp .ne 7, 3, 60, 0, 0, [], 0, 0) 202 53 := X_at (r := mi202) rfl rfl
theorem x202_56 {z : P0} : X z 202 56 = XI mT z (X z) (.aload_n 0, 1, 0, 0, 0, [], 0, 0) 202 56 := X_at (r := mi202) rfl rfl
theorem x202_57 {z : P0} : X z 202 57 = XI mT z (X z) (.invokestatic 45, 3, 1, 201, 0, [99], 0, 0) 202 57 := X_at (r := mi202) rfl rfl
theorem x202_60 {z : P0} : X z 202 60 = XI mT z (X z) (.iload_n 1, 1, 1, 0, 0, [], 0, 0) 202 60 := X_at (r := mi202) rfl rfl
theorem x202_61 {z : P0} : X z 202 61 = XI mT z (X z) (.bipush 95, 2, 0, 0, 0, [], nI 95, 0) 202 61 := X_at (r := mi202) rfl rfl
theorem x202_63 {z : P0} : X z 202 63 = XI mT z (X z) (.if_icmp .eq 18, 3, 81, 0, 0, [], 0, 0) 202 63 := X_at (r := mi202) rfl rfl
theorem x202_66 {z : P0} : X z 202 66 = XI mT z (X z) (.aload_n 0, 1, 0, 0, 0, [], 0, 0) 202 66 := X_at (r := mi202) rfl rfl
theorem x202_67 {z : P0} : X z 202 67 = XI mT z (X z) (.iconst 4, 1, 0, 0, 0, [], nI 4, 0) 202 67 := X_at (r := mi202) rfl rfl
theorem x202_68 {z : P0} : X z 202 68 = XI mT z (X z) (.dup2, 1, 0, 0, 0, [], 0, 0) 202 68 := X_at (r := mi202) rfl rfl
theorem x202_69 {z : P0} : X z 202 69 = XI mT z (X z) (.iaload, 1, 0, 0, 0, [], 0, 0) 202 69 := X_at (r := mi202) rfl rfl
theorem x202_70 {z : P0} : X z 202 70 = XI mT z (X z) (.iconst 1, 1, 0, 0, 0, [], nI 1, 0) 202 70 := X_at (r := mi202) rfl rfl
theorem x202_71 {z : P0} : X z 202 71 = XI mT z (X z) (.iadd, 1, 0, 0, 0, [], 0, 0) 202 71 := X_at (r := mi202) rfl rfl
theorem x202_72 {z : P0} : X z 202 72 = XI mT z (X z) (.iastore, 1, 0, 0, 0, [], 0, 0) 202 72 := X_at (r := mi202) rfl rfl
theorem x202_73 {z : P0} : X z 202 73 = XI mT z (X z) (.aload_n 0, 1, 0, 0, 0, [], 0, 0) 202 73 := X_at (r := mi202) rfl rfl
theorem x202_74 {z : P0} : X z 202 74 = XI mT z (X z) (.iconst 2, 1, 0, 0, 0, [], nI 2, 0) 202 74 := X_at (r := mi202) rfl rfl
theorem x202_75 {z : P0} : X z 202 75 = XI mT z (X z) (.iconst 0, 1, 0, 0, 0, [], nI 0, 0) 202 75 := X_at (r := mi202) rfl rfl
theorem x202_76 {z : P0} : X z 202 76 = XI mT z (X z) (.iastore, 1, 0, 0, 0, [], 0, 0) 202 76 := X_at (r := mi202) rfl rfl
theorem x202_77 {z : P0} : X z 202 77 = XI mT z (X z) (.aload_n 0, 1, 0, 0, 0, [], 0, 0) 202 77 := X_at (r := mi202) rfl rfl
theorem x202_78 {z : P0} : X z 202 78 = XI mT z (X z) (.iconst 3, 1, 0, 0, 0, [], nI 3, 0) 202 78 := X_at (r := mi202) rfl rfl
theorem x202_79 {z : P0} : X z 202 79 = XI mT z (X z) (.iconst 1, 1, 0, 0, 0, [], nI 1, 0) 202 79 := X_at (r := mi202) rfl rfl
theorem x202_80 {z : P0} : X z 202 80 = XI mT z (X z) (.iastore, 1, 0, 0, 0, [], 0, 0) 202 80 := X_at (r := mi202) rfl rfl
theorem x202_81 {z : P0} : X z 202 81 = XI mT z (X z) (.return_, 1, 0, 0, 0, [], 0, 0) 202 81 := X_at (r := mi202) rfl rfl
theorem x203_0 {z : P0} : X z 203 0 = XI mT z (X z) (.aload_n 0, 1, 0, 0, 0, [], 0, 0) 203 0 := X_at (r := mi203) rfl rfl
theorem x203_1 {z : P0} : X z 203 1 = XI mT z (X z) (.invokestatic 41, 3, 1, 200, 0, [98], 0, 0) 203 1 := X_at (r := mi203) rfl rfl
theorem x203_4 {z : P0} : X z 203 4 = XI mT z (X z) (.aload_n 0, 1, 0, 0, 0, [], 0, 0) 203 4 := X_at (r := mi203) rfl rfl
theorem x203_5 {z : P0} : X z 203 5 = XI mT z (X z) (.invokestatic 45, 3, 1, 201, 0, [99], 0, 0) 203 5 := X_at (r := mi203) rfl rfl
theorem x203_8 {z : P0} : X z 203 8 = XI mT z (X z) (.return_, 1, 0, 0, 0, [], 0, 0) 203 8 := X_at (r := mi203) rfl rfl
theorem x204_0 {z : P0} : X z 204 0 = XI mT z (X z) (.iconst 0, 1, 0, 0, 0, [], nI 0, 0) 204 0 := X_at (r := mi204) rfl rfl
theorem x204_1 {z : P0} : X z 204 1 = XI mT z (X z) (.istore_n 3, 1, 3, 0, 0, [], 0, 0) 204 1 := X_at (r := mi204) rfl rfl
theorem x204_2 {z : P0} : X z 204 2 = XI mT z (X z) (.iload_n 3, 1, 3, 0, 0, [], 0, 0) 204 2 := X_at (r := mi204) rfl rfl
theorem x204_3 {z : P0} : X z 204 3 = XI mT z (X z) (.aload_n 0, 1, 0, 0, 0, [], 0, 0) 204 3 := X_at (r := mi204) rfl rfl
theorem x204_4 {z : P0} : X z 204 4 = XI mT z (X z) (.iconst 2, 1, 0, 0, 0, [], nI 2, 0) 204 4 := X_at (r := mi204) rfl rfl
theorem x204_5 {z : P0} : X z 204 5 = XI mT z (X z) (.iaload, 1, 0, 0, 0, [], 0, 0) 204 5 := X_at (r := mi204) rfl rfl
theorem x204_6 {z : P0} : X z 204 6 = XI mT z (X z) (.if_icmp .ge 22, 3, 28, 0, 0, [], 0, 0) 204 6 := X_at (r := mi204) rfl rfl
theorem x204_9 {z : P0} : X z 204 9 = XI mT z (X z) (.aload_n 1, 1, 1, 0, 0, [], 0, 0) 204 9 := X_at (r := mi204) rfl rfl
theorem x204_10 {z : P0} : X z 204 10 = XI mT z (X z) (.iload_n 3, 1, 3, 0, 0, [], 0, 0) 204 10 := X_at (r := mi204) rfl rfl
theorem x204_11 {z : P0} : X z 204 11 = XI mT z (X z) (.iaload, 1, 0, 0, 0, [], 0, 0) 204 11 := X_at (r := mi204) rfl rfl
theorem x204_12 {z : P0} : X z 204 12 = XI mT z (X z) (.sipush 256, 3, 0, 0, 0, [], nI 256, 0) 204 12 := X_at (r := mi204) rfl rfl
theorem x204_15 {z : P0} : X z 204 15 = XI mT z (X z) (.iload_n 2, 1, 2, 0, 0, [], 0, 0) 204 15 := X_at (r := mi204) rfl rfl
theorem x204_16 {z : P0} : X z 204 16 = XI mT z (X z) (.iadd, 1, 0, 0, 0, [], 0, 0) 204 16 := X_at (r := mi204) rfl rfl
theorem x204_17 {z : P0} : X z 204 17 = XI mT z (X z) (.if_icmp .ne 5, 3, 22, 0, 0, [], 0, 0) 204 17 := X_at (r := mi204) rfl rfl
theorem x204_20 {z : P0} : X z 204 20 = XI mT z (X z) (.iconst 1, 1, 0, 0, 0, [], nI 1, 0) 204 20 := X_at (r := mi204) rfl rfl
theorem x204_21 {z : P0} : X z 204 21 = XI mT z (X z) (.ireturn, 1, 0, 0, 0, [], 0, 0) 204 21 := X_at (r := mi204) rfl rfl
theorem x204_22 {z : P0} : X z 204 22 = XI mT z (X z) (.iinc 3 1, 3, 3, 0, 0, [], nI 1, 0) 204 22 := X_at (r := mi204) rfl rfl
theorem x204_25 {z : P0} : X z 204 25 = XI mT z (X z) (.goto (-23), 3, 2, 0, 0, [], 0, 0) 204 25 := X_at (r := mi204) rfl rfl
theorem x204_28 {z : P0} : X z 204 28 = XI mT z (X z) (.iconst 0, 1, 0, 0, 0, [], nI 0, 0) 204 28 := X_at (r := mi204) rfl rfl
theorem x204_29 {z : P0} : X z 204 29 = XI mT z (X z) (.ireturn, 1, 0, 0, 0, [], 0, 0) 204 29 := X_at (r := mi204) rfl rfl
theorem x205_0 {z : P0} : X z 205 0 = XI mT z (X z) (.aload_n 2, 1, 2, 0, 0, [], 0, 0) 205 0 := X_at (r := mi205) rfl rfl
theorem x205_1 {z : P0} : X z 205 1 = XI mT z (X z) (.iload 5, 2, 5, 0, 0, [], 0, 0) 205 1 := X_at (r := mi205) rfl rfl
theorem x205_3 {z : P0} : X z 205 3 = XI mT z (X z) (.iaload, 1, 0, 0, 0, [], 0, 0) 205 3 := X_at (r := mi205) rfl rfl
theorem x205_4 {z : P0} : X z 205 4 = XI mT z (X z) (.iconst 1, 1, 0, 0, 0, [], nI 1, 0) 205 4 := X_at (r := mi205) rfl rfl
theorem x205_5 {z : P0} : X z 205 5 = XI mT z (X z) (.if_icmp .ne 5, 3, 10, 0, 0, [], 0, 0) 205 5 := X_at (r := mi205) rfl rfl
theorem x205_8 {z : P0} : X z 205 8 = XI mT z (X z) (.iconst 1, 1, 0, 0, 0, [], nI 1, 0) 205 8 := X_at (r := mi205) rfl rfl
theorem x205_9 {z : P0} : X z 205 9 = XI mT z (X z) (.ireturn, 1, 0, 0, 0, [], 0, 0) 205 9 := X_at (r := mi205) rfl rfl
theorem x205_10 {z : P0} : X z 205 10 = XI mT z (X z) (.aload_n 3, 1, 3, 0, 0, [], 0, 0) 205 10 := X_at (r := mi205) rfl rfl
theorem x205_11 {z : P0} : X z 205 11 = XI mT z (X z) (.iload 5, 2, 5, 0, 0, [], 0, 0) 205 11 := X_at (r := mi205) rfl rfl
theorem x205_13 {z : P0} : X z 205 13 = XI mT z (X z) (.iaload, 1, 0, 0, 0, [], 0, 0) 205 13 := X_at (r := mi205) rfl rfl
theorem x205_14 {z : P0} : X z 205 14 = XI mT z (X z) (.ifCond .lt 20, 3, 34, 0, 0, [], 0, 0) 205 14 := X_at (r := mi205) rfl rfl
theorem x205_17 {z : P0} : X z 205 17 = XI mT z (X z) (.aload_n 3, 1, 3, 0, 0, [], 0, 0) 205 17 := X_at (r := mi205) rfl rfl
theorem x205_18 {z : P0} : X z 205 18 = XI mT z (X z) (.iload 5, 2, 5, 0, 0, [], 0, 0) 205 18 := X_at (r := mi205) rfl rfl
theorem x205_20 {z : P0} : X z 205 20 = XI mT z (X z) (.iaload, 1, 0, 0, 0, [], 0, 0) 205 20 := X_at (r := mi205) rfl rfl
theorem x205_21 {z : P0} : X z 205 21 = XI mT z (X z) (.aload_n 0, 1, 0, 0, 0, [], 0, 0) 205 21 := X_at (r := mi205) rfl rfl
theorem x205_22 {z : P0} : X z 205 22 = XI mT z (X z) (.bipush 11, 2, 0, 0, 0, [], nI 11, 0) 205 22 := X_at (r := mi205) rfl rfl
theorem x205_24 {z : P0} : X z 205 24 = XI mT z (X z) (.iaload, 1, 0, 0, 0, [], 0, 0) 205 24 := X_at (r := mi205) rfl rfl
theorem x205_25 {z : P0} : X z 205 25 = XI mT z (X z) (.iadd, 1, 0, 0, 0, [], 0, 0) 205 25 := X_at (r := mi205) rfl rfl
theorem x205_26 {z : P0} : X z 205 26 = XI mT z (X z) (.aload_n 0, 1, 0, 0, 0, [], 0, 0) 205 26 := X_at (r := mi205) rfl rfl
theorem x205_27 {z : P0} : X z 205 27 = XI mT z (X z) (.iconst 3, 1, 0, 0, 0, [], nI 3, 0) 205 27 := X_at (r := mi205) rfl rfl
theorem x205_28 {z : P0} : X z 205 28 = XI mT z (X z) (.iaload, 1, 0, 0, 0, [], 0, 0) 205 28 := X_at (r := mi205) rfl rfl
theorem x205_29 {z : P0} : X z 205 29 = XI mT z (X z) (.if_icmp .le 5, 3, 34, 0, 0, [], 0, 0) 205 29 := X_at (r := mi205) rfl rfl
theorem x205_32 {z : P0} : X z 205 32 = XI mT z (X z) (.iconst 2, 1, 0, 0, 0, [], nI 2, 0) 205 32 := X_at (r := mi205) rfl rfl
theorem x205_33 {z : P0} : X z 205 33 = XI mT z (X z) (.ireturn, 1, 0, 0, 0, [], 0, 0) 205 33 := X_at (r := mi205) rfl rfl
theorem x205_34 {z : P0} : X z 205 34 = XI mT z (X z) (.aload_n 1, 1, 1, 0, 0, [], 0, 0) 205 34 := X_at (r := mi205) rfl rfl
theorem x205_35 {z : P0} : X z 205 35 = XI mT z (X z) (.iload 5, 2, 5, 0, 0, [], 0, 0) 205 35 := X_at (r := mi205) rfl rfl
theorem x205_37 {z : P0} : X z 205 37 = XI mT z (X z) (.iaload, 1, 0, 0, 0, [], 0, 0) 205 37 := X_at (r := mi205) rfl rfl
theorem x205_38 {z : P0} : X z 205 38 = XI mT z (X z) (.ifCond .ge 18, 3, 56, 0, 0, [], 0, 0) 205 38 := X_at (r := mi205) rfl rfl
theorem x205_41 {z : P0} : X z 205 41 = XI mT z (X z) (.aload_n 0, 1, 0, 0, 0, [], 0, 0) 205 41 := X_at (r := mi205) rfl rfl
theorem x205_42 {z : P0} : X z 205 42 = XI mT z (X z) (.aload 4, 2, 4, 0, 0, [], 0, 0) 205 42 := X_at (r := mi205) rfl rfl
theorem x205_44 {z : P0} : X z 205 44 = XI mT z (X z) (.bipush 119, 2, 0, 0, 0, [], nI 119, 0) 205 44 := X_at (r := mi205) rfl rfl
theorem x205_46 {z : P0} : X z 205 46 = XI mT z (X z) (.invokestatic 48, 3, 3, 204, 0, [100], 0, 0) 205 46 := X_at (r := mi205) rfl rfl
theorem x205_49 {z : P0} : X z 205 49 = XI mT z (X z) (.ifCond .eq 7, 3, 56, 0, 0, [], 0, 0) 205 49 := X_at (r := mi205) rfl rfl
theorem x205_52 {z : P0} : X z 205 52 = XI mT z (X z) (.iconst 3, 1, 0, 0, 0, [], nI 3, 0) 205 52 := X_at (r := mi205) rfl rfl
theorem x205_53 {z : P0} : X z 205 53 = XI mT z (X z) (.goto 4, 3, 57, 0, 0, [], 0, 0) 205 53 := X_at (r := mi205) rfl rfl
theorem x205_56 {z : P0} : X z 205 56 = XI mT z (X z) (.iconst 0, 1, 0, 0, 0, [], nI 0, 0) 205 56 := X_at (r := mi205) rfl rfl
theorem x205_57 {z : P0} : X z 205 57 = XI mT z (X z) (.ireturn, 1, 0, 0, 0, [], 0, 0) 205 57 := X_at (r := mi205) rfl rfl
theorem x206_0 {z : P0} : X z 206 0 = XI mT z (X z) (.iconst 0, 1, 0, 0, 0, [], nI 0, 0) 206 0 := X_at (r := mi206) rfl rfl
theorem x206_1 {z : P0} : X z 206 1 = XI mT z (X z) (.istore_n 1, 1, 1, 0, 0, [], 0, 0) 206 1 := X_at (r := mi206) rfl rfl
theorem x206_2 {z : P0} : X z 206 2 = XI mT z (X z) (.iconst 0, 1, 0, 0, 0, [], nI 0, 0) 206 2 := X_at (r := mi206) rfl rfl
theorem x206_3 {z : P0} : X z 206 3 = XI mT z (X z) (.istore_n 2, 1, 2, 0, 0, [], 0, 0) 206 3 := X_at (r := mi206) rfl rfl
theorem x206_4 {z : P0} : X z 206 4 = XI mT z (X z) (.iload_n 2, 1, 2, 0, 0, [], 0, 0) 206 4 := X_at (r := mi206) rfl rfl
theorem x206_5 {z : P0} : X z 206 5 = XI mT z (X z) (.bipush 20, 2, 0, 0, 0, [], nI 20, 0) 206 5 := X_at (r := mi206) rfl rfl
theorem x206_7 {z : P0} : X z 206 7 = XI mT z (X z) (.if_icmp .ge 17, 3, 24, 0, 0, [], 0, 0) 206 7 := X_at (r := mi206) rfl rfl
theorem x206_10 {z : P0} : X z 206 10 = XI mT z (X z) (.iload_n 1, 1, 1, 0, 0, [], 0, 0) 206 10 := X_at (r := mi206) rfl rfl
theorem x206_11 {z : P0} : X z 206 11 = XI mT z (X z) (.iload_n 0, 1, 0, 0, 0, [], 0, 0) 206 11 := X_at (r := mi206) rfl rfl
theorem x206_12 {z : P0} : X z 206 12 = XI mT z (X z) (.iload_n 2, 1, 2, 0, 0, [], 0, 0) 206 12 := X_at (r := mi206) rfl rfl
theorem x206_13 {z : P0} : X z 206 13 = XI mT z (X z) (.ishr, 1, 0, 0, 0, [], 0, 0) 206 13 := X_at (r := mi206) rfl rfl
theorem x206_14 {z : P0} : X z 206 14 = XI mT z (X z) (.iconst 1, 1, 0, 0, 0, [], nI 1, 0) 206 14 := X_at (r := mi206) rfl rfl
theorem x206_15 {z : P0} : X z 206 15 = XI mT z (X z) (.iand, 1, 0, 0, 0, [], 0, 0) 206 15 := X_at (r := mi206) rfl rfl
theorem x206_16 {z : P0} : X z 206 16 = XI mT z (X z) (.iadd, 1, 0, 0, 0, [], 0, 0) 206 16 := X_at (r := mi206) rfl rfl
theorem x206_17 {z : P0} : X z 206 17 = XI mT z (X z) (.istore_n 1, 1, 1, 0, 0, [], 0, 0) 206 17 := X_at (r := mi206) rfl rfl
theorem x206_18 {z : P0} : X z 206 18 = XI mT z (X z) (.iinc 2 1, 3, 2, 0, 0, [], nI 1, 0) 206 18 := X_at (r := mi206) rfl rfl
theorem x206_21 {z : P0} : X z 206 21 = XI mT z (X z) (.goto (-17), 3, 4, 0, 0, [], 0, 0) 206 21 := X_at (r := mi206) rfl rfl
theorem x206_24 {z : P0} : X z 206 24 = XI mT z (X z) (.iload_n 1, 1, 1, 0, 0, [], 0, 0) 206 24 := X_at (r := mi206) rfl rfl
theorem x206_25 {z : P0} : X z 206 25 = XI mT z (X z) (.ireturn, 1, 0, 0, 0, [], 0, 0) 206 25 := X_at (r := mi206) rfl rfl
theorem x207_0 {z : P0} : X z 207 0 = XI mT z (X z) (.aload_n 0, 1, 0, 0, 0, [], 0, 0) 207 0 := X_at (r := mi207) rfl rfl
theorem x207_1 {z : P0} : X z 207 1 = XI mT z (X z) (.bipush 14, 2, 0, 0, 0, [], nI 14, 0) 207 1 := X_at (r := mi207) rfl rfl
theorem x207_3 {z : P0} : X z 207 3 = XI mT z (X z) (.iconst 0, 1, 0, 0, 0, [], nI 0, 0) 207 3 := X_at (r := mi207) rfl rfl
theorem x207_4 {z : P0} : X z 207 4 = XI mT z (X z) (.iastore, 1, 0, 0, 0, [], 0, 0) 207 4 := X_at (r := mi207) rfl rfl
theorem x207_5 {z : P0} : X z 207 5 = XI mT z (X z) (.iconst 0, 1, 0, 0, 0, [], nI 0, 0) 207 5 := X_at (r := mi207) rfl rfl
theorem x207_6 {z : P0} : X z 207 6 = XI mT z (X z) (.istore 7, 2, 7, 0, 0, [], 0, 0) 207 6 := X_at (r := mi207) rfl rfl
theorem x207_8 {z : P0} : X z 207 8 = XI mT z (X z) (.iload 7, 2, 7, 0, 0, [], 0, 0) 207 8 := X_at (r := mi207) rfl rfl
theorem x207_10 {z : P0} : X z 207 10 = XI mT z (X z) (.aload_n 0, 1, 0, 0, 0, [], 0, 0) 207 10 := X_at (r := mi207) rfl rfl
theorem x207_11 {z : P0} : X z 207 11 = XI mT z (X z) (.iconst 0, 1, 0, 0, 0, [], nI 0, 0) 207 11 := X_at (r := mi207) rfl rfl
theorem x207_12 {z : P0} : X z 207 12 = XI mT z (X z) (.iaload, 1, 0, 0, 0, [], 0, 0) 207 12 := X_at (r := mi207) rfl rfl
theorem x207_13 {z : P0} : X z 207 13 = XI mT z (X z) (.if_icmp .ge 142, 3, 155, 0, 0, [], 0, 0) 207 13 := X_at (r := mi207) rfl rfl
theorem x207_16 {z : P0} : X z 207 16 = XI mT z (X z) (.aload_n 0, 1, 0, 0, 0, [], 0, 0) 207 16 := X_at (r := mi207) rfl rfl
theorem x207_17 {z : P0} : X z 207 17 = XI mT z (X z) (.aload_n 2, 1, 2, 0, 0, [], 0, 0) 207 17 := X_at (r := mi207) rfl rfl
theorem x207_18 {z : P0} : X z 207 18 = XI mT z (X z) (.aload_n 3, 1, 3, 0, 0, [], 0, 0) 207 18 := X_at (r := mi207) rfl rfl
theorem x207_19 {z : P0} : X z 207 19 = XI mT z (X z) (.aload 4, 2, 4, 0, 0, [], 0, 0) 207 19 := X_at (r := mi207) rfl rfl
theorem x207_21 {z : P0} : X z 207 21 = XI mT z (X z) (.aload 5, 2, 5, 0, 0, [], 0, 0) 207 21 := X_at (r := mi207) rfl rfl
theorem x207_23 {z : P0} : X z 207 23 = XI mT z (X z) (.iload 7, 2, 7, 0, 0, [], 0, 0) 207 23 := X_at (r := mi207) rfl rfl
theorem x207_25 {z : P0} : X z 207 25 = XI mT z (X z) (.invokestatic 52, 3, 6, 205, 0, [101], 0, 0) 207 25 := X_at (r := mi207) rfl rfl
theorem x207_28 {z : P0} : X z 207 28 = XI mT z (X z) (.ifCond .le 6, 3, 34, 0, 0, [], 0, 0) 207 28 := X_at (r := mi207) rfl rfl
theorem x207_31 {z : P0} : X z 207 31 = XI mT z (X z) (.goto 118, 3, 149, 0, 0, [], 0, 0) 207 31 := X_at (r := mi207) rfl rfl
theorem x207_34 {z : P0} : X z 207 34 = XI mT z (X z) (.iconst (-1), 1, 0, 0, 0, [], (-1), 0) 207 34 := X_at (r := mi207) rfl rfl
theorem x207_35 {z : P0} : X z 207 35 = XI mT z (X z) (.istore 8, 2, 8, 0, 0, [], 0, 0) 207 35 := X_at (r := mi207) rfl rfl
theorem x207_37 {z : P0} : X z 207 37 = XI mT z (X z) (.iconst 0, 1, 0, 0, 0, [], nI 0, 0) 207 37 := X_at (r := mi207) rfl rfl
theorem x207_38 {z : P0} : X z 207 38 = XI mT z (X z) (.istore 9, 2, 9, 0, 0, [], 0, 0) 207 38 := X_at (r := mi207) rfl rfl
theorem x207_40 {z : P0} : X z 207 40 = XI mT z (X z) (.iload 9, 2, 9, 0, 0, [], 0, 0) 207 40 := X_at (r := mi207) rfl rfl
theorem x207_42 {z : P0} : X z 207 42 = XI mT z (X z) (.iload 7, 2, 7, 0, 0, [], 0, 0) 207 42 := X_at (r := mi207) rfl rfl
theorem x207_44 {z : P0} : X z 207 44 = XI mT z (X z) (.if_icmp .ge 71, 3, 115, 0, 0, [], 0, 0) 207 44 := X_at (r := mi207) rfl rfl
theorem x207_47 {z : P0} : X z 207 47 = XI mT z (X z) (.iconst 0, 1, 0, 0, 0, [], nI 0, 0) 207 47 := X_at (r := mi207) rfl rfl
theorem x207_48 {z : P0} : X z 207 48 = XI mT z (X z) (.istore 10, 2, 10, 0, 0, [], 0, 0) 207 48 := X_at (r := mi207) rfl rfl
theorem x207_50 {z : P0} : X z 207 50 = XI mT z (X z) (.iload 10, 2, 10, 0, 0, [], 0, 0) 207 50 := X_at (r := mi207) rfl rfl
theorem x207_52 {z : P0} : X z 207 52 = XI mT z (X z) (.aload_n 0, 1, 0, 0, 0, [], 0, 0) 207 52 := X_at (r := mi207) rfl rfl
theorem x207_53 {z : P0} : X z 207 53 = XI mT z (X z) (.bipush 14, 2, 0, 0, 0, [], nI 14, 0) 207 53 := X_at (r := mi207) rfl rfl
theorem x207_55 {z : P0} : X z 207 55 = XI mT z (X z) (.iaload, 1, 0, 0, 0, [], 0, 0) 207 55 := X_at (r := mi207) rfl rfl
theorem x207_56 {z : P0} : X z 207 56 = XI mT z (X z) (.if_icmp .ge 53, 3, 109, 0, 0, [], 0, 0) 207 56 := X_at (r := mi207) rfl rfl
theorem x207_59 {z : P0} : X z 207 59 = XI mT z (X z) (.aload_n 1, 1, 1, 0, 0, [], 0, 0) 207 59 := X_at (r := mi207) rfl rfl
theorem x207_60 {z : P0} : X z 207 60 = XI mT z (X z) (.iload 9, 2, 9, 0, 0, [], 0, 0) 207 60 := X_at (r := mi207) rfl rfl
theorem x207_62 {z : P0} : X z 207 62 = XI mT z (X z) (.iaload, 1, 0, 0, 0, [], 0, 0) 207 62 := X_at (r := mi207) rfl rfl
theorem x207_63 {z : P0} : X z 207 63 = XI mT z (X z) (.aload_n 1, 1, 1, 0, 0, [], 0, 0) 207 63 := X_at (r := mi207) rfl rfl
theorem x207_64 {z : P0} : X z 207 64 = XI mT z (X z) (.iload 7, 2, 7, 0, 0, [], 0, 0) 207 64 := X_at (r := mi207) rfl rfl
theorem x207_66 {z : P0} : X z 207 66 = XI mT z (X z) (.iaload, 1, 0, 0, 0, [], 0, 0) 207 66 := X_at (r := mi207) rfl rfl
theorem x207_67 {z : P0} : X z 207 67 = XI mT z (X z) (.if_icmp .ne 36, 3, 103, 0, 0, [], 0, 0) 207 67 := X_at (r := mi207) rfl rfl
theorem x207_70 {z : P0} : X z 207 70 = XI mT z (X z) (.aload 6, 2, 6, 0, 0, [], 0, 0) 207 70 := X_at (r := mi207) rfl rfl
theorem x207_72 {z : P0} : X z 207 72 = XI mT z (X z) (.iload 10, 2, 10, 0, 0, [], 0, 0) 207 72 := X_at (r := mi207) rfl rfl
theorem x207_74 {z : P0} : X z 207 74 = XI mT z (X z) (.iaload, 1, 0, 0, 0, [], 0, 0) 207 74 := X_at (r := mi207) rfl rfl
theorem x207_75 {z : P0} : X z 207 75 = XI mT z (X z) (.iload 9, 2, 9, 0, 0, [], 0, 0) 207 75 := X_at (r := mi207) rfl rfl
theorem x207_77 {z : P0} : X z 207 77 = XI mT z (X z) (.ishr, 1, 0, 0, 0, [], 0, 0) 207 77 := X_at (r := mi207) rfl rfl
theorem x207_78 {z : P0} : X z 207 78 = XI mT z (X z) (.iconst 1, 1, 0, 0, 0, [], nI 1, 0) 207 78 := X_at (r := mi207) rfl rfl
theorem x207_79 {z : P0} : X z 207 79 = XI mT z (X z) (.iand, 1, 0, 0, 0, [], 0, 0) 207 79 := X_at (r := mi207) rfl rfl
theorem x207_80 {z : P0} : X z 207 80 = XI mT z (X z) (.iconst 1, 1, 0, 0, 0, [], nI 1, 0) 207 80 := X_at (r := mi207) rfl rfl
theorem x207_81 {z : P0} : X z 207 81 = XI mT z (X z) (.if_icmp .ne 22, 3, 103, 0, 0, [], 0, 0) 207 81 := X_at (r := mi207) rfl rfl
theorem x207_84 {z : P0} : X z 207 84 = XI mT z (X z) (.aload 6, 2, 6, 0, 0, [], 0, 0) 207 84 := X_at (r := mi207) rfl rfl
theorem x207_86 {z : P0} : X z 207 86 = XI mT z (X z) (.iload 10, 2, 10, 0, 0, [], 0, 0) 207 86 := X_at (r := mi207) rfl rfl
theorem x207_88 {z : P0} : X z 207 88 = XI mT z (X z) (.iaload, 1, 0, 0, 0, [], 0, 0) 207 88 := X_at (r := mi207) rfl rfl
theorem x207_89 {z : P0} : X z 207 89 = XI mT z (X z) (.invokestatic 56, 3, 1, 206, 0, [102], 0, 0) 207 89 := X_at (r := mi207) rfl rfl
theorem x207_92 {z : P0} : X z 207 92 = XI mT z (X z) (.aload_n 0, 1, 0, 0, 0, [], 0, 0) 207 92 := X_at (r := mi207) rfl rfl
theorem x207_93 {z : P0} : X z 207 93 = XI mT z (X z) (.bipush 10, 2, 0, 0, 0, [], nI 10, 0) 207 93 := X_at (r := mi207) rfl rfl
theorem x207_95 {z : P0} : X z 207 95 = XI mT z (X z) (.iaload, 1, 0, 0, 0, [], 0, 0) 207 95 := X_at (r := mi207) rfl rfl
theorem x207_96 {z : P0} : X z 207 96 = XI mT z (X z) (.if_icmp .ge 7, 3, 103, 0, 0, [], 0, 0) 207 96 := X_at (r := mi207) rfl rfl
theorem x207_99 {z : P0} : X z 207 99 = XI mT z (X z) (.iload 10, 2, 10, 0, 0, [], 0, 0) 207 99 := X_at (r := mi207) rfl rfl
theorem x207_101 {z : P0} : X z 207 101 = XI mT z (X z) (.istore 8, 2, 8, 0, 0, [], 0, 0) 207 101 := X_at (r := mi207) rfl rfl
theorem x207_103 {z : P0} : X z 207 103 = XI mT z (X z) (.iinc 10 1, 3, 10, 0, 0, [], nI 1, 0) 207 103 := X_at (r := mi207) rfl rfl
theorem x207_106 {z : P0} : X z 207 106 = XI mT z (X z) (.goto (-56), 3, 50, 0, 0, [], 0, 0) 207 106 := X_at (r := mi207) rfl rfl
theorem x207_109 {z : P0} : X z 207 109 = XI mT z (X z) (.iinc 9 1, 3, 9, 0, 0, [], nI 1, 0) 207 109 := X_at (r := mi207) rfl rfl
theorem x207_112 {z : P0} : X z 207 112 = XI mT z (X z) (.goto (-72), 3, 40, 0, 0, [], 0, 0) 207 112 := X_at (r := mi207) rfl rfl
theorem x207_115 {z : P0} : X z 207 115 = XI mT z (X z) (.iload 8, 2, 8, 0, 0, [], 0, 0) 207 115 := X_at (r := mi207) rfl rfl
theorem x207_117 {z : P0} : X z 207 117 = XI mT z (X z) (.ifCond .ge 20, 3, 137, 0, 0, [], 0, 0) 207 117 := X_at (r := mi207) rfl rfl
theorem x207_120 {z : P0} : X z 207 120 = XI mT z (X z) (.aload_n 0, 1, 0, 0, 0, [], 0, 0) 207 120 := X_at (r := mi207) rfl rfl
theorem x207_121 {z : P0} : X z 207 121 = XI mT z (X z) (.bipush 14, 2, 0, 0, 0, [], nI 14, 0) 207 121 := X_at (r := mi207) rfl rfl
theorem x207_123 {z : P0} : X z 207 123 = XI mT z (X z) (.dup2, 1, 0, 0, 0, [], 0, 0) 207 123 := X_at (r := mi207) rfl rfl
theorem x207_124 {z : P0} : X z 207 124 = XI mT z (X z) (.iaload, 1, 0, 0, 0, [], 0, 0) 207 124 := X_at (r := mi207) rfl rfl
theorem x207_125 {z : P0} : X z 207 125 = XI mT z (X z) (.dup_x2, 1, 0, 0, 0, [], 0, 0) 207 125 := X_at (r := mi207) rfl rfl
theorem x207_126 {z : P0} : X z 207 126 = XI mT z (X z) (.iconst 1, 1, 0, 0, 0, [], nI 1, 0) 207 126 := X_at (r := mi207) rfl rfl
theorem x207_127 {z : P0} : X z 207 127 = XI mT z (X z) (.iadd, 1, 0, 0, 0, [], 0, 0) 207 127 := X_at (r := mi207) rfl rfl
theorem x207_128 {z : P0} : X z 207 128 = XI mT z (X z) (.iastore, 1, 0, 0, 0, [], 0, 0) 207 128 := X_at (r := mi207) rfl rfl
theorem x207_129 {z : P0} : X z 207 129 = XI mT z (X z) (.istore 8, 2, 8, 0, 0, [], 0, 0) 207 129 := X_at (r := mi207) rfl rfl
theorem x207_131 {z : P0} : X z 207 131 = XI mT z (X z) (.aload 6, 2, 6, 0, 0, [], 0, 0) 207 131 := X_at (r := mi207) rfl rfl
theorem x207_133 {z : P0} : X z 207 133 = XI mT z (X z) (.iload 8, 2, 8, 0, 0, [], 0, 0) 207 133 := X_at (r := mi207) rfl rfl
theorem x207_135 {z : P0} : X z 207 135 = XI mT z (X z) (.iconst 0, 1, 0, 0, 0, [], nI 0, 0) 207 135 := X_at (r := mi207) rfl rfl
theorem x207_136 {z : P0} : X z 207 136 = XI mT z (X z) (.iastore, 1, 0, 0, 0, [], 0, 0) 207 136 := X_at (r := mi207) rfl rfl
theorem x207_137 {z : P0} : X z 207 137 = XI mT z (X z) (.aload 6, 2, 6, 0, 0, [], 0, 0) 207 137 := X_at (r := mi207) rfl rfl
theorem x207_139 {z : P0} : X z 207 139 = XI mT z (X z) (.iload 8, 2, 8, 0, 0, [], 0, 0) 207 139 := X_at (r := mi207) rfl rfl
theorem x207_141 {z : P0} : X z 207 141 = XI mT z (X z) (.dup2, 1, 0, 0, 0, [], 0, 0) 207 141 := X_at (r := mi207) rfl rfl
theorem x207_142 {z : P0} : X z 207 142 = XI mT z (X z) (.iaload, 1, 0, 0, 0, [], 0, 0) 207 142 := X_at (r := mi207) rfl rfl
theorem x207_143 {z : P0} : X z 207 143 = XI mT z (X z) (.iconst 1, 1, 0, 0, 0, [], nI 1, 0) 207 143 := X_at (r := mi207) rfl rfl
theorem x207_144 {z : P0} : X z 207 144 = XI mT z (X z) (.iload 7, 2, 7, 0, 0, [], 0, 0) 207 144 := X_at (r := mi207) rfl rfl
theorem x207_146 {z : P0} : X z 207 146 = XI mT z (X z) (.ishl, 1, 0, 0, 0, [], 0, 0) 207 146 := X_at (r := mi207) rfl rfl
theorem x207_147 {z : P0} : X z 207 147 = XI mT z (X z) (.ior, 1, 0, 0, 0, [], 0, 0) 207 147 := X_at (r := mi207) rfl rfl
theorem x207_148 {z : P0} : X z 207 148 = XI mT z (X z) (.iastore, 1, 0, 0, 0, [], 0, 0) 207 148 := X_at (r := mi207) rfl rfl
theorem x207_149 {z : P0} : X z 207 149 = XI mT z (X z) (.iinc 7 1, 3, 7, 0, 0, [], nI 1, 0) 207 149 := X_at (r := mi207) rfl rfl
theorem x207_152 {z : P0} : X z 207 152 = XI mT z (X z) (.goto (-144), 3, 8, 0, 0, [], 0, 0) 207 152 := X_at (r := mi207) rfl rfl
theorem x207_155 {z : P0} : X z 207 155 = XI mT z (X z) (.return_, 1, 0, 0, 0, [], 0, 0) 207 155 := X_at (r := mi207) rfl rfl
theorem x208_0 {z : P0} : X z 208 0 = XI mT z (X z) (.aload_n 1, 1, 1, 0, 0, [], 0, 0) 208 0 := X_at (r := mi208) rfl rfl
theorem x208_1 {z : P0} : X z 208 1 = XI mT z (X z) (.iload_n 2, 1, 2, 0, 0, [], 0, 0) 208 1 := X_at (r := mi208) rfl rfl
theorem x208_2 {z : P0} : X z 208 2 = XI mT z (X z) (.iaload, 1, 0, 0, 0, [], 0, 0) 208 2 := X_at (r := mi208) rfl rfl
theorem x208_3 {z : P0} : X z 208 3 = XI mT z (X z) (.bipush 16, 2, 0, 0, 0, [], nI 16, 0) 208 3 := X_at (r := mi208) rfl rfl
theorem x208_5 {z : P0} : X z 208 5 = XI mT z (X z) (.irem, 1, 0, 0, 0, [], 0, 0) 208 5 := X_at (r := mi208) rfl rfl
theorem x208_6 {z : P0} : X z 208 6 = XI mT z (X z) (.istore_n 3, 1, 3, 0, 0, [], 0, 0) 208 6 := X_at (r := mi208) rfl rfl
theorem x208_7 {z : P0} : X z 208 7 = XI mT z (X z) (.iconst 1, 1, 0, 0, 0, [], nI 1, 0) 208 7 := X_at (r := mi208) rfl rfl
theorem x208_8 {z : P0} : X z 208 8 = XI mT z (X z) (.iload_n 2, 1, 2, 0, 0, [], 0, 0) 208 8 := X_at (r := mi208) rfl rfl
theorem x208_9 {z : P0} : X z 208 9 = XI mT z (X z) (.iload_n 3, 1, 3, 0, 0, [], 0, 0) 208 9 := X_at (r := mi208) rfl rfl
theorem x208_10 {z : P0} : X z 208 10 = XI mT z (X z) (.iconst 0, 1, 0, 0, 0, [], nI 0, 0) 208 10 := X_at (r := mi208) rfl rfl
theorem x208_11 {z : P0} : X z 208 11 = XI mT z (X z) (.invokestatic 14, 3, 4, 194, 0, [91], 0, 0) 208 11 := X_at (r := mi208) rfl rfl
theorem x208_14 {z : P0} : X z 208 14 = XI mT z (X z) (.istore 4, 2, 4, 0, 0, [], 0, 0) 208 14 := X_at (r := mi208) rfl rfl
theorem x208_16 {z : P0} : X z 208 16 = XI mT z (X z) (.iload 4, 2, 4, 0, 0, [], 0, 0) 208 16 := X_at (r := mi208) rfl rfl
theorem x208_18 {z : P0} : X z 208 18 = XI mT z (X z) (.bipush 97, 2, 0, 0, 0, [], nI 97, 0) 208 18 := X_at (r := mi208) rfl rfl
theorem x208_20 {z : P0} : X z 208 20 = XI mT z (X z) (.if_icmp .eq 31, 3, 51, 0, 0, [], 0, 0) 208 20 := X_at (r := mi208) rfl rfl
theorem x208_23 {z : P0} : X z 208 23 = XI mT z (X z) (.iload 4, 2, 4, 0, 0, [], 0, 0) 208 23 := X_at (r := mi208) rfl rfl
theorem x208_25 {z : P0} : X z 208 25 = XI mT z (X z) (.bipush 101, 2, 0, 0, 0, [], nI 101, 0) 208 25 := X_at (r := mi208) rfl rfl
theorem x208_27 {z : P0} : X z 208 27 = XI mT z (X z) (.if_icmp .eq 24, 3, 51, 0, 0, [], 0, 0) 208 27 := X_at (r := mi208) rfl rfl
theorem x208_30 {z : P0} : X z 208 30 = XI mT z (X z) (.iload 4, 2, 4, 0, 0, [], 0, 0) 208 30 := X_at (r := mi208) rfl rfl
theorem x208_32 {z : P0} : X z 208 32 = XI mT z (X z) (.bipush 105, 2, 0, 0, 0, [], nI 105, 0) 208 32 := X_at (r := mi208) rfl rfl
theorem x208_34 {z : P0} : X z 208 34 = XI mT z (X z) (.if_icmp .eq 17, 3, 51, 0, 0, [], 0, 0) 208 34 := X_at (r := mi208) rfl rfl
theorem x208_37 {z : P0} : X z 208 37 = XI mT z (X z) (.iload 4, 2, 4, 0, 0, [], 0, 0) 208 37 := X_at (r := mi208) rfl rfl
theorem x208_39 {z : P0} : X z 208 39 = XI mT z (X z) (.bipush 111, 2, 0, 0, 0, [], nI 111, 0) 208 39 := X_at (r := mi208) rfl rfl
theorem x208_41 {z : P0} : X z 208 41 = XI mT z (X z) (.if_icmp .eq 10, 3, 51, 0, 0, [], 0, 0) 208 41 := X_at (r := mi208) rfl rfl
theorem x208_44 {z : P0} : X z 208 44 = XI mT z (X z) (.iload 4, 2, 4, 0, 0, [], 0, 0) 208 44 := X_at (r := mi208) rfl rfl
theorem x208_46 {z : P0} : X z 208 46 = XI mT z (X z) (.bipush 117, 2, 0, 0, 0, [], nI 117, 0) 208 46 := X_at (r := mi208) rfl rfl
theorem x208_48 {z : P0} : X z 208 48 = XI mT z (X z) (.if_icmp .ne 7, 3, 55, 0, 0, [], 0, 0) 208 48 := X_at (r := mi208) rfl rfl
theorem x208_51 {z : P0} : X z 208 51 = XI mT z (X z) (.iconst 1, 1, 0, 0, 0, [], nI 1, 0) 208 51 := X_at (r := mi208) rfl rfl
theorem x208_52 {z : P0} : X z 208 52 = XI mT z (X z) (.goto 4, 3, 56, 0, 0, [], 0, 0) 208 52 := X_at (r := mi208) rfl rfl
theorem x208_55 {z : P0} : X z 208 55 = XI mT z (X z) (.iconst 0, 1, 0, 0, 0, [], nI 0, 0) 208 55 := X_at (r := mi208) rfl rfl
theorem x208_56 {z : P0} : X z 208 56 = XI mT z (X z) (.istore 5, 2, 5, 0, 0, [], 0, 0) 208 56 := X_at (r := mi208) rfl rfl
theorem x208_58 {z : P0} : X z 208 58 = XI mT z (X z) (.aload_n 1, 1, 1, 0, 0, [], 0, 0) 208 58 := X_at (r := mi208) rfl rfl
theorem x208_59 {z : P0} : X z 208 59 = XI mT z (X z) (.iload_n 2, 1, 2, 0, 0, [], 0, 0) 208 59 := X_at (r := mi208) rfl rfl
theorem x208_60 {z : P0} : X z 208 60 = XI mT z (X z) (.iaload, 1, 0, 0, 0, [], 0, 0) 208 60 := X_at (r := mi208) rfl rfl
theorem x208_61 {z : P0} : X z 208 61 = XI mT z (X z) (.bipush 15, 2, 0, 0, 0, [], nI 15, 0) 208 61 := X_at (r := mi208) rfl rfl
theorem x208_63 {z : P0} : X z 208 63 = XI mT z (X z) (.if_icmp .le 30, 3, 93, 0, 0, [], 0, 0) 208 63 := X_at (r := mi208) rfl rfl
theorem x208_66 {z : P0} : X z 208 66 = XI mT z (X z) (.aload_n 0, 1, 0, 0, 0, [], 0, 0) 208 66 := X_at (r := mi208) rfl rfl
theorem x208_67 {z : P0} : X z 208 67 = XI mT z (X z) (.bipush 115, 2, 0, 0, 0, [], nI 115, 0) 208 67 := X_at (r := mi208) rfl rfl
theorem x208_69 {z : P0} : X z 208 69 = XI mT z (X z) (.invokestatic 59, 3, 2, 202, 0, [103], 0, 0) 208 69 := X_at (r := mi208) rfl rfl
theorem x208_72 {z : P0} : X z 208 72 = XI mT z (X z) (.aload_n 0, 1, 0, 0, 0, [], 0, 0) 208 72 := X_at (r := mi208) rfl rfl
theorem x208_73 {z : P0} : X z 208 73 = XI mT z (X z) (.bipush 111, 2, 0, 0, 0, [], nI 111, 0) 208 73 := X_at (r := mi208) rfl rfl
theorem x208_75 {z : P0} : X z 208 75 = XI mT z (X z) (.invokestatic 59, 3, 2, 202, 0, [103], 0, 0) 208 75 := X_at (r := mi208) rfl rfl
theorem x208_78 {z : P0} : X z 208 78 = XI mT z (X z) (.aload_n 0, 1, 0, 0, 0, [], 0, 0) 208 78 := X_at (r := mi208) rfl rfl
theorem x208_79 {z : P0} : X z 208 79 = XI mT z (X z) (.bipush 109, 2, 0, 0, 0, [], nI 109, 0) 208 79 := X_at (r := mi208) rfl rfl
theorem x208_81 {z : P0} : X z 208 81 = XI mT z (X z) (.invokestatic 59, 3, 2, 202, 0, [103], 0, 0) 208 81 := X_at (r := mi208) rfl rfl
theorem x208_84 {z : P0} : X z 208 84 = XI mT z (X z) (.aload_n 0, 1, 0, 0, 0, [], 0, 0) 208 84 := X_at (r := mi208) rfl rfl
theorem x208_85 {z : P0} : X z 208 85 = XI mT z (X z) (.bipush 101, 2, 0, 0, 0, [], nI 101, 0) 208 85 := X_at (r := mi208) rfl rfl
theorem x208_87 {z : P0} : X z 208 87 = XI mT z (X z) (.invokestatic 59, 3, 2, 202, 0, [103], 0, 0) 208 87 := X_at (r := mi208) rfl rfl
theorem x208_90 {z : P0} : X z 208 90 = XI mT z (X z) (.goto 20, 3, 110, 0, 0, [], 0, 0) 208 90 := X_at (r := mi208) rfl rfl
theorem x208_93 {z : P0} : X z 208 93 = XI mT z (X z) (.aload_n 0, 1, 0, 0, 0, [], 0, 0) 208 93 := X_at (r := mi208) rfl rfl
theorem x208_94 {z : P0} : X z 208 94 = XI mT z (X z) (.bipush 97, 2, 0, 0, 0, [], nI 97, 0) 208 94 := X_at (r := mi208) rfl rfl
theorem x208_96 {z : P0} : X z 208 96 = XI mT z (X z) (.invokestatic 59, 3, 2, 202, 0, [103], 0, 0) 208 96 := X_at (r := mi208) rfl rfl
theorem x208_99 {z : P0} : X z 208 99 = XI mT z (X z) (.iload 5, 2, 5, 0, 0, [], 0, 0) 208 99 := X_at (r := mi208) rfl rfl
theorem x208_101 {z : P0} : X z 208 101 = XI mT z (X z) (.ifCond .eq 9, 3, 110, 0, 0, [], 0, 0) 208 101 := X_at (r := mi208) rfl rfl
theorem x208_104 {z : P0} : X z 208 104 = XI mT z (X z) (.aload_n 0, 1, 0, 0, 0, [], 0, 0) 208 104 := X_at (r := mi208) rfl rfl
theorem x208_105 {z : P0} : X z 208 105 = XI mT z (X z) (.bipush 110, 2, 0, 0, 0, [], nI 110, 0) 208 105 := X_at (r := mi208) rfl rfl
theorem x208_107 {z : P0} : X z 208 107 = XI mT z (X z) (.invokestatic 59, 3, 2, 202, 0, [103], 0, 0) 208 107 := X_at (r := mi208) rfl rfl
theorem x208_110 {z : P0} : X z 208 110 = XI mT z (X z) (.aload_n 0, 1, 0, 0, 0, [], 0, 0) 208 110 := X_at (r := mi208) rfl rfl
theorem x208_111 {z : P0} : X z 208 111 = XI mT z (X z) (.bipush 95, 2, 0, 0, 0, [], nI 95, 0) 208 111 := X_at (r := mi208) rfl rfl
theorem x208_113 {z : P0} : X z 208 113 = XI mT z (X z) (.invokestatic 59, 3, 2, 202, 0, [103], 0, 0) 208 113 := X_at (r := mi208) rfl rfl
theorem x208_116 {z : P0} : X z 208 116 = XI mT z (X z) (.iconst 0, 1, 0, 0, 0, [], nI 0, 0) 208 116 := X_at (r := mi208) rfl rfl
theorem x208_117 {z : P0} : X z 208 117 = XI mT z (X z) (.istore 6, 2, 6, 0, 0, [], 0, 0) 208 117 := X_at (r := mi208) rfl rfl
theorem x208_119 {z : P0} : X z 208 119 = XI mT z (X z) (.iload 6, 2, 6, 0, 0, [], 0, 0) 208 119 := X_at (r := mi208) rfl rfl
theorem x208_121 {z : P0} : X z 208 121 = XI mT z (X z) (.iload_n 3, 1, 3, 0, 0, [], 0, 0) 208 121 := X_at (r := mi208) rfl rfl
theorem x208_122 {z : P0} : X z 208 122 = XI mT z (X z) (.if_icmp .ge 21, 3, 143, 0, 0, [], 0, 0) 208 122 := X_at (r := mi208) rfl rfl
theorem x208_125 {z : P0} : X z 208 125 = XI mT z (X z) (.aload_n 0, 1, 0, 0, 0, [], 0, 0) 208 125 := X_at (r := mi208) rfl rfl
theorem x208_126 {z : P0} : X z 208 126 = XI mT z (X z) (.iconst 1, 1, 0, 0, 0, [], nI 1, 0) 208 126 := X_at (r := mi208) rfl rfl
theorem x208_127 {z : P0} : X z 208 127 = XI mT z (X z) (.iload_n 2, 1, 2, 0, 0, [], 0, 0) 208 127 := X_at (r := mi208) rfl rfl
theorem x208_128 {z : P0} : X z 208 128 = XI mT z (X z) (.iload_n 3, 1, 3, 0, 0, [], 0, 0) 208 128 := X_at (r := mi208) rfl rfl
theorem x208_129 {z : P0} : X z 208 129 = XI mT z (X z) (.iload 6, 2, 6, 0, 0, [], 0, 0) 208 129 := X_at (r := mi208) rfl rfl
theorem x208_131 {z : P0} : X z 208 131 = XI mT z (X z) (.invokestatic 14, 3, 4, 194, 0, [91], 0, 0) 208 131 := X_at (r := mi208) rfl rfl
theorem x208_134 {z : P0} : X z 208 134 = XI mT z (X z) (.invokestatic 59, 3, 2, 202, 0, [103], 0, 0) 208 134 := X_at (r := mi208) rfl rfl
theorem x208_137 {z : P0} : X z 208 137 = XI mT z (X z) (.iinc 6 1, 3, 6, 0, 0, [], nI 1, 0) 208 137 := X_at (r := mi208) rfl rfl
theorem x208_140 {z : P0} : X z 208 140 = XI mT z (X z) (.goto (-21), 3, 119, 0, 0, [], 0, 0) 208 140 := X_at (r := mi208) rfl rfl
theorem x208_143 {z : P0} : X z 208 143 = XI mT z (X z) (.return_, 1, 0, 0, 0, [], 0, 0) 208 143 := X_at (r := mi208) rfl rfl
theorem x209_0 {z : P0} : X z 209 0 = XI mT z (X z) (.iconst 0, 1, 0, 0, 0, [], nI 0, 0) 209 0 := X_at (r := mi209) rfl rfl
theorem x209_1 {z : P0} : X z 209 1 = XI mT z (X z) (.istore 6, 2, 6, 0, 0, [], 0, 0) 209 1 := X_at (r := mi209) rfl rfl
theorem x209_3 {z : P0} : X z 209 3 = XI mT z (X z) (.iconst 0, 1, 0, 0, 0, [], nI 0, 0) 209 3 := X_at (r := mi209) rfl rfl
theorem x209_4 {z : P0} : X z 209 4 = XI mT z (X z) (.istore 7, 2, 7, 0, 0, [], 0, 0) 209 4 := X_at (r := mi209) rfl rfl
theorem x209_6 {z : P0} : X z 209 6 = XI mT z (X z) (.iconst 0, 1, 0, 0, 0, [], nI 0, 0) 209 6 := X_at (r := mi209) rfl rfl
theorem x209_7 {z : P0} : X z 209 7 = XI mT z (X z) (.istore 8, 2, 8, 0, 0, [], 0, 0) 209 7 := X_at (r := mi209) rfl rfl
theorem x209_9 {z : P0} : X z 209 9 = XI mT z (X z) (.iload 8, 2, 8, 0, 0, [], 0, 0) 209 9 := X_at (r := mi209) rfl rfl
theorem x209_11 {z : P0} : X z 209 11 = XI mT z (X z) (.bipush 20, 2, 0, 0, 0, [], nI 20, 0) 209 11 := X_at (r := mi209) rfl rfl
theorem x209_13 {z : P0} : X z 209 13 = XI mT z (X z) (.if_icmp .ge 54, 3, 67, 0, 0, [], 0, 0) 209 13 := X_at (r := mi209) rfl rfl
theorem x209_16 {z : P0} : X z 209 16 = XI mT z (X z) (.iload_n 2, 1, 2, 0, 0, [], 0, 0) 209 16 := X_at (r := mi209) rfl rfl
theorem x209_17 {z : P0} : X z 209 17 = XI mT z (X z) (.iload 8, 2, 8, 0, 0, [], 0, 0) 209 17 := X_at (r := mi209) rfl rfl
theorem x209_19 {z : P0} : X z 209 19 = XI mT z (X z) (.ishr, 1, 0, 0, 0, [], 0, 0) 209 19 := X_at (r := mi209) rfl rfl
theorem x209_20 {z : P0} : X z 209 20 = XI mT z (X z) (.iconst 1, 1, 0, 0, 0, [], nI 1, 0) 209 20 := X_at (r := mi209) rfl rfl
theorem x209_21 {z : P0} : X z 209 21 = XI mT z (X z) (.iand, 1, 0, 0, 0, [], 0, 0) 209 21 := X_at (r := mi209) rfl rfl
theorem x209_22 {z : P0} : X z 209 22 = XI mT z (X z) (.iconst 1, 1, 0, 0, 0, [], nI 1, 0) 209 22 := X_at (r := mi209) rfl rfl
theorem x209_23 {z : P0} : X z 209 23 = XI mT z (X z) (.if_icmp .ne 38, 3, 61, 0, 0, [], 0, 0) 209 23 := X_at (r := mi209) rfl rfl
theorem x209_26 {z : P0} : X z 209 26 = XI mT z (X z) (.iload_n 1, 1, 1, 0, 0, [], 0, 0) 209 26 := X_at (r := mi209) rfl rfl
theorem x209_27 {z : P0} : X z 209 27 = XI mT z (X z) (.ifCond .eq 15, 3, 42, 0, 0, [], 0, 0) 209 27 := X_at (r := mi209) rfl rfl
theorem x209_30 {z : P0} : X z 209 30 = XI mT z (X z) (.iload 7, 2, 7, 0, 0, [], 0, 0) 209 30 := X_at (r := mi209) rfl rfl
theorem x209_32 {z : P0} : X z 209 32 = XI mT z (X z) (.aload_n 3, 1, 3, 0, 0, [], 0, 0) 209 32 := X_at (r := mi209) rfl rfl
theorem x209_33 {z : P0} : X z 209 33 = XI mT z (X z) (.iload 8, 2, 8, 0, 0, [], 0, 0) 209 33 := X_at (r := mi209) rfl rfl
theorem x209_35 {z : P0} : X z 209 35 = XI mT z (X z) (.iaload, 1, 0, 0, 0, [], 0, 0) 209 35 := X_at (r := mi209) rfl rfl
theorem x209_36 {z : P0} : X z 209 36 = XI mT z (X z) (.ishr, 1, 0, 0, 0, [], 0, 0) 209 36 := X_at (r := mi209) rfl rfl
theorem x209_37 {z : P0} : X z 209 37 = XI mT z (X z) (.iconst 1, 1, 0, 0, 0, [], nI 1, 0) 209 37 := X_at (r := mi209) rfl rfl
theorem x209_38 {z : P0} : X z 209 38 = XI mT z (X z) (.iand, 1, 0, 0, 0, [], 0, 0) 209 38 := X_at (r := mi209) rfl rfl
theorem x209_39 {z : P0} : X z 209 39 = XI mT z (X z) (.ifCond .ne 22, 3, 61, 0, 0, [], 0, 0) 209 39 := X_at (r := mi209) rfl rfl
theorem x209_42 {z : P0} : X z 209 42 = XI mT z (X z) (.iload_n 1, 1, 1, 0, 0, [], 0, 0) 209 42 := X_at (r := mi209) rfl rfl
theorem x209_43 {z : P0} : X z 209 43 = XI mT z (X z) (.iconst 1, 1, 0, 0, 0, [], nI 1, 0) 209 43 := X_at (r := mi209) rfl rfl
theorem x209_44 {z : P0} : X z 209 44 = XI mT z (X z) (.if_icmp .ne 14, 3, 58, 0, 0, [], 0, 0) 209 44 := X_at (r := mi209) rfl rfl
theorem x209_47 {z : P0} : X z 209 47 = XI mT z (X z) (.iload 7, 2, 7, 0, 0, [], 0, 0) 209 47 := X_at (r := mi209) rfl rfl
theorem x209_49 {z : P0} : X z 209 49 = XI mT z (X z) (.iconst 1, 1, 0, 0, 0, [], nI 1, 0) 209 49 := X_at (r := mi209) rfl rfl
theorem x209_50 {z : P0} : X z 209 50 = XI mT z (X z) (.aload_n 3, 1, 3, 0, 0, [], 0, 0) 209 50 := X_at (r := mi209) rfl rfl
theorem x209_51 {z : P0} : X z 209 51 = XI mT z (X z) (.iload 8, 2, 8, 0, 0, [], 0, 0) 209 51 := X_at (r := mi209) rfl rfl
theorem x209_53 {z : P0} : X z 209 53 = XI mT z (X z) (.iaload, 1, 0, 0, 0, [], 0, 0) 209 53 := X_at (r := mi209) rfl rfl
theorem x209_54 {z : P0} : X z 209 54 = XI mT z (X z) (.ishl, 1, 0, 0, 0, [], 0, 0) 209 54 := X_at (r := mi209) rfl rfl
theorem x209_55 {z : P0} : X z 209 55 = XI mT z (X z) (.ior, 1, 0, 0, 0, [], 0, 0) 209 55 := X_at (r := mi209) rfl rfl
theorem x209_56 {z : P0} : X z 209 56 = XI mT z (X z) (.istore 7, 2, 7, 0, 0, [], 0, 0) 209 56 := X_at (r := mi209) rfl rfl
theorem x209_58 {z : P0} : X z 209 58 = XI mT z (X z) (.iinc 6 1, 3, 6, 0, 0, [], nI 1, 0) 209 58 := X_at (r := mi209) rfl rfl
theorem x209_61 {z : P0} : X z 209 61 = XI mT z (X z) (.iinc 8 1, 3, 8, 0, 0, [], nI 1, 0) 209 61 := X_at (r := mi209) rfl rfl
theorem x209_64 {z : P0} : X z 209 64 = XI mT z (X z) (.goto (-55), 3, 9, 0, 0, [], 0, 0) 209 64 := X_at (r := mi209) rfl rfl
theorem x209_67 {z : P0} : X z 209 67 = XI mT z (X z) (.iconst 0, 1, 0, 0, 0, [], nI 0, 0) 209 67 := X_at (r := mi209) rfl rfl
theorem x209_68 {z : P0} : X z 209 68 = XI mT z (X z) (.istore 8, 2, 8, 0, 0, [], 0, 0) 209 68 := X_at (r := mi209) rfl rfl
theorem x209_70 {z : P0} : X z 209 70 = XI mT z (X z) (.iconst 0, 1, 0, 0, 0, [], nI 0, 0) 209 70 := X_at (r := mi209) rfl rfl
theorem x209_71 {z : P0} : X z 209 71 = XI mT z (X z) (.istore 9, 2, 9, 0, 0, [], 0, 0) 209 71 := X_at (r := mi209) rfl rfl
theorem x209_73 {z : P0} : X z 209 73 = XI mT z (X z) (.iload 9, 2, 9, 0, 0, [], 0, 0) 209 73 := X_at (r := mi209) rfl rfl
theorem x209_75 {z : P0} : X z 209 75 = XI mT z (X z) (.bipush 20, 2, 0, 0, 0, [], nI 20, 0) 209 75 := X_at (r := mi209) rfl rfl
theorem x209_77 {z : P0} : X z 209 77 = XI mT z (X z) (.if_icmp .ge 136, 3, 213, 0, 0, [], 0, 0) 209 77 := X_at (r := mi209) rfl rfl
theorem x209_80 {z : P0} : X z 209 80 = XI mT z (X z) (.iload_n 2, 1, 2, 0, 0, [], 0, 0) 209 80 := X_at (r := mi209) rfl rfl
theorem x209_81 {z : P0} : X z 209 81 = XI mT z (X z) (.iload 9, 2, 9, 0, 0, [], 0, 0) 209 81 := X_at (r := mi209) rfl rfl
theorem x209_83 {z : P0} : X z 209 83 = XI mT z (X z) (.ishr, 1, 0, 0, 0, [], 0, 0) 209 83 := X_at (r := mi209) rfl rfl
theorem x209_84 {z : P0} : X z 209 84 = XI mT z (X z) (.iconst 1, 1, 0, 0, 0, [], nI 1, 0) 209 84 := X_at (r := mi209) rfl rfl
theorem x209_85 {z : P0} : X z 209 85 = XI mT z (X z) (.iand, 1, 0, 0, 0, [], 0, 0) 209 85 := X_at (r := mi209) rfl rfl
theorem x209_86 {z : P0} : X z 209 86 = XI mT z (X z) (.iconst 1, 1, 0, 0, 0, [], nI 1, 0) 209 86 := X_at (r := mi209) rfl rfl
theorem x209_87 {z : P0} : X z 209 87 = XI mT z (X z) (.if_icmp .ne 120, 3, 207, 0, 0, [], 0, 0) 209 87 := X_at (r := mi209) rfl rfl
theorem x209_90 {z : P0} : X z 209 90 = XI mT z (X z) (.iload_n 1, 1, 1, 0, 0, [], 0, 0) 209 90 := X_at (r := mi209) rfl rfl
theorem x209_91 {z : P0} : X z 209 91 = XI mT z (X z) (.ifCond .eq 16, 3, 107, 0, 0, [], 0, 0) 209 91 := X_at (r := mi209) rfl rfl
theorem x209_94 {z : P0} : X z 209 94 = XI mT z (X z) (.iload 7, 2, 7, 0, 0, [], 0, 0) 209 94 := X_at (r := mi209) rfl rfl
theorem x209_96 {z : P0} : X z 209 96 = XI mT z (X z) (.aload_n 3, 1, 3, 0, 0, [], 0, 0) 209 96 := X_at (r := mi209) rfl rfl
theorem x209_97 {z : P0} : X z 209 97 = XI mT z (X z) (.iload 9, 2, 9, 0, 0, [], 0, 0) 209 97 := X_at (r := mi209) rfl rfl
theorem x209_99 {z : P0} : X z 209 99 = XI mT z (X z) (.iaload, 1, 0, 0, 0, [], 0, 0) 209 99 := X_at (r := mi209) rfl rfl
theorem x209_100 {z : P0} : X z 209 100 = XI mT z (X z) (.ishr, 1, 0, 0, 0, [], 0, 0) 209 100 := X_at (r := mi209) rfl rfl
theorem x209_101 {z : P0} : X z 209 101 = XI mT z (X z) (.iconst 1, 1, 0, 0, 0, [], nI 1, 0) 209 101 := X_at (r := mi209) rfl rfl
theorem x209_102 {z : P0} : X z 209 102 = XI mT z (X z) (.iand, 1, 0, 0, 0, [], 0, 0) 209 102 := X_at (r := mi209) rfl rfl
theorem x209_103 {z : P0} : X z 209 103 = XI mT z (X z) (.iconst 1, 1, 0, 0, 0, [], nI 1, 0) 209 103 := X_at (r := mi209) rfl rfl
theorem x209_104 {z : P0} : X z 209 104 = XI mT z (X z) (.if_icmp .ne 103, 3, 207, 0, 0, [], 0, 0) 209 104 := X_at (r := mi209) rfl rfl
theorem x209_107 {z : P0} : X z 209 107 = XI mT z (X z) (.iload_n 1, 1, 1, 0, 0, [], 0, 0) 209 107 := X_at (r := mi209) rfl rfl
theorem x209_108 {z : P0} : X z 209 108 = XI mT z (X z) (.iconst 1, 1, 0, 0, 0, [], nI 1, 0) 209 108 := X_at (r := mi209) rfl rfl
theorem x209_109 {z : P0} : X z 209 109 = XI mT z (X z) (.if_icmp .ne 16, 3, 125, 0, 0, [], 0, 0) 209 109 := X_at (r := mi209) rfl rfl
theorem x209_112 {z : P0} : X z 209 112 = XI mT z (X z) (.iload 7, 2, 7, 0, 0, [], 0, 0) 209 112 := X_at (r := mi209) rfl rfl
theorem x209_114 {z : P0} : X z 209 114 = XI mT z (X z) (.iconst 1, 1, 0, 0, 0, [], nI 1, 0) 209 114 := X_at (r := mi209) rfl rfl
theorem x209_115 {z : P0} : X z 209 115 = XI mT z (X z) (.aload_n 3, 1, 3, 0, 0, [], 0, 0) 209 115 := X_at (r := mi209) rfl rfl
theorem x209_116 {z : P0} : X z 209 116 = XI mT z (X z) (.iload 9, 2, 9, 0, 0, [], 0, 0) 209 116 := X_at (r := mi209) rfl rfl
theorem x209_118 {z : P0} : X z 209 118 = XI mT z (X z) (.iaload, 1, 0, 0, 0, [], 0, 0) 209 118 := X_at (r := mi209) rfl rfl
theorem x209_119 {z : P0} : X z 209 119 = XI mT z (X z) (.ishl, 1, 0, 0, 0, [], 0, 0) 209 119 := X_at (r := mi209) rfl rfl
theorem x209_120 {z : P0} : X z 209 120 = XI mT z (X z) (.iconst (-1), 1, 0, 0, 0, [], (-1), 0) 209 120 := X_at (r := mi209) rfl rfl
theorem x209_121 {z : P0} : X z 209 121 = XI mT z (X z) (.ixor, 1, 0, 0, 0, [], 0, 0) 209 121 := X_at (r := mi209) rfl rfl
theorem x209_122 {z : P0} : X z 209 122 = XI mT z (X z) (.iand, 1, 0, 0, 0, [], 0, 0) 209 122 := X_at (r := mi209) rfl rfl
theorem x209_123 {z : P0} : X z 209 123 = XI mT z (X z) (.istore 7, 2, 7, 0, 0, [], 0, 0) 209 123 := X_at (r := mi209) rfl rfl
theorem x209_125 {z : P0} : X z 209 125 = XI mT z (X z) (.iload 8, 2, 8, 0, 0, [], 0, 0) 209 125 := X_at (r := mi209) rfl rfl
theorem x209_127 {z : P0} : X z 209 127 = XI mT z (X z) (.ifCond .le 23, 3, 150, 0, 0, [], 0, 0) 209 127 := X_at (r := mi209) rfl rfl
theorem x209_130 {z : P0} : X z 209 130 = XI mT z (X z) (.aload_n 0, 1, 0, 0, 0, [], 0, 0) 209 130 := X_at (r := mi209) rfl rfl
theorem x209_131 {z : P0} : X z 209 131 = XI mT z (X z) (.iload 8, 2, 8, 0, 0, [], 0, 0) 209 131 := X_at (r := mi209) rfl rfl
theorem x209_133 {z : P0} : X z 209 133 = XI mT z (X z) (.iconst 1, 1, 0, 0, 0, [], nI 1, 0) 209 133 := X_at (r := mi209) rfl rfl
theorem x209_134 {z : P0} : X z 209 134 = XI mT z (X z) (.iadd, 1, 0, 0, 0, [], 0, 0) 209 134 := X_at (r := mi209) rfl rfl
theorem x209_135 {z : P0} : X z 209 135 = XI mT z (X z) (.iload 6, 2, 6, 0, 0, [], 0, 0) 209 135 := X_at (r := mi209) rfl rfl
theorem x209_137 {z : P0} : X z 209 137 = XI mT z (X z) (.if_icmp .ne 8, 3, 145, 0, 0, [], 0, 0) 209 137 := X_at (r := mi209) rfl rfl
theorem x209_140 {z : P0} : X z 209 140 = XI mT z (X z) (.bipush 38, 2, 0, 0, 0, [], nI 38, 0) 209 140 := X_at (r := mi209) rfl rfl
theorem x209_142 {z : P0} : X z 209 142 = XI mT z (X z) (.goto 5, 3, 147, 0, 0, [], 0, 0) 209 142 := X_at (r := mi209) rfl rfl
theorem x209_145 {z : P0} : X z 209 145 = XI mT z (X z) (.bipush 44, 2, 0, 0, 0, [], nI 44, 0) 209 145 := X_at (r := mi209) rfl rfl
theorem x209_147 {z : P0} : X z 209 147 = XI mT z (X z) (.invokestatic 59, 3, 2, 202, 0, [103], 0, 0) 209 147 := X_at (r := mi209) rfl rfl
theorem x209_150 {z : P0} : X z 209 150 = XI mT z (X z) (.iinc 8 1, 3, 8, 0, 0, [], nI 1, 0) 209 150 := X_at (r := mi209) rfl rfl
theorem x209_153 {z : P0} : X z 209 153 = XI mT z (X z) (.iload_n 1, 1, 1, 0, 0, [], 0, 0) 209 153 := X_at (r := mi209) rfl rfl
theorem x209_154 {z : P0} : X z 209 154 = XI mT z (X z) (.iconst 1, 1, 0, 0, 0, [], nI 1, 0) 209 154 := X_at (r := mi209) rfl rfl
theorem x209_155 {z : P0} : X z 209 155 = XI mT z (X z) (.if_icmp .ne 16, 3, 171, 0, 0, [], 0, 0) 209 155 := X_at (r := mi209) rfl rfl
theorem x209_158 {z : P0} : X z 209 158 = XI mT z (X z) (.aload_n 0, 1, 0, 0, 0, [], 0, 0) 209 158 := X_at (r := mi209) rfl rfl
theorem x209_159 {z : P0} : X z 209 159 = XI mT z (X z) (.aload 5, 2, 5, 0, 0, [], 0, 0) 209 159 := X_at (r := mi209) rfl rfl
theorem x209_161 {z : P0} : X z 209 161 = XI mT z (X z) (.aload_n 3, 1, 3, 0, 0, [], 0, 0) 209 161 := X_at (r := mi209) rfl rfl
theorem x209_162 {z : P0} : X z 209 162 = XI mT z (X z) (.iload 9, 2, 9, 0, 0, [], 0, 0) 209 162 := X_at (r := mi209) rfl rfl
theorem x209_164 {z : P0} : X z 209 164 = XI mT z (X z) (.iaload, 1, 0, 0, 0, [], 0, 0) 209 164 := X_at (r := mi209) rfl rfl
theorem x209_165 {z : P0} : X z 209 165 = XI mT z (X z) (.invokestatic 62, 3, 3, 208, 0, [104], 0, 0) 209 165 := X_at (r := mi209) rfl rfl
theorem x209_168 {z : P0} : X z 209 168 = XI mT z (X z) (.goto 39, 3, 207, 0, 0, [], 0, 0) 209 168 := X_at (r := mi209) rfl rfl
theorem x209_171 {z : P0} : X z 209 171 = XI mT z (X z) (.iconst 0, 1, 0, 0, 0, [], nI 0, 0) 209 171 := X_at (r := mi209) rfl rfl
theorem x209_172 {z : P0} : X z 209 172 = XI mT z (X z) (.istore 10, 2, 10, 0, 0, [], 0, 0) 209 172 := X_at (r := mi209) rfl rfl
theorem x209_174 {z : P0} : X z 209 174 = XI mT z (X z) (.iload 10, 2, 10, 0, 0, [], 0, 0) 209 174 := X_at (r := mi209) rfl rfl
theorem x209_176 {z : P0} : X z 209 176 = XI mT z (X z) (.aload 4, 2, 4, 0, 0, [], 0, 0) 209 176 := X_at (r := mi209) rfl rfl
theorem x209_178 {z : P0} : X z 209 178 = XI mT z (X z) (.iload 9, 2, 9, 0, 0, [], 0, 0) 209 178 := X_at (r := mi209) rfl rfl
theorem x209_180 {z : P0} : X z 209 180 = XI mT z (X z) (.iaload, 1, 0, 0, 0, [], 0, 0) 209 180 := X_at (r := mi209) rfl rfl
theorem x209_181 {z : P0} : X z 209 181 = XI mT z (X z) (.if_icmp .ge 26, 3, 207, 0, 0, [], 0, 0) 209 181 := X_at (r := mi209) rfl rfl
theorem x209_184 {z : P0} : X z 209 184 = XI mT z (X z) (.aload_n 0, 1, 0, 0, 0, [], 0, 0) 209 184 := X_at (r := mi209) rfl rfl
theorem x209_185 {z : P0} : X z 209 185 = XI mT z (X z) (.iconst 0, 1, 0, 0, 0, [], nI 0, 0) 209 185 := X_at (r := mi209) rfl rfl
theorem x209_186 {z : P0} : X z 209 186 = XI mT z (X z) (.iload 9, 2, 9, 0, 0, [], 0, 0) 209 186 := X_at (r := mi209) rfl rfl
theorem x209_188 {z : P0} : X z 209 188 = XI mT z (X z) (.aload 4, 2, 4, 0, 0, [], 0, 0) 209 188 := X_at (r := mi209) rfl rfl
theorem x209_190 {z : P0} : X z 209 190 = XI mT z (X z) (.iload 9, 2, 9, 0, 0, [], 0, 0) 209 190 := X_at (r := mi209) rfl rfl
theorem x209_192 {z : P0} : X z 209 192 = XI mT z (X z) (.iaload, 1, 0, 0, 0, [], 0, 0) 209 192 := X_at (r := mi209) rfl rfl
theorem x209_193 {z : P0} : X z 209 193 = XI mT z (X z) (.iload 10, 2, 10, 0, 0, [], 0, 0) 209 193 := X_at (r := mi209) rfl rfl
theorem x209_195 {z : P0} : X z 209 195 = XI mT z (X z) (.invokestatic 14, 3, 4, 194, 0, [91], 0, 0) 209 195 := X_at (r := mi209) rfl rfl
theorem x209_198 {z : P0} : X z 209 198 = XI mT z (X z) (.invokestatic 59, 3, 2, 202, 0, [103], 0, 0) 209 198 := X_at (r := mi209) rfl rfl
theorem x209_201 {z : P0} : X z 209 201 = XI mT z (X z) (.iinc 10 1, 3, 10, 0, 0, [], nI 1, 0) 209 201 := X_at (r := mi209) rfl rfl
theorem x209_204 {z : P0} : X z 209 204 = XI mT z (X z) (.goto (-30), 3, 174, 0, 0, [], 0, 0) 209 204 := X_at (r := mi209) rfl rfl
theorem x209_207 {z : P0} : X z 209 207 = XI mT z (X z) (.iinc 9 1, 3, 9, 0, 0, [], nI 1, 0) 209 207 := X_at (r := mi209) rfl rfl
theorem x209_210 {z : P0} : X z 209 210 = XI mT z (X z) (.goto (-137), 3, 73, 0, 0, [], 0, 0) 209 210 := X_at (r := mi209) rfl rfl
theorem x209_213 {z : P0} : X z 209 213 = XI mT z (X z) (.return_, 1, 0, 0, 0, [], 0, 0) 209 213 := X_at (r := mi209) rfl rfl
theorem x210_0 {z : P0} : X z 210 0 = XI mT z (X z) (.iconst 0, 1, 0, 0, 0, [], nI 0, 0) 210 0 := X_at (r := mi210) rfl rfl
theorem x210_1 {z : P0} : X z 210 1 = XI mT z (X z) (.istore_n 3, 1, 3, 0, 0, [], 0, 0) 210 1 := X_at (r := mi210) rfl rfl
theorem x210_2 {z : P0} : X z 210 2 = XI mT z (X z) (.iconst 0, 1, 0, 0, 0, [], nI 0, 0) 210 2 := X_at (r := mi210) rfl rfl
theorem x210_3 {z : P0} : X z 210 3 = XI mT z (X z) (.istore 4, 2, 4, 0, 0, [], 0, 0) 210 3 := X_at (r := mi210) rfl rfl
theorem x210_5 {z : P0} : X z 210 5 = XI mT z (X z) (.iload 4, 2, 4, 0, 0, [], 0, 0) 210 5 := X_at (r := mi210) rfl rfl
theorem x210_7 {z : P0} : X z 210 7 = XI mT z (X z) (.bipush 20, 2, 0, 0, 0, [], nI 20, 0) 210 7 := X_at (r := mi210) rfl rfl
theorem x210_9 {z : P0} : X z 210 9 = XI mT z (X z) (.if_icmp .ge 28, 3, 37, 0, 0, [], 0, 0) 210 9 := X_at (r := mi210) rfl rfl
theorem x210_12 {z : P0} : X z 210 12 = XI mT z (X z) (.iload_n 1, 1, 1, 0, 0, [], 0, 0) 210 12 := X_at (r := mi210) rfl rfl
theorem x210_13 {z : P0} : X z 210 13 = XI mT z (X z) (.iload 4, 2, 4, 0, 0, [], 0, 0) 210 13 := X_at (r := mi210) rfl rfl
theorem x210_15 {z : P0} : X z 210 15 = XI mT z (X z) (.ishr, 1, 0, 0, 0, [], 0, 0) 210 15 := X_at (r := mi210) rfl rfl
theorem x210_16 {z : P0} : X z 210 16 = XI mT z (X z) (.iconst 1, 1, 0, 0, 0, [], nI 1, 0) 210 16 := X_at (r := mi210) rfl rfl
theorem x210_17 {z : P0} : X z 210 17 = XI mT z (X z) (.iand, 1, 0, 0, 0, [], 0, 0) 210 17 := X_at (r := mi210) rfl rfl
theorem x210_18 {z : P0} : X z 210 18 = XI mT z (X z) (.iconst 1, 1, 0, 0, 0, [], nI 1, 0) 210 18 := X_at (r := mi210) rfl rfl
theorem x210_19 {z : P0} : X z 210 19 = XI mT z (X z) (.if_icmp .ne 12, 3, 31, 0, 0, [], 0, 0) 210 19 := X_at (r := mi210) rfl rfl
theorem x210_22 {z : P0} : X z 210 22 = XI mT z (X z) (.iload_n 3, 1, 3, 0, 0, [], 0, 0) 210 22 := X_at (r := mi210) rfl rfl
theorem x210_23 {z : P0} : X z 210 23 = XI mT z (X z) (.iconst 1, 1, 0, 0, 0, [], nI 1, 0) 210 23 := X_at (r := mi210) rfl rfl
theorem x210_24 {z : P0} : X z 210 24 = XI mT z (X z) (.aload_n 2, 1, 2, 0, 0, [], 0, 0) 210 24 := X_at (r := mi210) rfl rfl
theorem x210_25 {z : P0} : X z 210 25 = XI mT z (X z) (.iload 4, 2, 4, 0, 0, [], 0, 0) 210 25 := X_at (r := mi210) rfl rfl
theorem x210_27 {z : P0} : X z 210 27 = XI mT z (X z) (.iaload, 1, 0, 0, 0, [], 0, 0) 210 27 := X_at (r := mi210) rfl rfl
theorem x210_28 {z : P0} : X z 210 28 = XI mT z (X z) (.ishl, 1, 0, 0, 0, [], 0, 0) 210 28 := X_at (r := mi210) rfl rfl
theorem x210_29 {z : P0} : X z 210 29 = XI mT z (X z) (.ior, 1, 0, 0, 0, [], 0, 0) 210 29 := X_at (r := mi210) rfl rfl
theorem x210_30 {z : P0} : X z 210 30 = XI mT z (X z) (.istore_n 3, 1, 3, 0, 0, [], 0, 0) 210 30 := X_at (r := mi210) rfl rfl
theorem x210_31 {z : P0} : X z 210 31 = XI mT z (X z) (.iinc 4 1, 3, 4, 0, 0, [], nI 1, 0) 210 31 := X_at (r := mi210) rfl rfl
theorem x210_34 {z : P0} : X z 210 34 = XI mT z (X z) (.goto (-29), 3, 5, 0, 0, [], 0, 0) 210 34 := X_at (r := mi210) rfl rfl
theorem x210_37 {z : P0} : X z 210 37 = XI mT z (X z) (.iload_n 3, 1, 3, 0, 0, [], 0, 0) 210 37 := X_at (r := mi210) rfl rfl
theorem x210_38 {z : P0} : X z 210 38 = XI mT z (X z) (.invokestatic 56, 3, 1, 206, 0, [102], 0, 0) 210 38 := X_at (r := mi210) rfl rfl
theorem x210_41 {z : P0} : X z 210 41 = XI mT z (X z) (.iconst 1, 1, 0, 0, 0, [], nI 1, 0) 210 41 := X_at (r := mi210) rfl rfl
theorem x210_42 {z : P0} : X z 210 42 = XI mT z (X z) (.if_icmp .le 22, 3, 64, 0, 0, [], 0, 0) 210 42 := X_at (r := mi210) rfl rfl
theorem x210_45 {z : P0} : X z 210 45 = XI mT z (X z) (.aload_n 0, 1, 0, 0, 0, [], 0, 0) 210 45 := X_at (r := mi210) rfl rfl
theorem x210_46 {z : P0} : X z 210 46 = XI mT z (X z) (.bipush 97, 2, 0, 0, 0, [], nI 97, 0) 210 46 := X_at (r := mi210) rfl rfl
theorem x210_48 {z : P0} : X z 210 48 = XI mT z (X z) (.invokestatic 59, 3, 2, 202, 0, [103], 0, 0) 210 48 := X_at (r := mi210) rfl rfl
theorem x210_51 {z : P0} : X z 210 51 = XI mT z (X z) (.aload_n 0, 1, 0, 0, 0, [], 0, 0) 210 51 := X_at (r := mi210) rfl rfl
theorem x210_52 {z : P0} : X z 210 52 = XI mT z (X z) (.bipush 108, 2, 0, 0, 0, [], nI 108, 0) 210 52 := X_at (r := mi210) rfl rfl
theorem x210_54 {z : P0} : X z 210 54 = XI mT z (X z) (.invokestatic 59, 3, 2, 202, 0, [103], 0, 0) 210 54 := X_at (r := mi210) rfl rfl
theorem x210_57 {z : P0} : X z 210 57 = XI mT z (X z) (.aload_n 0, 1, 0, 0, 0, [], 0, 0) 210 57 := X_at (r := mi210) rfl rfl
theorem x210_58 {z : P0} : X z 210 58 = XI mT z (X z) (.bipush 108, 2, 0, 0, 0, [], nI 108, 0) 210 58 := X_at (r := mi210) rfl rfl
theorem x210_60 {z : P0} : X z 210 60 = XI mT z (X z) (.invokestatic 59, 3, 2, 202, 0, [103], 0, 0) 210 60 := X_at (r := mi210) rfl rfl
theorem x210_63 {z : P0} : X z 210 63 = XI mT z (X z) (.return_, 1, 0, 0, 0, [], 0, 0) 210 63 := X_at (r := mi210) rfl rfl
theorem x210_64 {z : P0} : X z 210 64 = XI mT z (X z) (.aload_n 0, 1, 0, 0, 0, [], 0, 0) 210 64 := X_at (r := mi210) rfl rfl
theorem x210_65 {z : P0} : X z 210 65 = XI mT z (X z) (.iload_n 3, 1, 3, 0, 0, [], 0, 0) 210 65 := X_at (r := mi210) rfl rfl
theorem x210_66 {z : P0} : X z 210 66 = XI mT z (X z) (.iconst 1, 1, 0, 0, 0, [], nI 1, 0) 210 66 := X_at (r := mi210) rfl rfl
theorem x210_67 {z : P0} : X z 210 67 = XI mT z (X z) (.if_icmp .ne 8, 3, 75, 0, 0, [], 0, 0) 210 67 := X_at (r := mi210) rfl rfl
theorem x210_70 {z : P0} : X z 210 70 = XI mT z (X z) (.bipush 102, 2, 0, 0, 0, [], nI 102, 0) 210 70 := X_at (r := mi210) rfl rfl
theorem x210_72 {z : P0} : X z 210 72 = XI mT z (X z) (.goto 15, 3, 87, 0, 0, [], 0, 0) 210 72 := X_at (r := mi210) rfl rfl
theorem x210_75 {z : P0} : X z 210 75 = XI mT z (X z) (.iload_n 3, 1, 3, 0, 0, [], 0, 0) 210 75 := X_at (r := mi210) rfl rfl
theorem x210_76 {z : P0} : X z 210 76 = XI mT z (X z) (.iconst 2, 1, 0, 0, 0, [], nI 2, 0) 210 76 := X_at (r := mi210) rfl rfl
theorem x210_77 {z : P0} : X z 210 77 = XI mT z (X z) (.if_icmp .ne 8, 3, 85, 0, 0, [], 0, 0) 210 77 := X_at (r := mi210) rfl rfl
theorem x210_80 {z : P0} : X z 210 80 = XI mT z (X z) (.bipush 109, 2, 0, 0, 0, [], nI 109, 0) 210 80 := X_at (r := mi210) rfl rfl
theorem x210_82 {z : P0} : X z 210 82 = XI mT z (X z) (.goto 5, 3, 87, 0, 0, [], 0, 0) 210 82 := X_at (r := mi210) rfl rfl
theorem x210_85 {z : P0} : X z 210 85 = XI mT z (X z) (.bipush 120, 2, 0, 0, 0, [], nI 120, 0) 210 85 := X_at (r := mi210) rfl rfl
theorem x210_87 {z : P0} : X z 210 87 = XI mT z (X z) (.invokestatic 59, 3, 2, 202, 0, [103], 0, 0) 210 87 := X_at (r := mi210) rfl rfl
theorem x210_90 {z : P0} : X z 210 90 = XI mT z (X z) (.iload_n 1, 1, 1, 0, 0, [], 0, 0) 210 90 := X_at (r := mi210) rfl rfl
theorem x210_91 {z : P0} : X z 210 91 = XI mT z (X z) (.invokestatic 56, 3, 1, 206, 0, [102], 0, 0) 210 91 := X_at (r := mi210) rfl rfl
theorem x210_94 {z : P0} : X z 210 94 = XI mT z (X z) (.iconst 1, 1, 0, 0, 0, [], nI 1, 0) 210 94 := X_at (r := mi210) rfl rfl
theorem x210_95 {z : P0} : X z 210 95 = XI mT z (X z) (.if_icmp .le 9, 3, 104, 0, 0, [], 0, 0) 210 95 := X_at (r := mi210) rfl rfl
theorem x210_98 {z : P0} : X z 210 98 = XI mT z (X z) (.aload_n 0, 1, 0, 0, 0, [], 0, 0) 210 98 := X_at (r := mi210) rfl rfl
theorem x210_99 {z : P0} : X z 210 99 = XI mT z (X z) (.bipush 115, 2, 0, 0, 0, [], nI 115, 0) 210 99 := X_at (r := mi210) rfl rfl
theorem x210_101 {z : P0} : X z 210 101 = XI mT z (X z) (.invokestatic 59, 3, 2, 202, 0, [103], 0, 0) 210 101 := X_at (r := mi210) rfl rfl
theorem x210_104 {z : P0} : X z 210 104 = XI mT z (X z) (.return_, 1, 0, 0, 0, [], 0, 0) 210 104 := X_at (r := mi210) rfl rfl
theorem x211_0 {z : P0} : X z 211 0 = XI mT z (X z) (.aload_n 0, 1, 0, 0, 0, [], 0, 0) 211 0 := X_at (r := mi211) rfl rfl
theorem x211_1 {z : P0} : X z 211 1 = XI mT z (X z) (.aload_n 1, 1, 1, 0, 0, [], 0, 0) 211 1 := X_at (r := mi211) rfl rfl
theorem x211_2 {z : P0} : X z 211 2 = XI mT z (X z) (.bipush 8, 2, 0, 0, 0, [], nI 8, 0) 211 2 := X_at (r := mi211) rfl rfl
theorem x211_4 {z : P0} : X z 211 4 = XI mT z (X z) (.iaload, 1, 0, 0, 0, [], 0, 0) 211 4 := X_at (r := mi211) rfl rfl
theorem x211_5 {z : P0} : X z 211 5 = XI mT z (X z) (.aload_n 1, 1, 1, 0, 0, [], 0, 0) 211 5 := X_at (r := mi211) rfl rfl
theorem x211_6 {z : P0} : X z 211 6 = XI mT z (X z) (.bipush 9, 2, 0, 0, 0, [], nI 9, 0) 211 6 := X_at (r := mi211) rfl rfl
theorem x211_8 {z : P0} : X z 211 8 = XI mT z (X z) (.iaload, 1, 0, 0, 0, [], 0, 0) 211 8 := X_at (r := mi211) rfl rfl
theorem x211_9 {z : P0} : X z 211 9 = XI mT z (X z) (.invokestatic 66, 3, 3, 198, 0, [105], 0, 0) 211 9 := X_at (r := mi211) rfl rfl
theorem x211_12 {z : P0} : X z 211 12 = XI mT z (X z) (.iconst 0, 1, 0, 0, 0, [], nI 0, 0) 211 12 := X_at (r := mi211) rfl rfl
theorem x211_13 {z : P0} : X z 211 13 = XI mT z (X z) (.istore 8, 2, 8, 0, 0, [], 0, 0) 211 13 := X_at (r := mi211) rfl rfl
theorem x211_15 {z : P0} : X z 211 15 = XI mT z (X z) (.iconst 0, 1, 0, 0, 0, [], nI 0, 0) 211 15 := X_at (r := mi211) rfl rfl
theorem x211_16 {z : P0} : X z 211 16 = XI mT z (X z) (.istore 9, 2, 9, 0, 0, [], 0, 0) 211 16 := X_at (r := mi211) rfl rfl
theorem x211_18 {z : P0} : X z 211 18 = XI mT z (X z) (.iload 9, 2, 9, 0, 0, [], 0, 0) 211 18 := X_at (r := mi211) rfl rfl
theorem x211_20 {z : P0} : X z 211 20 = XI mT z (X z) (.aload_n 1, 1, 1, 0, 0, [], 0, 0) 211 20 := X_at (r := mi211) rfl rfl
theorem x211_21 {z : P0} : X z 211 21 = XI mT z (X z) (.iconst 2, 1, 0, 0, 0, [], nI 2, 0) 211 21 := X_at (r := mi211) rfl rfl
theorem x211_22 {z : P0} : X z 211 22 = XI mT z (X z) (.iaload, 1, 0, 0, 0, [], 0, 0) 211 22 := X_at (r := mi211) rfl rfl
theorem x211_23 {z : P0} : X z 211 23 = XI mT z (X z) (.if_icmp .ge 160, 3, 183, 0, 0, [], 0, 0) 211 23 := X_at (r := mi211) rfl rfl
theorem x211_26 {z : P0} : X z 211 26 = XI mT z (X z) (.aload_n 3, 1, 3, 0, 0, [], 0, 0) 211 26 := X_at (r := mi211) rfl rfl
theorem x211_27 {z : P0} : X z 211 27 = XI mT z (X z) (.iload 9, 2, 9, 0, 0, [], 0, 0) 211 27 := X_at (r := mi211) rfl rfl
theorem x211_29 {z : P0} : X z 211 29 = XI mT z (X z) (.iaload, 1, 0, 0, 0, [], 0, 0) 211 29 := X_at (r := mi211) rfl rfl
theorem x211_30 {z : P0} : X z 211 30 = XI mT z (X z) (.bipush 123, 2, 0, 0, 0, [], nI 123, 0) 211 30 := X_at (r := mi211) rfl rfl
theorem x211_32 {z : P0} : X z 211 32 = XI mT z (X z) (.if_icmp .eq 12, 3, 44, 0, 0, [], 0, 0) 211 32 := X_at (r := mi211) rfl rfl
theorem x211_35 {z : P0} : X z 211 35 = XI mT z (X z) (.aload_n 3, 1, 3, 0, 0, [], 0, 0) 211 35 := X_at (r := mi211) rfl rfl
theorem x211_36 {z : P0} : X z 211 36 = XI mT z (X z) (.iload 9, 2, 9, 0, 0, [], 0, 0) 211 36 := X_at (r := mi211) rfl rfl
theorem x211_38 {z : P0} : X z 211 38 = XI mT z (X z) (.iaload, 1, 0, 0, 0, [], 0, 0) 211 38 := X_at (r := mi211) rfl rfl
theorem x211_39 {z : P0} : X z 211 39 = XI mT z (X z) (.bipush 125, 2, 0, 0, 0, [], nI 125, 0) 211 39 := X_at (r := mi211) rfl rfl
theorem x211_41 {z : P0} : X z 211 41 = XI mT z (X z) (.if_icmp .ne 22, 3, 63, 0, 0, [], 0, 0) 211 41 := X_at (r := mi211) rfl rfl
theorem x211_44 {z : P0} : X z 211 44 = XI mT z (X z) (.aload_n 3, 1, 3, 0, 0, [], 0, 0) 211 44 := X_at (r := mi211) rfl rfl
theorem x211_45 {z : P0} : X z 211 45 = XI mT z (X z) (.iload 9, 2, 9, 0, 0, [], 0, 0) 211 45 := X_at (r := mi211) rfl rfl
theorem x211_47 {z : P0} : X z 211 47 = XI mT z (X z) (.iaload, 1, 0, 0, 0, [], 0, 0) 211 47 := X_at (r := mi211) rfl rfl
theorem x211_48 {z : P0} : X z 211 48 = XI mT z (X z) (.bipush 123, 2, 0, 0, 0, [], nI 123, 0) 211 48 := X_at (r := mi211) rfl rfl
theorem x211_50 {z : P0} : X z 211 50 = XI mT z (X z) (.if_icmp .ne 7, 3, 57, 0, 0, [], 0, 0) 211 50 := X_at (r := mi211) rfl rfl
theorem x211_53 {z : P0} : X z 211 53 = XI mT z (X z) (.iconst 1, 1, 0, 0, 0, [], nI 1, 0) 211 53 := X_at (r := mi211) rfl rfl
theorem x211_54 {z : P0} : X z 211 54 = XI mT z (X z) (.goto 4, 3, 58, 0, 0, [], 0, 0) 211 54 := X_at (r := mi211) rfl rfl
theorem x211_57 {z : P0} : X z 211 57 = XI mT z (X z) (.iconst 0, 1, 0, 0, 0, [], nI 0, 0) 211 57 := X_at (r := mi211) rfl rfl
theorem x211_58 {z : P0} : X z 211 58 = XI mT z (X z) (.istore 8, 2, 8, 0, 0, [], 0, 0) 211 58 := X_at (r := mi211) rfl rfl
theorem x211_60 {z : P0} : X z 211 60 = XI mT z (X z) (.goto 117, 3, 177, 0, 0, [], 0, 0) 211 60 := X_at (r := mi211) rfl rfl
theorem x211_63 {z : P0} : X z 211 63 = XI mT z (X z) (.iload 8, 2, 8, 0, 0, [], 0, 0) 211 63 := X_at (r := mi211) rfl rfl
theorem x211_65 {z : P0} : X z 211 65 = XI mT z (X z) (.ifCond .eq 14, 3, 79, 0, 0, [], 0, 0) 211 65 := X_at (r := mi211) rfl rfl
theorem x211_68 {z : P0} : X z 211 68 = XI mT z (X z) (.iload_n 2, 1, 2, 0, 0, [], 0, 0) 211 68 := X_at (r := mi211) rfl rfl
theorem x211_69 {z : P0} : X z 211 69 = XI mT z (X z) (.invokestatic 56, 3, 1, 206, 0, [102], 0, 0) 211 69 := X_at (r := mi211) rfl rfl
theorem x211_72 {z : P0} : X z 211 72 = XI mT z (X z) (.iconst 1, 1, 0, 0, 0, [], nI 1, 0) 211 72 := X_at (r := mi211) rfl rfl
theorem x211_73 {z : P0} : X z 211 73 = XI mT z (X z) (.if_icmp .ne 6, 3, 79, 0, 0, [], 0, 0) 211 73 := X_at (r := mi211) rfl rfl
theorem x211_76 {z : P0} : X z 211 76 = XI mT z (X z) (.goto 101, 3, 177, 0, 0, [], 0, 0) 211 76 := X_at (r := mi211) rfl rfl
theorem x211_79 {z : P0} : X z 211 79 = XI mT z (X z) (.aload_n 3, 1, 3, 0, 0, [], 0, 0) 211 79 := X_at (r := mi211) rfl rfl
theorem x211_80 {z : P0} : X z 211 80 = XI mT z (X z) (.iload 9, 2, 9, 0, 0, [], 0, 0) 211 80 := X_at (r := mi211) rfl rfl
theorem x211_82 {z : P0} : X z 211 82 = XI mT z (X z) (.iaload, 1, 0, 0, 0, [], 0, 0) 211 82 := X_at (r := mi211) rfl rfl
theorem x211_83 {z : P0} : X z 211 83 = XI mT z (X z) (.sipush 366, 3, 0, 0, 0, [], nI 366, 0) 211 83 := X_at (r := mi211) rfl rfl
theorem x211_86 {z : P0} : X z 211 86 = XI mT z (X z) (.if_icmp .ne 18, 3, 104, 0, 0, [], 0, 0) 211 86 := X_at (r := mi211) rfl rfl
theorem x211_89 {z : P0} : X z 211 89 = XI mT z (X z) (.aload_n 0, 1, 0, 0, 0, [], 0, 0) 211 89 := X_at (r := mi211) rfl rfl
theorem x211_90 {z : P0} : X z 211 90 = XI mT z (X z) (.iconst 0, 1, 0, 0, 0, [], nI 0, 0) 211 90 := X_at (r := mi211) rfl rfl
theorem x211_91 {z : P0} : X z 211 91 = XI mT z (X z) (.iload_n 2, 1, 2, 0, 0, [], 0, 0) 211 91 := X_at (r := mi211) rfl rfl
theorem x211_92 {z : P0} : X z 211 92 = XI mT z (X z) (.aload 4, 2, 4, 0, 0, [], 0, 0) 211 92 := X_at (r := mi211) rfl rfl
theorem x211_94 {z : P0} : X z 211 94 = XI mT z (X z) (.aload 6, 2, 6, 0, 0, [], 0, 0) 211 94 := X_at (r := mi211) rfl rfl
theorem x211_96 {z : P0} : X z 211 96 = XI mT z (X z) (.aload 7, 2, 7, 0, 0, [], 0, 0) 211 96 := X_at (r := mi211) rfl rfl
theorem x211_98 {z : P0} : X z 211 98 = XI mT z (X z) (.invokestatic 70, 3, 6, 209, 0, [106], 0, 0) 211 98 := X_at (r := mi211) rfl rfl
theorem x211_101 {z : P0} : X z 211 101 = XI mT z (X z) (.goto 76, 3, 177, 0, 0, [], 0, 0) 211 101 := X_at (r := mi211) rfl rfl
theorem x211_104 {z : P0} : X z 211 104 = XI mT z (X z) (.aload_n 3, 1, 3, 0, 0, [], 0, 0) 211 104 := X_at (r := mi211) rfl rfl
theorem x211_105 {z : P0} : X z 211 105 = XI mT z (X z) (.iload 9, 2, 9, 0, 0, [], 0, 0) 211 105 := X_at (r := mi211) rfl rfl
theorem x211_107 {z : P0} : X z 211 107 = XI mT z (X z) (.iaload, 1, 0, 0, 0, [], 0, 0) 211 107 := X_at (r := mi211) rfl rfl
theorem x211_108 {z : P0} : X z 211 108 = XI mT z (X z) (.sipush 375, 3, 0, 0, 0, [], nI 375, 0) 211 108 := X_at (r := mi211) rfl rfl
theorem x211_111 {z : P0} : X z 211 111 = XI mT z (X z) (.if_icmp .ne 18, 3, 129, 0, 0, [], 0, 0) 211 111 := X_at (r := mi211) rfl rfl
theorem x211_114 {z : P0} : X z 211 114 = XI mT z (X z) (.aload_n 0, 1, 0, 0, 0, [], 0, 0) 211 114 := X_at (r := mi211) rfl rfl
theorem x211_115 {z : P0} : X z 211 115 = XI mT z (X z) (.iconst 1, 1, 0, 0, 0, [], nI 1, 0) 211 115 := X_at (r := mi211) rfl rfl
theorem x211_116 {z : P0} : X z 211 116 = XI mT z (X z) (.iload_n 2, 1, 2, 0, 0, [], 0, 0) 211 116 := X_at (r := mi211) rfl rfl
theorem x211_117 {z : P0} : X z 211 117 = XI mT z (X z) (.aload 4, 2, 4, 0, 0, [], 0, 0) 211 117 := X_at (r := mi211) rfl rfl
theorem x211_119 {z : P0} : X z 211 119 = XI mT z (X z) (.aload 6, 2, 6, 0, 0, [], 0, 0) 211 119 := X_at (r := mi211) rfl rfl
theorem x211_121 {z : P0} : X z 211 121 = XI mT z (X z) (.aload 7, 2, 7, 0, 0, [], 0, 0) 211 121 := X_at (r := mi211) rfl rfl
theorem x211_123 {z : P0} : X z 211 123 = XI mT z (X z) (.invokestatic 70, 3, 6, 209, 0, [106], 0, 0) 211 123 := X_at (r := mi211) rfl rfl
theorem x211_126 {z : P0} : X z 211 126 = XI mT z (X z) (.goto 51, 3, 177, 0, 0, [], 0, 0) 211 126 := X_at (r := mi211) rfl rfl
theorem x211_129 {z : P0} : X z 211 129 = XI mT z (X z) (.aload_n 3, 1, 3, 0, 0, [], 0, 0) 211 129 := X_at (r := mi211) rfl rfl
theorem x211_130 {z : P0} : X z 211 130 = XI mT z (X z) (.iload 9, 2, 9, 0, 0, [], 0, 0) 211 130 := X_at (r := mi211) rfl rfl
theorem x211_132 {z : P0} : X z 211 132 = XI mT z (X z) (.iaload, 1, 0, 0, 0, [], 0, 0) 211 132 := X_at (r := mi211) rfl rfl
theorem x211_133 {z : P0} : X z 211 133 = XI mT z (X z) (.sipush 359, 3, 0, 0, 0, [], nI 359, 0) 211 133 := X_at (r := mi211) rfl rfl
theorem x211_136 {z : P0} : X z 211 136 = XI mT z (X z) (.if_icmp .ne 13, 3, 149, 0, 0, [], 0, 0) 211 136 := X_at (r := mi211) rfl rfl
theorem x211_139 {z : P0} : X z 211 139 = XI mT z (X z) (.aload_n 0, 1, 0, 0, 0, [], 0, 0) 211 139 := X_at (r := mi211) rfl rfl
theorem x211_140 {z : P0} : X z 211 140 = XI mT z (X z) (.iload_n 2, 1, 2, 0, 0, [], 0, 0) 211 140 := X_at (r := mi211) rfl rfl
theorem x211_141 {z : P0} : X z 211 141 = XI mT z (X z) (.aload 5, 2, 5, 0, 0, [], 0, 0) 211 141 := X_at (r := mi211) rfl rfl
theorem x211_143 {z : P0} : X z 211 143 = XI mT z (X z) (.invokestatic 74, 3, 3, 210, 0, [107], 0, 0) 211 143 := X_at (r := mi211) rfl rfl
theorem x211_146 {z : P0} : X z 211 146 = XI mT z (X z) (.goto 31, 3, 177, 0, 0, [], 0, 0) 211 146 := X_at (r := mi211) rfl rfl
theorem x211_149 {z : P0} : X z 211 149 = XI mT z (X z) (.aload_n 0, 1, 0, 0, 0, [], 0, 0) 211 149 := X_at (r := mi211) rfl rfl
theorem x211_150 {z : P0} : X z 211 150 = XI mT z (X z) (.aload_n 3, 1, 3, 0, 0, [], 0, 0) 211 150 := X_at (r := mi211) rfl rfl
theorem x211_151 {z : P0} : X z 211 151 = XI mT z (X z) (.iload 9, 2, 9, 0, 0, [], 0, 0) 211 151 := X_at (r := mi211) rfl rfl
theorem x211_153 {z : P0} : X z 211 153 = XI mT z (X z) (.iaload, 1, 0, 0, 0, [], 0, 0) 211 153 := X_at (r := mi211) rfl rfl
theorem x211_154 {z : P0} : X z 211 154 = XI mT z (X z) (.sipush 355, 3, 0, 0, 0, [], nI 355, 0) 211 154 := X_at (r := mi211) rfl rfl
theorem x211_157 {z : P0} : X z 211 157 = XI mT z (X z) (.if_icmp .ne 13, 3, 170, 0, 0, [], 0, 0) 211 157 := X_at (r := mi211) rfl rfl
theorem x211_160 {z : P0} : X z 211 160 = XI mT z (X z) (.bipush 48, 2, 0, 0, 0, [], nI 48, 0) 211 160 := X_at (r := mi211) rfl rfl
theorem x211_162 {z : P0} : X z 211 162 = XI mT z (X z) (.iload_n 2, 1, 2, 0, 0, [], 0, 0) 211 162 := X_at (r := mi211) rfl rfl
theorem x211_163 {z : P0} : X z 211 163 = XI mT z (X z) (.invokestatic 56, 3, 1, 206, 0, [102], 0, 0) 211 163 := X_at (r := mi211) rfl rfl
theorem x211_166 {z : P0} : X z 211 166 = XI mT z (X z) (.iadd, 1, 0, 0, 0, [], 0, 0) 211 166 := X_at (r := mi211) rfl rfl
theorem x211_167 {z : P0} : X z 211 167 = XI mT z (X z) (.goto 7, 3, 174, 0, 0, [], 0, 0) 211 167 := X_at (r := mi211) rfl rfl
theorem x211_170 {z : P0} : X z 211 170 = XI mT z (X z) (.aload_n 3, 1, 3, 0, 0, [], 0, 0) 211 170 := X_at (r := mi211) rfl rfl
theorem x211_171 {z : P0} : X z 211 171 = XI mT z (X z) (.iload 9, 2, 9, 0, 0, [], 0, 0) 211 171 := X_at (r := mi211) rfl rfl
theorem x211_173 {z : P0} : X z 211 173 = XI mT z (X z) (.iaload, 1, 0, 0, 0, [], 0, 0) 211 173 := X_at (r := mi211) rfl rfl
theorem x211_174 {z : P0} : X z 211 174 = XI mT z (X z) (.invokestatic 59, 3, 2, 202, 0, [103], 0, 0) 211 174 := X_at (r := mi211) rfl rfl
theorem x211_177 {z : P0} : X z 211 177 = XI mT z (X z) (.iinc 9 1, 3, 9, 0, 0, [], nI 1, 0) 211 177 := X_at (r := mi211) rfl rfl
theorem x211_180 {z : P0} : X z 211 180 = XI mT z (X z) (.goto (-162), 3, 18, 0, 0, [], 0, 0) 211 180 := X_at (r := mi211) rfl rfl
theorem x211_183 {z : P0} : X z 211 183 = XI mT z (X z) (.aload_n 0, 1, 0, 0, 0, [], 0, 0) 211 183 := X_at (r := mi211) rfl rfl
theorem x211_184 {z : P0} : X z 211 184 = XI mT z (X z) (.invokestatic 78, 3, 1, 203, 0, [108], 0, 0) 211 184 := X_at (r := mi211) rfl rfl
theorem x211_187 {z : P0} : X z 211 187 = XI mT z (X z) (.return_, 1, 0, 0, 0, [], 0, 0) 211 187 := X_at (r := mi211) rfl rfl
