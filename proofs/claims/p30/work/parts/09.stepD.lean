theorem x184_0 {z : P0} : X z 184 0 = XI mT z (X z) (.iload_n 0, 1, 0, 0, 0, [], 0, 0) 184 0 := X_at (r := mi184) rfl rfl
theorem x184_1 {z : P0} : X z 184 1 = XI mT z (X z) (.iload_n 1, 1, 1, 0, 0, [], 0, 0) 184 1 := X_at (r := mi184) rfl rfl
theorem x184_2 {z : P0} : X z 184 2 = XI mT z (X z) (.if_icmp .gt 7, 3, 9, 0, 0, [], 0, 0) 184 2 := X_at (r := mi184) rfl rfl
theorem x184_5 {z : P0} : X z 184 5 = XI mT z (X z) (.iload_n 0, 1, 0, 0, 0, [], 0, 0) 184 5 := X_at (r := mi184) rfl rfl
theorem x184_6 {z : P0} : X z 184 6 = XI mT z (X z) (.goto 4, 3, 10, 0, 0, [], 0, 0) 184 6 := X_at (r := mi184) rfl rfl
theorem x184_9 {z : P0} : X z 184 9 = XI mT z (X z) (.iload_n 1, 1, 1, 0, 0, [], 0, 0) 184 9 := X_at (r := mi184) rfl rfl
theorem x184_10 {z : P0} : X z 184 10 = XI mT z (X z) (.ireturn, 1, 0, 0, 0, [], 0, 0) 184 10 := X_at (r := mi184) rfl rfl
theorem x185_0 {z : P0} : X z 185 0 = XI mT z (X z) (.aload_n 0, 1, 0, 0, 0, [], 0, 0) 185 0 := X_at (r := mi185) rfl rfl
theorem x185_1 {z : P0} : X z 185 1 = XI mT z (X z) (.getfield 9, 3, 60, 1, 3, [879], 0, 0) 185 1 := X_at (r := mi185) rfl rfl
theorem x185_4 {z : P0} : X z 185 4 = XI mT z (X z) (.arraylength, 1, 0, 0, 0, [], 0, 0) 185 4 := X_at (r := mi185) rfl rfl
theorem x185_5 {z : P0} : X z 185 5 = XI mT z (X z) (.aload_n 0, 1, 0, 0, 0, [], 0, 0) 185 5 := X_at (r := mi185) rfl rfl
theorem x185_6 {z : P0} : X z 185 6 = XI mT z (X z) (.invokevirtual 335, 3, 0, 187, 0, [85], 0, 0) 185 6 := X_at (r := mi185) rfl rfl
theorem x185_9 {z : P0} : X z 185 9 = XI mT z (X z) (.ishr, 1, 0, 0, 0, [], 0, 0) 185 9 := X_at (r := mi185) rfl rfl
theorem x185_10 {z : P0} : X z 185 10 = XI mT z (X z) (.ireturn, 1, 0, 0, 0, [], 0, 0) 185 10 := X_at (r := mi185) rfl rfl
theorem x186_0 {z : P0} : X z 186 0 = XI mT z (X z) (.aload_n 0, 1, 0, 0, 0, [], 0, 0) 186 0 := X_at (r := mi186) rfl rfl
theorem x186_1 {z : P0} : X z 186 1 = XI mT z (X z) (.invokevirtual 492, 3, 0, 188, 0, [86], 0, 0) 186 1 := X_at (r := mi186) rfl rfl
theorem x186_4 {z : P0} : X z 186 4 = XI mT z (X z) (.ifCond .eq 12, 3, 16, 0, 0, [], 0, 0) 186 4 := X_at (r := mi186) rfl rfl
theorem x186_7 {z : P0} : X z 186 7 = XI mT z (X z) (.aload_n 0, 1, 0, 0, 0, [], 0, 0) 186 7 := X_at (r := mi186) rfl rfl
theorem x186_8 {z : P0} : X z 186 8 = XI mT z (X z) (.getfield 9, 3, 60, 1, 3, [879], 0, 0) 186 8 := X_at (r := mi186) rfl rfl
theorem x186_11 {z : P0} : X z 186 11 = XI mT z (X z) (.iload_n 1, 1, 1, 0, 0, [], 0, 0) 186 11 := X_at (r := mi186) rfl rfl
theorem x186_12 {z : P0} : X z 186 12 = XI mT z (X z) (.invokestatic 495, 3, 2, 190, 0, [87], 0, 0) 186 12 := X_at (r := mi186) rfl rfl
theorem x186_15 {z : P0} : X z 186 15 = XI mT z (X z) (.ireturn, 1, 0, 0, 0, [], 0, 0) 186 15 := X_at (r := mi186) rfl rfl
theorem x186_16 {z : P0} : X z 186 16 = XI mT z (X z) (.aload_n 0, 1, 0, 0, 0, [], 0, 0) 186 16 := X_at (r := mi186) rfl rfl
theorem x186_17 {z : P0} : X z 186 17 = XI mT z (X z) (.getfield 9, 3, 60, 1, 3, [879], 0, 0) 186 17 := X_at (r := mi186) rfl rfl
theorem x186_20 {z : P0} : X z 186 20 = XI mT z (X z) (.iload_n 1, 1, 1, 0, 0, [], 0, 0) 186 20 := X_at (r := mi186) rfl rfl
theorem x186_21 {z : P0} : X z 186 21 = XI mT z (X z) (.invokestatic 498, 3, 0, 9999, 0, [], 0, 0) 186 21 := X_at (r := mi186) rfl rfl
theorem x186_24 {z : P0} : X z 186 24 = XI mT z (X z) (.ireturn, 1, 0, 0, 0, [], 0, 0) 186 24 := X_at (r := mi186) rfl rfl
theorem x187_0 {z : P0} : X z 187 0 = XI mT z (X z) (.getstatic 38, 3, 3, 0, 0, [751], 0, 0) 187 0 := X_at (r := mi187) rfl rfl
theorem x187_3 {z : P0} : X z 187 3 = XI mT z (X z) (.ifCond .eq 10, 3, 13, 0, 0, [], 0, 0) 187 3 := X_at (r := mi187) rfl rfl
theorem x187_6 {z : P0} : X z 187 6 = XI mT z (X z) (.aload_n 0, 1, 0, 0, 0, [], 0, 0) 187 6 := X_at (r := mi187) rfl rfl
theorem x187_7 {z : P0} : X z 187 7 = XI mT z (X z) (.getfield 15, 3, 60, 0, 0, [880], 0, 0) 187 7 := X_at (r := mi187) rfl rfl
theorem x187_10 {z : P0} : X z 187 10 = XI mT z (X z) (.goto 4, 3, 14, 0, 0, [], 0, 0) 187 10 := X_at (r := mi187) rfl rfl
theorem x187_13 {z : P0} : X z 187 13 = XI mT z (X z) (.iconst 1, 1, 0, 0, 0, [], nI 1, 0) 187 13 := X_at (r := mi187) rfl rfl
theorem x187_14 {z : P0} : X z 187 14 = XI mT z (X z) (.ireturn, 1, 0, 0, 0, [], 0, 0) 187 14 := X_at (r := mi187) rfl rfl
theorem x188_0 {z : P0} : X z 188 0 = XI mT z (X z) (.getstatic 38, 3, 3, 0, 0, [751], 0, 0) 188 0 := X_at (r := mi188) rfl rfl
theorem x188_3 {z : P0} : X z 188 3 = XI mT z (X z) (.ifCond .eq 14, 3, 17, 0, 0, [], 0, 0) 188 3 := X_at (r := mi188) rfl rfl
theorem x188_6 {z : P0} : X z 188 6 = XI mT z (X z) (.aload_n 0, 1, 0, 0, 0, [], 0, 0) 188 6 := X_at (r := mi188) rfl rfl
theorem x188_7 {z : P0} : X z 188 7 = XI mT z (X z) (.getfield 15, 3, 60, 0, 0, [880], 0, 0) 188 7 := X_at (r := mi188) rfl rfl
theorem x188_10 {z : P0} : X z 188 10 = XI mT z (X z) (.ifCond .ne 7, 3, 17, 0, 0, [], 0, 0) 188 10 := X_at (r := mi188) rfl rfl
theorem x188_13 {z : P0} : X z 188 13 = XI mT z (X z) (.iconst 1, 1, 0, 0, 0, [], nI 1, 0) 188 13 := X_at (r := mi188) rfl rfl
theorem x188_14 {z : P0} : X z 188 14 = XI mT z (X z) (.goto 4, 3, 18, 0, 0, [], 0, 0) 188 14 := X_at (r := mi188) rfl rfl
theorem x188_17 {z : P0} : X z 188 17 = XI mT z (X z) (.iconst 0, 1, 0, 0, 0, [], nI 0, 0) 188 17 := X_at (r := mi188) rfl rfl
theorem x188_18 {z : P0} : X z 188 18 = XI mT z (X z) (.ireturn, 1, 0, 0, 0, [], 0, 0) 188 18 := X_at (r := mi188) rfl rfl
theorem x189_0 {z : P0} : X z 189 0 = XI mT z (X z) (.iload_n 0, 1, 0, 0, 0, [], 0, 0) 189 0 := X_at (r := mi189) rfl rfl
theorem x189_1 {z : P0} : X z 189 1 = XI mT z (X z) (.iload_n 1, 1, 1, 0, 0, [], 0, 0) 189 1 := X_at (r := mi189) rfl rfl
theorem x189_2 {z : P0} : X z 189 2 = XI mT z (X z) (.getstatic 1053, 3, 4, 0, 0, [767], 0, 0) 189 2 := X_at (r := mi189) rfl rfl
theorem x189_5 {z : P0} : X z 189 5 = XI mT z (X z) (.invokestatic 1059, 3, 3, 191, 0, [88], 0, 0) 189 5 := X_at (r := mi189) rfl rfl
theorem x189_8 {z : P0} : X z 189 8 = XI mT z (X z) (.pop, 1, 0, 0, 0, [], 0, 0) 189 8 := X_at (r := mi189) rfl rfl
theorem x189_9 {z : P0} : X z 189 9 = XI mT z (X z) (.return_, 1, 0, 0, 0, [], 0, 0) 189 9 := X_at (r := mi189) rfl rfl
theorem x190_0 {z : P0} : X z 190 0 = XI mT z (X z) (.iload_n 1, 1, 1, 0, 0, [], 0, 0) 190 0 := X_at (r := mi190) rfl rfl
theorem x190_1 {z : P0} : X z 190 1 = XI mT z (X z) (.aload_n 0, 1, 0, 0, 0, [], 0, 0) 190 1 := X_at (r := mi190) rfl rfl
theorem x190_2 {z : P0} : X z 190 2 = XI mT z (X z) (.arraylength, 1, 0, 0, 0, [], 0, 0) 190 2 := X_at (r := mi190) rfl rfl
theorem x190_3 {z : P0} : X z 190 3 = XI mT z (X z) (.invokestatic 9, 3, 2, 189, 0, [89], 0, 0) 190 3 := X_at (r := mi190) rfl rfl
theorem x190_6 {z : P0} : X z 190 6 = XI mT z (X z) (.aload_n 0, 1, 0, 0, 0, [], 0, 0) 190 6 := X_at (r := mi190) rfl rfl
theorem x190_7 {z : P0} : X z 190 7 = XI mT z (X z) (.iload_n 1, 1, 1, 0, 0, [], 0, 0) 190 7 := X_at (r := mi190) rfl rfl
theorem x190_8 {z : P0} : X z 190 8 = XI mT z (X z) (.baload, 1, 0, 0, 0, [], 0, 0) 190 8 := X_at (r := mi190) rfl rfl
theorem x190_9 {z : P0} : X z 190 9 = XI mT z (X z) (.sipush 255, 3, 0, 0, 0, [], nI 255, 0) 190 9 := X_at (r := mi190) rfl rfl
theorem x190_12 {z : P0} : X z 190 12 = XI mT z (X z) (.iand, 1, 0, 0, 0, [], 0, 0) 190 12 := X_at (r := mi190) rfl rfl
theorem x190_13 {z : P0} : X z 190 13 = XI mT z (X z) (.i2c, 1, 0, 0, 0, [], 0, 0) 190 13 := X_at (r := mi190) rfl rfl
theorem x190_14 {z : P0} : X z 190 14 = XI mT z (X z) (.ireturn, 1, 0, 0, 0, [], 0, 0) 190 14 := X_at (r := mi190) rfl rfl
theorem x191_0 {z : P0} : X z 191 0 = XI mT z (X z) (.iload_n 0, 1, 0, 0, 0, [], 0, 0) 191 0 := X_at (r := mi191) rfl rfl
theorem x191_1 {z : P0} : X z 191 1 = XI mT z (X z) (.ifCond .lt 8, 3, 9, 0, 0, [], 0, 0) 191 1 := X_at (r := mi191) rfl rfl
theorem x191_4 {z : P0} : X z 191 4 = XI mT z (X z) (.iload_n 0, 1, 0, 0, 0, [], 0, 0) 191 4 := X_at (r := mi191) rfl rfl
theorem x191_5 {z : P0} : X z 191 5 = XI mT z (X z) (.iload_n 1, 1, 1, 0, 0, [], 0, 0) 191 5 := X_at (r := mi191) rfl rfl
theorem x191_6 {z : P0} : X z 191 6 = XI mT z (X z) (.if_icmp .lt 10, 3, 16, 0, 0, [], 0, 0) 191 6 := X_at (r := mi191) rfl rfl
theorem x191_9 {z : P0} : X z 191 9 = XI mT z (X z) (.aload_n 2, 1, 2, 0, 0, [], 0, 0) 191 9 := X_at (r := mi191) rfl rfl
theorem x191_10 {z : P0} : X z 191 10 = XI mT z (X z) (.iload_n 0, 1, 0, 0, 0, [], 0, 0) 191 10 := X_at (r := mi191) rfl rfl
theorem x191_11 {z : P0} : X z 191 11 = XI mT z (X z) (.iload_n 1, 1, 1, 0, 0, [], 0, 0) 191 11 := X_at (r := mi191) rfl rfl
theorem x191_12 {z : P0} : X z 191 12 = XI mT z (X z) (.invokestatic 95, 3, 0, 9999, 99, [], 0, 0) 191 12 := X_at (r := mi191) rfl rfl
theorem x191_15 {z : P0} : X z 191 15 = XI mT z (X z) (.athrow, 1, 0, 0, 0, [], 0, 0) 191 15 := X_at (r := mi191) rfl rfl
theorem x191_16 {z : P0} : X z 191 16 = XI mT z (X z) (.iload_n 0, 1, 0, 0, 0, [], 0, 0) 191 16 := X_at (r := mi191) rfl rfl
theorem x191_17 {z : P0} : X z 191 17 = XI mT z (X z) (.ireturn, 1, 0, 0, 0, [], 0, 0) 191 17 := X_at (r := mi191) rfl rfl
