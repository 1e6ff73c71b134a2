theorem x192_0 {z : P0} : X z 192 0 = XI mT z (X z) (.aload_n 3, 1, 3, 0, 0, [], 0, 0) 192 0 := X_at (r := mi192) rfl rfl
theorem x192_1 {z : P0} : X z 192 1 = XI mT z (X z) (.iconst 0, 1, 0, 0, 0, [], nI 0, 0) 192 1 := X_at (r := mi192) rfl rfl
theorem x192_2 {z : P0} : X z 192 2 = XI mT z (X z) (.aload_n 0, 1, 0, 0, 0, [], 0, 0) 192 2 := X_at (r := mi192) rfl rfl
theorem x192_3 {z : P0} : X z 192 3 = XI mT z (X z) (.iload_n 1, 1, 1, 0, 0, [], 0, 0) 192 3 := X_at (r := mi192) rfl rfl
theorem x192_4 {z : P0} : X z 192 4 = XI mT z (X z) (.iload_n 2, 1, 2, 0, 0, [], 0, 0) 192 4 := X_at (r := mi192) rfl rfl
theorem x192_5 {z : P0} : X z 192 5 = XI mT z (X z) (.invokevirtual 7, 3, 2, 58, 0, [164], 0, 0) 192 5 := X_at (r := mi192) rfl rfl
theorem x192_8 {z : P0} : X z 192 8 = XI mT z (X z) (.i2l, 1, 0, 0, 0, [], 0, 0) 192 8 := X_at (r := mi192) rfl rfl
theorem x192_9 {z : P0} : X z 192 9 = XI mT z (X z) (.lastore, 1, 0, 0, 0, [], 0, 0) 192 9 := X_at (r := mi192) rfl rfl
theorem x192_10 {z : P0} : X z 192 10 = XI mT z (X z) (.goto 11, 3, 21, 0, 0, [], 0, 0) 192 10 := X_at (r := mi192) rfl rfl
theorem x192_13 {z : P0} : X z 192 13 = XI mT z (X z) (.astore 4, 2, 4, 0, 0, [], 0, 0) 192 13 := X_at (r := mi192) rfl rfl
theorem x192_15 {z : P0} : X z 192 15 = XI mT z (X z) (.iconst 1, 1, 0, 0, 0, [], nI 1, 0) 192 15 := X_at (r := mi192) rfl rfl
theorem x192_16 {z : P0} : X z 192 16 = XI mT z (X z) (.ireturn, 1, 0, 0, 0, [], 0, 0) 192 16 := X_at (r := mi192) rfl rfl
theorem x192_17 {z : P0} : X z 192 17 = XI mT z (X z) (.astore 4, 2, 4, 0, 0, [], 0, 0) 192 17 := X_at (r := mi192) rfl rfl
theorem x192_19 {z : P0} : X z 192 19 = XI mT z (X z) (.iconst 2, 1, 0, 0, 0, [], nI 2, 0) 192 19 := X_at (r := mi192) rfl rfl
theorem x192_20 {z : P0} : X z 192 20 = XI mT z (X z) (.ireturn, 1, 0, 0, 0, [], 0, 0) 192 20 := X_at (r := mi192) rfl rfl
theorem x192_21 {z : P0} : X z 192 21 = XI mT z (X z) (.iconst 0, 1, 0, 0, 0, [], nI 0, 0) 192 21 := X_at (r := mi192) rfl rfl
theorem x192_22 {z : P0} : X z 192 22 = XI mT z (X z) (.ireturn, 1, 0, 0, 0, [], 0, 0) 192 22 := X_at (r := mi192) rfl rfl
theorem x193_0 {z : P0} : X z 193 0 = XI mT z (X z) (.aload_n 1, 1, 1, 0, 0, [], 0, 0) 193 0 := X_at (r := mi193) rfl rfl
theorem x193_1 {z : P0} : X z 193 1 = XI mT z (X z) (.iconst 0, 1, 0, 0, 0, [], nI 0, 0) 193 1 := X_at (r := mi193) rfl rfl
theorem x193_2 {z : P0} : X z 193 2 = XI mT z (X z) (.aload_n 0, 1, 0, 0, 0, [], 0, 0) 193 2 := X_at (r := mi193) rfl rfl
theorem x193_3 {z : P0} : X z 193 3 = XI mT z (X z) (.invokevirtual 17, 3, 0, 59, 0, [165], 0, 0) 193 3 := X_at (r := mi193) rfl rfl
theorem x193_6 {z : P0} : X z 193 6 = XI mT z (X z) (.i2l, 1, 0, 0, 0, [], 0, 0) 193 6 := X_at (r := mi193) rfl rfl
theorem x193_7 {z : P0} : X z 193 7 = XI mT z (X z) (.lastore, 1, 0, 0, 0, [], 0, 0) 193 7 := X_at (r := mi193) rfl rfl
theorem x193_8 {z : P0} : X z 193 8 = XI mT z (X z) (.goto 9, 3, 17, 0, 0, [], 0, 0) 193 8 := X_at (r := mi193) rfl rfl
theorem x193_11 {z : P0} : X z 193 11 = XI mT z (X z) (.astore_n 2, 1, 2, 0, 0, [], 0, 0) 193 11 := X_at (r := mi193) rfl rfl
theorem x193_12 {z : P0} : X z 193 12 = XI mT z (X z) (.iconst 1, 1, 0, 0, 0, [], nI 1, 0) 193 12 := X_at (r := mi193) rfl rfl
theorem x193_13 {z : P0} : X z 193 13 = XI mT z (X z) (.ireturn, 1, 0, 0, 0, [], 0, 0) 193 13 := X_at (r := mi193) rfl rfl
theorem x193_14 {z : P0} : X z 193 14 = XI mT z (X z) (.astore_n 2, 1, 2, 0, 0, [], 0, 0) 193 14 := X_at (r := mi193) rfl rfl
theorem x193_15 {z : P0} : X z 193 15 = XI mT z (X z) (.iconst 2, 1, 0, 0, 0, [], nI 2, 0) 193 15 := X_at (r := mi193) rfl rfl
theorem x193_16 {z : P0} : X z 193 16 = XI mT z (X z) (.ireturn, 1, 0, 0, 0, [], 0, 0) 193 16 := X_at (r := mi193) rfl rfl
theorem x193_17 {z : P0} : X z 193 17 = XI mT z (X z) (.iconst 0, 1, 0, 0, 0, [], nI 0, 0) 193 17 := X_at (r := mi193) rfl rfl
theorem x193_18 {z : P0} : X z 193 18 = XI mT z (X z) (.ireturn, 1, 0, 0, 0, [], 0, 0) 193 18 := X_at (r := mi193) rfl rfl
theorem x194_0 {z : P0} : X z 194 0 = XI mT z (X z) (.aload_n 1, 1, 1, 0, 0, [], 0, 0) 194 0 := X_at (r := mi194) rfl rfl
theorem x194_1 {z : P0} : X z 194 1 = XI mT z (X z) (.iconst 0, 1, 0, 0, 0, [], nI 0, 0) 194 1 := X_at (r := mi194) rfl rfl
theorem x194_2 {z : P0} : X z 194 2 = XI mT z (X z) (.aload_n 0, 1, 0, 0, 0, [], 0, 0) 194 2 := X_at (r := mi194) rfl rfl
theorem x194_3 {z : P0} : X z 194 3 = XI mT z (X z) (.invokevirtual 21, 3, 0, 60, 0, [166], 0, 0) 194 3 := X_at (r := mi194) rfl rfl
theorem x194_6 {z : P0} : X z 194 6 = XI mT z (X z) (.i2l, 1, 0, 0, 0, [], 0, 0) 194 6 := X_at (r := mi194) rfl rfl
theorem x194_7 {z : P0} : X z 194 7 = XI mT z (X z) (.lastore, 1, 0, 0, 0, [], 0, 0) 194 7 := X_at (r := mi194) rfl rfl
theorem x194_8 {z : P0} : X z 194 8 = XI mT z (X z) (.goto 6, 3, 14, 0, 0, [], 0, 0) 194 8 := X_at (r := mi194) rfl rfl
theorem x194_11 {z : P0} : X z 194 11 = XI mT z (X z) (.astore_n 2, 1, 2, 0, 0, [], 0, 0) 194 11 := X_at (r := mi194) rfl rfl
theorem x194_12 {z : P0} : X z 194 12 = XI mT z (X z) (.iconst 1, 1, 0, 0, 0, [], nI 1, 0) 194 12 := X_at (r := mi194) rfl rfl
theorem x194_13 {z : P0} : X z 194 13 = XI mT z (X z) (.ireturn, 1, 0, 0, 0, [], 0, 0) 194 13 := X_at (r := mi194) rfl rfl
theorem x194_14 {z : P0} : X z 194 14 = XI mT z (X z) (.iconst 0, 1, 0, 0, 0, [], nI 0, 0) 194 14 := X_at (r := mi194) rfl rfl
theorem x194_15 {z : P0} : X z 194 15 = XI mT z (X z) (.ireturn, 1, 0, 0, 0, [], 0, 0) 194 15 := X_at (r := mi194) rfl rfl
theorem x195_0 {z : P0} : X z 195 0 = XI mT z (X z) (.aload_n 3, 1, 3, 0, 0, [], 0, 0) 195 0 := X_at (r := mi195) rfl rfl
theorem x195_1 {z : P0} : X z 195 1 = XI mT z (X z) (.iconst 0, 1, 0, 0, 0, [], nI 0, 0) 195 1 := X_at (r := mi195) rfl rfl
theorem x195_2 {z : P0} : X z 195 2 = XI mT z (X z) (.aload_n 0, 1, 0, 0, 0, [], 0, 0) 195 2 := X_at (r := mi195) rfl rfl
theorem x195_3 {z : P0} : X z 195 3 = XI mT z (X z) (.iload_n 1, 1, 1, 0, 0, [], 0, 0) 195 3 := X_at (r := mi195) rfl rfl
theorem x195_4 {z : P0} : X z 195 4 = XI mT z (X z) (.iload_n 2, 1, 2, 0, 0, [], 0, 0) 195 4 := X_at (r := mi195) rfl rfl
theorem x195_5 {z : P0} : X z 195 5 = XI mT z (X z) (.invokevirtual 24, 3, 2, 61, 0, [167], 0, 0) 195 5 := X_at (r := mi195) rfl rfl
theorem x195_8 {z : P0} : X z 195 8 = XI mT z (X z) (.i2l, 1, 0, 0, 0, [], 0, 0) 195 8 := X_at (r := mi195) rfl rfl
theorem x195_9 {z : P0} : X z 195 9 = XI mT z (X z) (.lastore, 1, 0, 0, 0, [], 0, 0) 195 9 := X_at (r := mi195) rfl rfl
theorem x195_10 {z : P0} : X z 195 10 = XI mT z (X z) (.goto 11, 3, 21, 0, 0, [], 0, 0) 195 10 := X_at (r := mi195) rfl rfl
theorem x195_13 {z : P0} : X z 195 13 = XI mT z (X z) (.astore 4, 2, 4, 0, 0, [], 0, 0) 195 13 := X_at (r := mi195) rfl rfl
theorem x195_15 {z : P0} : X z 195 15 = XI mT z (X z) (.iconst 1, 1, 0, 0, 0, [], nI 1, 0) 195 15 := X_at (r := mi195) rfl rfl
theorem x195_16 {z : P0} : X z 195 16 = XI mT z (X z) (.ireturn, 1, 0, 0, 0, [], 0, 0) 195 16 := X_at (r := mi195) rfl rfl
theorem x195_17 {z : P0} : X z 195 17 = XI mT z (X z) (.astore 4, 2, 4, 0, 0, [], 0, 0) 195 17 := X_at (r := mi195) rfl rfl
theorem x195_19 {z : P0} : X z 195 19 = XI mT z (X z) (.iconst 2, 1, 0, 0, 0, [], nI 2, 0) 195 19 := X_at (r := mi195) rfl rfl
theorem x195_20 {z : P0} : X z 195 20 = XI mT z (X z) (.ireturn, 1, 0, 0, 0, [], 0, 0) 195 20 := X_at (r := mi195) rfl rfl
theorem x195_21 {z : P0} : X z 195 21 = XI mT z (X z) (.iconst 0, 1, 0, 0, 0, [], nI 0, 0) 195 21 := X_at (r := mi195) rfl rfl
theorem x195_22 {z : P0} : X z 195 22 = XI mT z (X z) (.ireturn, 1, 0, 0, 0, [], 0, 0) 195 22 := X_at (r := mi195) rfl rfl
theorem x196_0 {z : P0} : X z 196 0 = XI mT z (X z) (.aload_n 3, 1, 3, 0, 0, [], 0, 0) 196 0 := X_at (r := mi196) rfl rfl
theorem x196_1 {z : P0} : X z 196 1 = XI mT z (X z) (.iconst 0, 1, 0, 0, 0, [], nI 0, 0) 196 1 := X_at (r := mi196) rfl rfl
theorem x196_2 {z : P0} : X z 196 2 = XI mT z (X z) (.aload_n 0, 1, 0, 0, 0, [], 0, 0) 196 2 := X_at (r := mi196) rfl rfl
theorem x196_3 {z : P0} : X z 196 3 = XI mT z (X z) (.iload_n 1, 1, 1, 0, 0, [], 0, 0) 196 3 := X_at (r := mi196) rfl rfl
theorem x196_4 {z : P0} : X z 196 4 = XI mT z (X z) (.iload_n 2, 1, 2, 0, 0, [], 0, 0) 196 4 := X_at (r := mi196) rfl rfl
theorem x196_5 {z : P0} : X z 196 5 = XI mT z (X z) (.invokevirtual 29, 3, 2, 62, 0, [168], 0, 0) 196 5 := X_at (r := mi196) rfl rfl
theorem x196_8 {z : P0} : X z 196 8 = XI mT z (X z) (.i2l, 1, 0, 0, 0, [], 0, 0) 196 8 := X_at (r := mi196) rfl rfl
theorem x196_9 {z : P0} : X z 196 9 = XI mT z (X z) (.lastore, 1, 0, 0, 0, [], 0, 0) 196 9 := X_at (r := mi196) rfl rfl
theorem x196_10 {z : P0} : X z 196 10 = XI mT z (X z) (.goto 7, 3, 17, 0, 0, [], 0, 0) 196 10 := X_at (r := mi196) rfl rfl
theorem x196_13 {z : P0} : X z 196 13 = XI mT z (X z) (.astore 4, 2, 4, 0, 0, [], 0, 0) 196 13 := X_at (r := mi196) rfl rfl
theorem x196_15 {z : P0} : X z 196 15 = XI mT z (X z) (.iconst 1, 1, 0, 0, 0, [], nI 1, 0) 196 15 := X_at (r := mi196) rfl rfl
theorem x196_16 {z : P0} : X z 196 16 = XI mT z (X z) (.ireturn, 1, 0, 0, 0, [], 0, 0) 196 16 := X_at (r := mi196) rfl rfl
theorem x196_17 {z : P0} : X z 196 17 = XI mT z (X z) (.iconst 0, 1, 0, 0, 0, [], nI 0, 0) 196 17 := X_at (r := mi196) rfl rfl
theorem x196_18 {z : P0} : X z 196 18 = XI mT z (X z) (.ireturn, 1, 0, 0, 0, [], 0, 0) 196 18 := X_at (r := mi196) rfl rfl
theorem x197_0 {z : P0} : X z 197 0 = XI mT z (X z) (.aload_n 3, 1, 3, 0, 0, [], 0, 0) 197 0 := X_at (r := mi197) rfl rfl
theorem x197_1 {z : P0} : X z 197 1 = XI mT z (X z) (.iconst 0, 1, 0, 0, 0, [], nI 0, 0) 197 1 := X_at (r := mi197) rfl rfl
theorem x197_2 {z : P0} : X z 197 2 = XI mT z (X z) (.aload_n 0, 1, 0, 0, 0, [], 0, 0) 197 2 := X_at (r := mi197) rfl rfl
theorem x197_3 {z : P0} : X z 197 3 = XI mT z (X z) (.iload_n 1, 1, 1, 0, 0, [], 0, 0) 197 3 := X_at (r := mi197) rfl rfl
theorem x197_4 {z : P0} : X z 197 4 = XI mT z (X z) (.iload_n 2, 1, 2, 0, 0, [], 0, 0) 197 4 := X_at (r := mi197) rfl rfl
theorem x197_5 {z : P0} : X z 197 5 = XI mT z (X z) (.invokevirtual 32, 3, 2, 63, 0, [169], 0, 0) 197 5 := X_at (r := mi197) rfl rfl
theorem x197_8 {z : P0} : X z 197 8 = XI mT z (X z) (.i2l, 1, 0, 0, 0, [], 0, 0) 197 8 := X_at (r := mi197) rfl rfl
theorem x197_9 {z : P0} : X z 197 9 = XI mT z (X z) (.lastore, 1, 0, 0, 0, [], 0, 0) 197 9 := X_at (r := mi197) rfl rfl
theorem x197_10 {z : P0} : X z 197 10 = XI mT z (X z) (.goto 7, 3, 17, 0, 0, [], 0, 0) 197 10 := X_at (r := mi197) rfl rfl
theorem x197_13 {z : P0} : X z 197 13 = XI mT z (X z) (.astore 4, 2, 4, 0, 0, [], 0, 0) 197 13 := X_at (r := mi197) rfl rfl
theorem x197_15 {z : P0} : X z 197 15 = XI mT z (X z) (.iconst 1, 1, 0, 0, 0, [], nI 1, 0) 197 15 := X_at (r := mi197) rfl rfl
theorem x197_16 {z : P0} : X z 197 16 = XI mT z (X z) (.ireturn, 1, 0, 0, 0, [], 0, 0) 197 16 := X_at (r := mi197) rfl rfl
theorem x197_17 {z : P0} : X z 197 17 = XI mT z (X z) (.iconst 0, 1, 0, 0, 0, [], nI 0, 0) 197 17 := X_at (r := mi197) rfl rfl
theorem x197_18 {z : P0} : X z 197 18 = XI mT z (X z) (.ireturn, 1, 0, 0, 0, [], 0, 0) 197 18 := X_at (r := mi197) rfl rfl
theorem x198_0 {z : P0} : X z 198 0 = XI mT z (X z) (.aload_n 3, 1, 3, 0, 0, [], 0, 0) 198 0 := X_at (r := mi198) rfl rfl
theorem x198_1 {z : P0} : X z 198 1 = XI mT z (X z) (.iconst 0, 1, 0, 0, 0, [], nI 0, 0) 198 1 := X_at (r := mi198) rfl rfl
theorem x198_2 {z : P0} : X z 198 2 = XI mT z (X z) (.aload_n 0, 1, 0, 0, 0, [], 0, 0) 198 2 := X_at (r := mi198) rfl rfl
theorem x198_3 {z : P0} : X z 198 3 = XI mT z (X z) (.iload_n 1, 1, 1, 0, 0, [], 0, 0) 198 3 := X_at (r := mi198) rfl rfl
theorem x198_4 {z : P0} : X z 198 4 = XI mT z (X z) (.iload_n 2, 1, 2, 0, 0, [], 0, 0) 198 4 := X_at (r := mi198) rfl rfl
theorem x198_5 {z : P0} : X z 198 5 = XI mT z (X z) (.invokevirtual 36, 3, 2, 64, 0, [170], 0, 0) 198 5 := X_at (r := mi198) rfl rfl
theorem x198_8 {z : P0} : X z 198 8 = XI mT z (X z) (.i2l, 1, 0, 0, 0, [], 0, 0) 198 8 := X_at (r := mi198) rfl rfl
theorem x198_9 {z : P0} : X z 198 9 = XI mT z (X z) (.lastore, 1, 0, 0, 0, [], 0, 0) 198 9 := X_at (r := mi198) rfl rfl
theorem x198_10 {z : P0} : X z 198 10 = XI mT z (X z) (.goto 11, 3, 21, 0, 0, [], 0, 0) 198 10 := X_at (r := mi198) rfl rfl
theorem x198_13 {z : P0} : X z 198 13 = XI mT z (X z) (.astore 4, 2, 4, 0, 0, [], 0, 0) 198 13 := X_at (r := mi198) rfl rfl
theorem x198_15 {z : P0} : X z 198 15 = XI mT z (X z) (.iconst 1, 1, 0, 0, 0, [], nI 1, 0) 198 15 := X_at (r := mi198) rfl rfl
theorem x198_16 {z : P0} : X z 198 16 = XI mT z (X z) (.ireturn, 1, 0, 0, 0, [], 0, 0) 198 16 := X_at (r := mi198) rfl rfl
theorem x198_17 {z : P0} : X z 198 17 = XI mT z (X z) (.astore 4, 2, 4, 0, 0, [], 0, 0) 198 17 := X_at (r := mi198) rfl rfl
theorem x198_19 {z : P0} : X z 198 19 = XI mT z (X z) (.iconst 2, 1, 0, 0, 0, [], nI 2, 0) 198 19 := X_at (r := mi198) rfl rfl
theorem x198_20 {z : P0} : X z 198 20 = XI mT z (X z) (.ireturn, 1, 0, 0, 0, [], 0, 0) 198 20 := X_at (r := mi198) rfl rfl
theorem x198_21 {z : P0} : X z 198 21 = XI mT z (X z) (.iconst 0, 1, 0, 0, 0, [], nI 0, 0) 198 21 := X_at (r := mi198) rfl rfl
theorem x198_22 {z : P0} : X z 198 22 = XI mT z (X z) (.ireturn, 1, 0, 0, 0, [], 0, 0) 198 22 := X_at (r := mi198) rfl rfl
theorem x199_0 {z : P0} : X z 199 0 = XI mT z (X z) (.aload_n 1, 1, 1, 0, 0, [], 0, 0) 199 0 := X_at (r := mi199) rfl rfl
theorem x199_1 {z : P0} : X z 199 1 = XI mT z (X z) (.iconst 0, 1, 0, 0, 0, [], nI 0, 0) 199 1 := X_at (r := mi199) rfl rfl
theorem x199_2 {z : P0} : X z 199 2 = XI mT z (X z) (.aload_n 0, 1, 0, 0, 0, [], 0, 0) 199 2 := X_at (r := mi199) rfl rfl
theorem x199_3 {z : P0} : X z 199 3 = XI mT z (X z) (.invokevirtual 39, 3, 0, 65, 0, [171], 0, 0) 199 3 := X_at (r := mi199) rfl rfl
theorem x199_6 {z : P0} : X z 199 6 = XI mT z (X z) (.i2l, 1, 0, 0, 0, [], 0, 0) 199 6 := X_at (r := mi199) rfl rfl
theorem x199_7 {z : P0} : X z 199 7 = XI mT z (X z) (.lastore, 1, 0, 0, 0, [], 0, 0) 199 7 := X_at (r := mi199) rfl rfl
theorem x199_8 {z : P0} : X z 199 8 = XI mT z (X z) (.goto 6, 3, 14, 0, 0, [], 0, 0) 199 8 := X_at (r := mi199) rfl rfl
theorem x199_11 {z : P0} : X z 199 11 = XI mT z (X z) (.astore_n 2, 1, 2, 0, 0, [], 0, 0) 199 11 := X_at (r := mi199) rfl rfl
theorem x199_12 {z : P0} : X z 199 12 = XI mT z (X z) (.iconst 1, 1, 0, 0, 0, [], nI 1, 0) 199 12 := X_at (r := mi199) rfl rfl
theorem x199_13 {z : P0} : X z 199 13 = XI mT z (X z) (.ireturn, 1, 0, 0, 0, [], 0, 0) 199 13 := X_at (r := mi199) rfl rfl
theorem x199_14 {z : P0} : X z 199 14 = XI mT z (X z) (.iconst 0, 1, 0, 0, 0, [], nI 0, 0) 199 14 := X_at (r := mi199) rfl rfl
theorem x199_15 {z : P0} : X z 199 15 = XI mT z (X z) (.ireturn, 1, 0, 0, 0, [], 0, 0) 199 15 := X_at (r := mi199) rfl rfl
theorem x200_0 {z : P0} : X z 200 0 = XI mT z (X z) (.aload_n 2, 1, 2, 0, 0, [], 0, 0) 200 0 := X_at (r := mi200) rfl rfl
theorem x200_1 {z : P0} : X z 200 1 = XI mT z (X z) (.iconst 0, 1, 0, 0, 0, [], nI 0, 0) 200 1 := X_at (r := mi200) rfl rfl
theorem x200_2 {z : P0} : X z 200 2 = XI mT z (X z) (.aload_n 0, 1, 0, 0, 0, [], 0, 0) 200 2 := X_at (r := mi200) rfl rfl
theorem x200_3 {z : P0} : X z 200 3 = XI mT z (X z) (.iload_n 1, 1, 1, 0, 0, [], 0, 0) 200 3 := X_at (r := mi200) rfl rfl
theorem x200_4 {z : P0} : X z 200 4 = XI mT z (X z) (.invokevirtual 42, 3, 1, 66, 0, [172], 0, 0) 200 4 := X_at (r := mi200) rfl rfl
theorem x200_7 {z : P0} : X z 200 7 = XI mT z (X z) (.i2l, 1, 0, 0, 0, [], 0, 0) 200 7 := X_at (r := mi200) rfl rfl
theorem x200_8 {z : P0} : X z 200 8 = XI mT z (X z) (.lastore, 1, 0, 0, 0, [], 0, 0) 200 8 := X_at (r := mi200) rfl rfl
theorem x200_9 {z : P0} : X z 200 9 = XI mT z (X z) (.goto 9, 3, 18, 0, 0, [], 0, 0) 200 9 := X_at (r := mi200) rfl rfl
theorem x200_12 {z : P0} : X z 200 12 = XI mT z (X z) (.astore_n 3, 1, 3, 0, 0, [], 0, 0) 200 12 := X_at (r := mi200) rfl rfl
theorem x200_13 {z : P0} : X z 200 13 = XI mT z (X z) (.iconst 1, 1, 0, 0, 0, [], nI 1, 0) 200 13 := X_at (r := mi200) rfl rfl
theorem x200_14 {z : P0} : X z 200 14 = XI mT z (X z) (.ireturn, 1, 0, 0, 0, [], 0, 0) 200 14 := X_at (r := mi200) rfl rfl
theorem x200_15 {z : P0} : X z 200 15 = XI mT z (X z) (.astore_n 3, 1, 3, 0, 0, [], 0, 0) 200 15 := X_at (r := mi200) rfl rfl
theorem x200_16 {z : P0} : X z 200 16 = XI mT z (X z) (.iconst 2, 1, 0, 0, 0, [], nI 2, 0) 200 16 := X_at (r := mi200) rfl rfl
theorem x200_17 {z : P0} : X z 200 17 = XI mT z (X z) (.ireturn, 1, 0, 0, 0, [], 0, 0) 200 17 := X_at (r := mi200) rfl rfl
theorem x200_18 {z : P0} : X z 200 18 = XI mT z (X z) (.iconst 0, 1, 0, 0, 0, [], nI 0, 0) 200 18 := X_at (r := mi200) rfl rfl
theorem x200_19 {z : P0} : X z 200 19 = XI mT z (X z) (.ireturn, 1, 0, 0, 0, [], 0, 0) 200 19 := X_at (r := mi200) rfl rfl
theorem x201_0 {z : P0} : X z 201 0 = XI mT z (X z) (.aload_n 2, 1, 2, 0, 0, [], 0, 0) 201 0 := X_at (r := mi201) rfl rfl
theorem x201_1 {z : P0} : X z 201 1 = XI mT z (X z) (.iconst 0, 1, 0, 0, 0, [], nI 0, 0) 201 1 := X_at (r := mi201) rfl rfl
theorem x201_2 {z : P0} : X z 201 2 = XI mT z (X z) (.aload_n 0, 1, 0, 0, 0, [], 0, 0) 201 2 := X_at (r := mi201) rfl rfl
theorem x201_3 {z : P0} : X z 201 3 = XI mT z (X z) (.iload_n 1, 1, 1, 0, 0, [], 0, 0) 201 3 := X_at (r := mi201) rfl rfl
theorem x201_4 {z : P0} : X z 201 4 = XI mT z (X z) (.invokevirtual 46, 3, 1, 67, 0, [173], 0, 0) 201 4 := X_at (r := mi201) rfl rfl
theorem x201_7 {z : P0} : X z 201 7 = XI mT z (X z) (.i2l, 1, 0, 0, 0, [], 0, 0) 201 7 := X_at (r := mi201) rfl rfl
theorem x201_8 {z : P0} : X z 201 8 = XI mT z (X z) (.lastore, 1, 0, 0, 0, [], 0, 0) 201 8 := X_at (r := mi201) rfl rfl
theorem x201_9 {z : P0} : X z 201 9 = XI mT z (X z) (.goto 9, 3, 18, 0, 0, [], 0, 0) 201 9 := X_at (r := mi201) rfl rfl
theorem x201_12 {z : P0} : X z 201 12 = XI mT z (X z) (.astore_n 3, 1, 3, 0, 0, [], 0, 0) 201 12 := X_at (r := mi201) rfl rfl
theorem x201_13 {z : P0} : X z 201 13 = XI mT z (X z) (.iconst 1, 1, 0, 0, 0, [], nI 1, 0) 201 13 := X_at (r := mi201) rfl rfl
theorem x201_14 {z : P0} : X z 201 14 = XI mT z (X z) (.ireturn, 1, 0, 0, 0, [], 0, 0) 201 14 := X_at (r := mi201) rfl rfl
theorem x201_15 {z : P0} : X z 201 15 = XI mT z (X z) (.astore_n 3, 1, 3, 0, 0, [], 0, 0) 201 15 := X_at (r := mi201) rfl rfl
theorem x201_16 {z : P0} : X z 201 16 = XI mT z (X z) (.iconst 2, 1, 0, 0, 0, [], nI 2, 0) 201 16 := X_at (r := mi201) rfl rfl
theorem x201_17 {z : P0} : X z 201 17 = XI mT z (X z) (.ireturn, 1, 0, 0, 0, [], 0, 0) 201 17 := X_at (r := mi201) rfl rfl
theorem x201_18 {z : P0} : X z 201 18 = XI mT z (X z) (.iconst 0, 1, 0, 0, 0, [], nI 0, 0) 201 18 := X_at (r := mi201) rfl rfl
theorem x201_19 {z : P0} : X z 201 19 = XI mT z (X z) (.ireturn, 1, 0, 0, 0, [], 0, 0) 201 19 := X_at (r := mi201) rfl rfl
theorem x202_0 {z : P0} : X z 202 0 = XI mT z (X z) (.aload_n 2, 1, 2, 0, 0, [], 0, 0) 202 0 := X_at (r := mi202) rfl rfl
theorem x202_1 {z : P0} : X z 202 1 = XI mT z (X z) (.iconst 0, 1, 0, 0, 0, [], nI 0, 0) 202 1 := X_at (r := mi202) rfl rfl
theorem x202_2 {z : P0} : X z 202 2 = XI mT z (X z) (.aload_n 0, 1, 0, 0, 0, [], 0, 0) 202 2 := X_at (r := mi202) rfl rfl
theorem x202_3 {z : P0} : X z 202 3 = XI mT z (X z) (.iload_n 1, 1, 1, 0, 0, [], 0, 0) 202 3 := X_at (r := mi202) rfl rfl
theorem x202_4 {z : P0} : X z 202 4 = XI mT z (X z) (.invokevirtual 49, 3, 1, 69, 0, [174], 0, 0) 202 4 := X_at (r := mi202) rfl rfl
theorem x202_7 {z : P0} : X z 202 7 = XI mT z (X z) (.i2l, 1, 0, 0, 0, [], 0, 0) 202 7 := X_at (r := mi202) rfl rfl
theorem x202_8 {z : P0} : X z 202 8 = XI mT z (X z) (.lastore, 1, 0, 0, 0, [], 0, 0) 202 8 := X_at (r := mi202) rfl rfl
theorem x202_9 {z : P0} : X z 202 9 = XI mT z (X z) (.goto 6, 3, 15, 0, 0, [], 0, 0) 202 9 := X_at (r := mi202) rfl rfl
theorem x202_12 {z : P0} : X z 202 12 = XI mT z (X z) (.astore_n 3, 1, 3, 0, 0, [], 0, 0) 202 12 := X_at (r := mi202) rfl rfl
theorem x202_13 {z : P0} : X z 202 13 = XI mT z (X z) (.iconst 1, 1, 0, 0, 0, [], nI 1, 0) 202 13 := X_at (r := mi202) rfl rfl
theorem x202_14 {z : P0} : X z 202 14 = XI mT z (X z) (.ireturn, 1, 0, 0, 0, [], 0, 0) 202 14 := X_at (r := mi202) rfl rfl
theorem x202_15 {z : P0} : X z 202 15 = XI mT z (X z) (.iconst 0, 1, 0, 0, 0, [], nI 0, 0) 202 15 := X_at (r := mi202) rfl rfl
theorem x202_16 {z : P0} : X z 202 16 = XI mT z (X z) (.ireturn, 1, 0, 0, 0, [], 0, 0) 202 16 := X_at (r := mi202) rfl rfl
theorem x203_0 {z : P0} : X z 203 0 = XI mT z (X z) (.aload_n 1, 1, 1, 0, 0, [], 0, 0) 203 0 := X_at (r := mi203) rfl rfl
theorem x203_1 {z : P0} : X z 203 1 = XI mT z (X z) (.iconst 0, 1, 0, 0, 0, [], nI 0, 0) 203 1 := X_at (r := mi203) rfl rfl
theorem x203_2 {z : P0} : X z 203 2 = XI mT z (X z) (.aload_n 0, 1, 0, 0, 0, [], 0, 0) 203 2 := X_at (r := mi203) rfl rfl
theorem x203_3 {z : P0} : X z 203 3 = XI mT z (X z) (.invokevirtual 52, 3, 0, 70, 0, [175], 0, 0) 203 3 := X_at (r := mi203) rfl rfl
theorem x203_6 {z : P0} : X z 203 6 = XI mT z (X z) (.i2l, 1, 0, 0, 0, [], 0, 0) 203 6 := X_at (r := mi203) rfl rfl
theorem x203_7 {z : P0} : X z 203 7 = XI mT z (X z) (.lastore, 1, 0, 0, 0, [], 0, 0) 203 7 := X_at (r := mi203) rfl rfl
theorem x203_8 {z : P0} : X z 203 8 = XI mT z (X z) (.goto 6, 3, 14, 0, 0, [], 0, 0) 203 8 := X_at (r := mi203) rfl rfl
theorem x203_11 {z : P0} : X z 203 11 = XI mT z (X z) (.astore_n 2, 1, 2, 0, 0, [], 0, 0) 203 11 := X_at (r := mi203) rfl rfl
theorem x203_12 {z : P0} : X z 203 12 = XI mT z (X z) (.iconst 1, 1, 0, 0, 0, [], nI 1, 0) 203 12 := X_at (r := mi203) rfl rfl
theorem x203_13 {z : P0} : X z 203 13 = XI mT z (X z) (.ireturn, 1, 0, 0, 0, [], 0, 0) 203 13 := X_at (r := mi203) rfl rfl
theorem x203_14 {z : P0} : X z 203 14 = XI mT z (X z) (.iconst 0, 1, 0, 0, 0, [], nI 0, 0) 203 14 := X_at (r := mi203) rfl rfl
theorem x203_15 {z : P0} : X z 203 15 = XI mT z (X z) (.ireturn, 1, 0, 0, 0, [], 0, 0) 203 15 := X_at (r := mi203) rfl rfl
theorem x204_0 {z : P0} : X z 204 0 = XI mT z (X z) (.aload_n 3, 1, 3, 0, 0, [], 0, 0) 204 0 := X_at (r := mi204) rfl rfl
theorem x204_1 {z : P0} : X z 204 1 = XI mT z (X z) (.iconst 0, 1, 0, 0, 0, [], nI 0, 0) 204 1 := X_at (r := mi204) rfl rfl
theorem x204_2 {z : P0} : X z 204 2 = XI mT z (X z) (.aload_n 0, 1, 0, 0, 0, [], 0, 0) 204 2 := X_at (r := mi204) rfl rfl
theorem x204_3 {z : P0} : X z 204 3 = XI mT z (X z) (.iload_n 1, 1, 1, 0, 0, [], 0, 0) 204 3 := X_at (r := mi204) rfl rfl
theorem x204_4 {z : P0} : X z 204 4 = XI mT z (X z) (.iload_n 2, 1, 2, 0, 0, [], 0, 0) 204 4 := X_at (r := mi204) rfl rfl
theorem x204_5 {z : P0} : X z 204 5 = XI mT z (X z) (.invokevirtual 55, 3, 2, 71, 0, [176], 0, 0) 204 5 := X_at (r := mi204) rfl rfl
theorem x204_8 {z : P0} : X z 204 8 = XI mT z (X z) (.i2l, 1, 0, 0, 0, [], 0, 0) 204 8 := X_at (r := mi204) rfl rfl
theorem x204_9 {z : P0} : X z 204 9 = XI mT z (X z) (.lastore, 1, 0, 0, 0, [], 0, 0) 204 9 := X_at (r := mi204) rfl rfl
theorem x204_10 {z : P0} : X z 204 10 = XI mT z (X z) (.goto 11, 3, 21, 0, 0, [], 0, 0) 204 10 := X_at (r := mi204) rfl rfl
theorem x204_13 {z : P0} : X z 204 13 = XI mT z (X z) (.astore 4, 2, 4, 0, 0, [], 0, 0) 204 13 := X_at (r := mi204) rfl rfl
theorem x204_15 {z : P0} : X z 204 15 = XI mT z (X z) (.iconst 1, 1, 0, 0, 0, [], nI 1, 0) 204 15 := X_at (r := mi204) rfl rfl
theorem x204_16 {z : P0} : X z 204 16 = XI mT z (X z) (.ireturn, 1, 0, 0, 0, [], 0, 0) 204 16 := X_at (r := mi204) rfl rfl
theorem x204_17 {z : P0} : X z 204 17 = XI mT z (X z) (.astore 4, 2, 4, 0, 0, [], 0, 0) 204 17 := X_at (r := mi204) rfl rfl
theorem x204_19 {z : P0} : X z 204 19 = XI mT z (X z) (.iconst 2, 1, 0, 0, 0, [], nI 2, 0) 204 19 := X_at (r := mi204) rfl rfl
theorem x204_20 {z : P0} : X z 204 20 = XI mT z (X z) (.ireturn, 1, 0, 0, 0, [], 0, 0) 204 20 := X_at (r := mi204) rfl rfl
theorem x204_21 {z : P0} : X z 204 21 = XI mT z (X z) (.iconst 0, 1, 0, 0, 0, [], nI 0, 0) 204 21 := X_at (r := mi204) rfl rfl
theorem x204_22 {z : P0} : X z 204 22 = XI mT z (X z) (.ireturn, 1, 0, 0, 0, [], 0, 0) 204 22 := X_at (r := mi204) rfl rfl
theorem x205_0 {z : P0} : X z 205 0 = XI mT z (X z) (.aload_n 3, 1, 3, 0, 0, [], 0, 0) 205 0 := X_at (r := mi205) rfl rfl
theorem x205_1 {z : P0} : X z 205 1 = XI mT z (X z) (.iconst 0, 1, 0, 0, 0, [], nI 0, 0) 205 1 := X_at (r := mi205) rfl rfl
theorem x205_2 {z : P0} : X z 205 2 = XI mT z (X z) (.aload_n 0, 1, 0, 0, 0, [], 0, 0) 205 2 := X_at (r := mi205) rfl rfl
theorem x205_3 {z : P0} : X z 205 3 = XI mT z (X z) (.iload_n 1, 1, 1, 0, 0, [], 0, 0) 205 3 := X_at (r := mi205) rfl rfl
theorem x205_4 {z : P0} : X z 205 4 = XI mT z (X z) (.iload_n 2, 1, 2, 0, 0, [], 0, 0) 205 4 := X_at (r := mi205) rfl rfl
theorem x205_5 {z : P0} : X z 205 5 = XI mT z (X z) (.invokevirtual 58, 3, 2, 72, 0, [177], 0, 0) 205 5 := X_at (r := mi205) rfl rfl
theorem x205_8 {z : P0} : X z 205 8 = XI mT z (X z) (.i2l, 1, 0, 0, 0, [], 0, 0) 205 8 := X_at (r := mi205) rfl rfl
theorem x205_9 {z : P0} : X z 205 9 = XI mT z (X z) (.lastore, 1, 0, 0, 0, [], 0, 0) 205 9 := X_at (r := mi205) rfl rfl
theorem x205_10 {z : P0} : X z 205 10 = XI mT z (X z) (.goto 7, 3, 17, 0, 0, [], 0, 0) 205 10 := X_at (r := mi205) rfl rfl
theorem x205_13 {z : P0} : X z 205 13 = XI mT z (X z) (.astore 4, 2, 4, 0, 0, [], 0, 0) 205 13 := X_at (r := mi205) rfl rfl
theorem x205_15 {z : P0} : X z 205 15 = XI mT z (X z) (.iconst 1, 1, 0, 0, 0, [], nI 1, 0) 205 15 := X_at (r := mi205) rfl rfl
theorem x205_16 {z : P0} : X z 205 16 = XI mT z (X z) (.ireturn, 1, 0, 0, 0, [], 0, 0) 205 16 := X_at (r := mi205) rfl rfl
theorem x205_17 {z : P0} : X z 205 17 = XI mT z (X z) (.iconst 0, 1, 0, 0, 0, [], nI 0, 0) 205 17 := X_at (r := mi205) rfl rfl
theorem x205_18 {z : P0} : X z 205 18 = XI mT z (X z) (.ireturn, 1, 0, 0, 0, [], 0, 0) 205 18 := X_at (r := mi205) rfl rfl
theorem x206_0 {z : P0} : X z 206 0 = XI mT z (X z) (.aload_n 3, 1, 3, 0, 0, [], 0, 0) 206 0 := X_at (r := mi206) rfl rfl
theorem x206_1 {z : P0} : X z 206 1 = XI mT z (X z) (.iconst 0, 1, 0, 0, 0, [], nI 0, 0) 206 1 := X_at (r := mi206) rfl rfl
theorem x206_2 {z : P0} : X z 206 2 = XI mT z (X z) (.aload_n 0, 1, 0, 0, 0, [], 0, 0) 206 2 := X_at (r := mi206) rfl rfl
theorem x206_3 {z : P0} : X z 206 3 = XI mT z (X z) (.iload_n 1, 1, 1, 0, 0, [], 0, 0) 206 3 := X_at (r := mi206) rfl rfl
theorem x206_4 {z : P0} : X z 206 4 = XI mT z (X z) (.iload_n 2, 1, 2, 0, 0, [], 0, 0) 206 4 := X_at (r := mi206) rfl rfl
theorem x206_5 {z : P0} : X z 206 5 = XI mT z (X z) (.invokevirtual 61, 3, 2, 73, 0, [178], 0, 0) 206 5 := X_at (r := mi206) rfl rfl
theorem x206_8 {z : P0} : X z 206 8 = XI mT z (X z) (.i2l, 1, 0, 0, 0, [], 0, 0) 206 8 := X_at (r := mi206) rfl rfl
theorem x206_9 {z : P0} : X z 206 9 = XI mT z (X z) (.lastore, 1, 0, 0, 0, [], 0, 0) 206 9 := X_at (r := mi206) rfl rfl
theorem x206_10 {z : P0} : X z 206 10 = XI mT z (X z) (.goto 11, 3, 21, 0, 0, [], 0, 0) 206 10 := X_at (r := mi206) rfl rfl
theorem x206_13 {z : P0} : X z 206 13 = XI mT z (X z) (.astore 4, 2, 4, 0, 0, [], 0, 0) 206 13 := X_at (r := mi206) rfl rfl
theorem x206_15 {z : P0} : X z 206 15 = XI mT z (X z) (.iconst 1, 1, 0, 0, 0, [], nI 1, 0) 206 15 := X_at (r := mi206) rfl rfl
theorem x206_16 {z : P0} : X z 206 16 = XI mT z (X z) (.ireturn, 1, 0, 0, 0, [], 0, 0) 206 16 := X_at (r := mi206) rfl rfl
theorem x206_17 {z : P0} : X z 206 17 = XI mT z (X z) (.astore 4, 2, 4, 0, 0, [], 0, 0) 206 17 := X_at (r := mi206) rfl rfl
theorem x206_19 {z : P0} : X z 206 19 = XI mT z (X z) (.iconst 2, 1, 0, 0, 0, [], nI 2, 0) 206 19 := X_at (r := mi206) rfl rfl
theorem x206_20 {z : P0} : X z 206 20 = XI mT z (X z) (.ireturn, 1, 0, 0, 0, [], 0, 0) 206 20 := X_at (r := mi206) rfl rfl
theorem x206_21 {z : P0} : X z 206 21 = XI mT z (X z) (.iconst 0, 1, 0, 0, 0, [], nI 0, 0) 206 21 := X_at (r := mi206) rfl rfl
theorem x206_22 {z : P0} : X z 206 22 = XI mT z (X z) (.ireturn, 1, 0, 0, 0, [], 0, 0) 206 22 := X_at (r := mi206) rfl rfl
theorem x207_0 {z : P0} : X z 207 0 = XI mT z (X z) (.aload_n 3, 1, 3, 0, 0, [], 0, 0) 207 0 := X_at (r := mi207) rfl rfl
theorem x207_1 {z : P0} : X z 207 1 = XI mT z (X z) (.iconst 0, 1, 0, 0, 0, [], nI 0, 0) 207 1 := X_at (r := mi207) rfl rfl
theorem x207_2 {z : P0} : X z 207 2 = XI mT z (X z) (.aload_n 0, 1, 0, 0, 0, [], 0, 0) 207 2 := X_at (r := mi207) rfl rfl
theorem x207_3 {z : P0} : X z 207 3 = XI mT z (X z) (.iload_n 1, 1, 1, 0, 0, [], 0, 0) 207 3 := X_at (r := mi207) rfl rfl
theorem x207_4 {z : P0} : X z 207 4 = XI mT z (X z) (.iload_n 2, 1, 2, 0, 0, [], 0, 0) 207 4 := X_at (r := mi207) rfl rfl
theorem x207_5 {z : P0} : X z 207 5 = XI mT z (X z) (.invokevirtual 64, 3, 2, 74, 0, [179], 0, 0) 207 5 := X_at (r := mi207) rfl rfl
theorem x207_8 {z : P0} : X z 207 8 = XI mT z (X z) (.i2l, 1, 0, 0, 0, [], 0, 0) 207 8 := X_at (r := mi207) rfl rfl
theorem x207_9 {z : P0} : X z 207 9 = XI mT z (X z) (.lastore, 1, 0, 0, 0, [], 0, 0) 207 9 := X_at (r := mi207) rfl rfl
theorem x207_10 {z : P0} : X z 207 10 = XI mT z (X z) (.goto 11, 3, 21, 0, 0, [], 0, 0) 207 10 := X_at (r := mi207) rfl rfl
theorem x207_13 {z : P0} : X z 207 13 = XI mT z (X z) (.astore 4, 2, 4, 0, 0, [], 0, 0) 207 13 := X_at (r := mi207) rfl rfl
theorem x207_15 {z : P0} : X z 207 15 = XI mT z (X z) (.iconst 1, 1, 0, 0, 0, [], nI 1, 0) 207 15 := X_at (r := mi207) rfl rfl
theorem x207_16 {z : P0} : X z 207 16 = XI mT z (X z) (.ireturn, 1, 0, 0, 0, [], 0, 0) 207 16 := X_at (r := mi207) rfl rfl
theorem x207_17 {z : P0} : X z 207 17 = XI mT z (X z) (.astore 4, 2, 4, 0, 0, [], 0, 0) 207 17 := X_at (r := mi207) rfl rfl
theorem x207_19 {z : P0} : X z 207 19 = XI mT z (X z) (.iconst 2, 1, 0, 0, 0, [], nI 2, 0) 207 19 := X_at (r := mi207) rfl rfl
theorem x207_20 {z : P0} : X z 207 20 = XI mT z (X z) (.ireturn, 1, 0, 0, 0, [], 0, 0) 207 20 := X_at (r := mi207) rfl rfl
theorem x207_21 {z : P0} : X z 207 21 = XI mT z (X z) (.iconst 0, 1, 0, 0, 0, [], nI 0, 0) 207 21 := X_at (r := mi207) rfl rfl
theorem x207_22 {z : P0} : X z 207 22 = XI mT z (X z) (.ireturn, 1, 0, 0, 0, [], 0, 0) 207 22 := X_at (r := mi207) rfl rfl
theorem x208_0 {z : P0} : X z 208 0 = XI mT z (X z) (.aload_n 3, 1, 3, 0, 0, [], 0, 0) 208 0 := X_at (r := mi208) rfl rfl
theorem x208_1 {z : P0} : X z 208 1 = XI mT z (X z) (.iconst 0, 1, 0, 0, 0, [], nI 0, 0) 208 1 := X_at (r := mi208) rfl rfl
theorem x208_2 {z : P0} : X z 208 2 = XI mT z (X z) (.aload_n 0, 1, 0, 0, 0, [], 0, 0) 208 2 := X_at (r := mi208) rfl rfl
theorem x208_3 {z : P0} : X z 208 3 = XI mT z (X z) (.iload_n 1, 1, 1, 0, 0, [], 0, 0) 208 3 := X_at (r := mi208) rfl rfl
theorem x208_4 {z : P0} : X z 208 4 = XI mT z (X z) (.iload_n 2, 1, 2, 0, 0, [], 0, 0) 208 4 := X_at (r := mi208) rfl rfl
theorem x208_5 {z : P0} : X z 208 5 = XI mT z (X z) (.invokevirtual 67, 3, 2, 75, 0, [180], 0, 0) 208 5 := X_at (r := mi208) rfl rfl
theorem x208_8 {z : P0} : X z 208 8 = XI mT z (X z) (.i2l, 1, 0, 0, 0, [], 0, 0) 208 8 := X_at (r := mi208) rfl rfl
theorem x208_9 {z : P0} : X z 208 9 = XI mT z (X z) (.lastore, 1, 0, 0, 0, [], 0, 0) 208 9 := X_at (r := mi208) rfl rfl
theorem x208_10 {z : P0} : X z 208 10 = XI mT z (X z) (.goto 7, 3, 17, 0, 0, [], 0, 0) 208 10 := X_at (r := mi208) rfl rfl
theorem x208_13 {z : P0} : X z 208 13 = XI mT z (X z) (.astore 4, 2, 4, 0, 0, [], 0, 0) 208 13 := X_at (r := mi208) rfl rfl
theorem x208_15 {z : P0} : X z 208 15 = XI mT z (X z) (.iconst 1, 1, 0, 0, 0, [], nI 1, 0) 208 15 := X_at (r := mi208) rfl rfl
theorem x208_16 {z : P0} : X z 208 16 = XI mT z (X z) (.ireturn, 1, 0, 0, 0, [], 0, 0) 208 16 := X_at (r := mi208) rfl rfl
theorem x208_17 {z : P0} : X z 208 17 = XI mT z (X z) (.iconst 0, 1, 0, 0, 0, [], nI 0, 0) 208 17 := X_at (r := mi208) rfl rfl
theorem x208_18 {z : P0} : X z 208 18 = XI mT z (X z) (.ireturn, 1, 0, 0, 0, [], 0, 0) 208 18 := X_at (r := mi208) rfl rfl
theorem x209_0 {z : P0} : X z 209 0 = XI mT z (X z) (.aload_n 2, 1, 2, 0, 0, [], 0, 0) 209 0 := X_at (r := mi209) rfl rfl
theorem x209_1 {z : P0} : X z 209 1 = XI mT z (X z) (.iconst 0, 1, 0, 0, 0, [], nI 0, 0) 209 1 := X_at (r := mi209) rfl rfl
theorem x209_2 {z : P0} : X z 209 2 = XI mT z (X z) (.aload_n 0, 1, 0, 0, 0, [], 0, 0) 209 2 := X_at (r := mi209) rfl rfl
theorem x209_3 {z : P0} : X z 209 3 = XI mT z (X z) (.iload_n 1, 1, 1, 0, 0, [], 0, 0) 209 3 := X_at (r := mi209) rfl rfl
theorem x209_4 {z : P0} : X z 209 4 = XI mT z (X z) (.invokevirtual 70, 3, 1, 76, 0, [181], 0, 0) 209 4 := X_at (r := mi209) rfl rfl
theorem x209_7 {z : P0} : X z 209 7 = XI mT z (X z) (.i2l, 1, 0, 0, 0, [], 0, 0) 209 7 := X_at (r := mi209) rfl rfl
theorem x209_8 {z : P0} : X z 209 8 = XI mT z (X z) (.lastore, 1, 0, 0, 0, [], 0, 0) 209 8 := X_at (r := mi209) rfl rfl
theorem x209_9 {z : P0} : X z 209 9 = XI mT z (X z) (.goto 6, 3, 15, 0, 0, [], 0, 0) 209 9 := X_at (r := mi209) rfl rfl
theorem x209_12 {z : P0} : X z 209 12 = XI mT z (X z) (.astore_n 3, 1, 3, 0, 0, [], 0, 0) 209 12 := X_at (r := mi209) rfl rfl
theorem x209_13 {z : P0} : X z 209 13 = XI mT z (X z) (.iconst 1, 1, 0, 0, 0, [], nI 1, 0) 209 13 := X_at (r := mi209) rfl rfl
theorem x209_14 {z : P0} : X z 209 14 = XI mT z (X z) (.ireturn, 1, 0, 0, 0, [], 0, 0) 209 14 := X_at (r := mi209) rfl rfl
theorem x209_15 {z : P0} : X z 209 15 = XI mT z (X z) (.iconst 0, 1, 0, 0, 0, [], nI 0, 0) 209 15 := X_at (r := mi209) rfl rfl
theorem x209_16 {z : P0} : X z 209 16 = XI mT z (X z) (.ireturn, 1, 0, 0, 0, [], 0, 0) 209 16 := X_at (r := mi209) rfl rfl
theorem x210_0 {z : P0} : X z 210 0 = XI mT z (X z) (.aload_n 2, 1, 2, 0, 0, [], 0, 0) 210 0 := X_at (r := mi210) rfl rfl
theorem x210_1 {z : P0} : X z 210 1 = XI mT z (X z) (.iconst 0, 1, 0, 0, 0, [], nI 0, 0) 210 1 := X_at (r := mi210) rfl rfl
theorem x210_2 {z : P0} : X z 210 2 = XI mT z (X z) (.aload_n 0, 1, 0, 0, 0, [], 0, 0) 210 2 := X_at (r := mi210) rfl rfl
theorem x210_3 {z : P0} : X z 210 3 = XI mT z (X z) (.iload_n 1, 1, 1, 0, 0, [], 0, 0) 210 3 := X_at (r := mi210) rfl rfl
theorem x210_4 {z : P0} : X z 210 4 = XI mT z (X z) (.invokevirtual 73, 3, 1, 77, 0, [182], 0, 0) 210 4 := X_at (r := mi210) rfl rfl
theorem x210_7 {z : P0} : X z 210 7 = XI mT z (X z) (.i2l, 1, 0, 0, 0, [], 0, 0) 210 7 := X_at (r := mi210) rfl rfl
theorem x210_8 {z : P0} : X z 210 8 = XI mT z (X z) (.lastore, 1, 0, 0, 0, [], 0, 0) 210 8 := X_at (r := mi210) rfl rfl
theorem x210_9 {z : P0} : X z 210 9 = XI mT z (X z) (.goto 6, 3, 15, 0, 0, [], 0, 0) 210 9 := X_at (r := mi210) rfl rfl
theorem x210_12 {z : P0} : X z 210 12 = XI mT z (X z) (.astore_n 3, 1, 3, 0, 0, [], 0, 0) 210 12 := X_at (r := mi210) rfl rfl
theorem x210_13 {z : P0} : X z 210 13 = XI mT z (X z) (.iconst 1, 1, 0, 0, 0, [], nI 1, 0) 210 13 := X_at (r := mi210) rfl rfl
theorem x210_14 {z : P0} : X z 210 14 = XI mT z (X z) (.ireturn, 1, 0, 0, 0, [], 0, 0) 210 14 := X_at (r := mi210) rfl rfl
theorem x210_15 {z : P0} : X z 210 15 = XI mT z (X z) (.iconst 0, 1, 0, 0, 0, [], nI 0, 0) 210 15 := X_at (r := mi210) rfl rfl
theorem x210_16 {z : P0} : X z 210 16 = XI mT z (X z) (.ireturn, 1, 0, 0, 0, [], 0, 0) 210 16 := X_at (r := mi210) rfl rfl
theorem x211_0 {z : P0} : X z 211 0 = XI mT z (X z) (.aload_n 2, 1, 2, 0, 0, [], 0, 0) 211 0 := X_at (r := mi211) rfl rfl
theorem x211_1 {z : P0} : X z 211 1 = XI mT z (X z) (.iconst 0, 1, 0, 0, 0, [], nI 0, 0) 211 1 := X_at (r := mi211) rfl rfl
theorem x211_2 {z : P0} : X z 211 2 = XI mT z (X z) (.aload_n 0, 1, 0, 0, 0, [], 0, 0) 211 2 := X_at (r := mi211) rfl rfl
theorem x211_3 {z : P0} : X z 211 3 = XI mT z (X z) (.iload_n 1, 1, 1, 0, 0, [], 0, 0) 211 3 := X_at (r := mi211) rfl rfl
theorem x211_4 {z : P0} : X z 211 4 = XI mT z (X z) (.invokevirtual 76, 3, 1, 78, 0, [183], 0, 0) 211 4 := X_at (r := mi211) rfl rfl
theorem x211_7 {z : P0} : X z 211 7 = XI mT z (X z) (.i2l, 1, 0, 0, 0, [], 0, 0) 211 7 := X_at (r := mi211) rfl rfl
theorem x211_8 {z : P0} : X z 211 8 = XI mT z (X z) (.lastore, 1, 0, 0, 0, [], 0, 0) 211 8 := X_at (r := mi211) rfl rfl
theorem x211_9 {z : P0} : X z 211 9 = XI mT z (X z) (.goto 6, 3, 15, 0, 0, [], 0, 0) 211 9 := X_at (r := mi211) rfl rfl
theorem x211_12 {z : P0} : X z 211 12 = XI mT z (X z) (.astore_n 3, 1, 3, 0, 0, [], 0, 0) 211 12 := X_at (r := mi211) rfl rfl
theorem x211_13 {z : P0} : X z 211 13 = XI mT z (X z) (.iconst 1, 1, 0, 0, 0, [], nI 1, 0) 211 13 := X_at (r := mi211) rfl rfl
theorem x211_14 {z : P0} : X z 211 14 = XI mT z (X z) (.ireturn, 1, 0, 0, 0, [], 0, 0) 211 14 := X_at (r := mi211) rfl rfl
theorem x211_15 {z : P0} : X z 211 15 = XI mT z (X z) (.iconst 0, 1, 0, 0, 0, [], nI 0, 0) 211 15 := X_at (r := mi211) rfl rfl
theorem x211_16 {z : P0} : X z 211 16 = XI mT z (X z) (.ireturn, 1, 0, 0, 0, [], 0, 0) 211 16 := X_at (r := mi211) rfl rfl
theorem x212_0 {z : P0} : X z 212 0 = XI mT z (X z) (.aload 4, 2, 4, 0, 0, [], 0, 0) 212 0 := X_at (r := mi212) rfl rfl
theorem x212_2 {z : P0} : X z 212 2 = XI mT z (X z) (.iconst 0, 1, 0, 0, 0, [], nI 0, 0) 212 2 := X_at (r := mi212) rfl rfl
theorem x212_3 {z : P0} : X z 212 3 = XI mT z (X z) (.aload_n 0, 1, 0, 0, 0, [], 0, 0) 212 3 := X_at (r := mi212) rfl rfl
theorem x212_4 {z : P0} : X z 212 4 = XI mT z (X z) (.iload_n 1, 1, 1, 0, 0, [], 0, 0) 212 4 := X_at (r := mi212) rfl rfl
theorem x212_5 {z : P0} : X z 212 5 = XI mT z (X z) (.iload_n 2, 1, 2, 0, 0, [], 0, 0) 212 5 := X_at (r := mi212) rfl rfl
theorem x212_6 {z : P0} : X z 212 6 = XI mT z (X z) (.iload_n 3, 1, 3, 0, 0, [], 0, 0) 212 6 := X_at (r := mi212) rfl rfl
theorem x212_7 {z : P0} : X z 212 7 = XI mT z (X z) (.invokevirtual 79, 3, 3, 79, 0, [184], 0, 0) 212 7 := X_at (r := mi212) rfl rfl
theorem x212_10 {z : P0} : X z 212 10 = XI mT z (X z) (.i2l, 1, 0, 0, 0, [], 0, 0) 212 10 := X_at (r := mi212) rfl rfl
theorem x212_11 {z : P0} : X z 212 11 = XI mT z (X z) (.lastore, 1, 0, 0, 0, [], 0, 0) 212 11 := X_at (r := mi212) rfl rfl
theorem x212_12 {z : P0} : X z 212 12 = XI mT z (X z) (.goto 11, 3, 23, 0, 0, [], 0, 0) 212 12 := X_at (r := mi212) rfl rfl
theorem x212_15 {z : P0} : X z 212 15 = XI mT z (X z) (.astore 5, 2, 5, 0, 0, [], 0, 0) 212 15 := X_at (r := mi212) rfl rfl
theorem x212_17 {z : P0} : X z 212 17 = XI mT z (X z) (.iconst 1, 1, 0, 0, 0, [], nI 1, 0) 212 17 := X_at (r := mi212) rfl rfl
theorem x212_18 {z : P0} : X z 212 18 = XI mT z (X z) (.ireturn, 1, 0, 0, 0, [], 0, 0) 212 18 := X_at (r := mi212) rfl rfl
theorem x212_19 {z : P0} : X z 212 19 = XI mT z (X z) (.astore 5, 2, 5, 0, 0, [], 0, 0) 212 19 := X_at (r := mi212) rfl rfl
theorem x212_21 {z : P0} : X z 212 21 = XI mT z (X z) (.iconst 2, 1, 0, 0, 0, [], nI 2, 0) 212 21 := X_at (r := mi212) rfl rfl
theorem x212_22 {z : P0} : X z 212 22 = XI mT z (X z) (.ireturn, 1, 0, 0, 0, [], 0, 0) 212 22 := X_at (r := mi212) rfl rfl
theorem x212_23 {z : P0} : X z 212 23 = XI mT z (X z) (.iconst 0, 1, 0, 0, 0, [], nI 0, 0) 212 23 := X_at (r := mi212) rfl rfl
theorem x212_24 {z : P0} : X z 212 24 = XI mT z (X z) (.ireturn, 1, 0, 0, 0, [], 0, 0) 212 24 := X_at (r := mi212) rfl rfl
theorem x213_0 {z : P0} : X z 213 0 = XI mT z (X z) (.aload_n 2, 1, 2, 0, 0, [], 0, 0) 213 0 := X_at (r := mi213) rfl rfl
theorem x213_1 {z : P0} : X z 213 1 = XI mT z (X z) (.iconst 0, 1, 0, 0, 0, [], nI 0, 0) 213 1 := X_at (r := mi213) rfl rfl
theorem x213_2 {z : P0} : X z 213 2 = XI mT z (X z) (.aload_n 0, 1, 0, 0, 0, [], 0, 0) 213 2 := X_at (r := mi213) rfl rfl
theorem x213_3 {z : P0} : X z 213 3 = XI mT z (X z) (.iload_n 1, 1, 1, 0, 0, [], 0, 0) 213 3 := X_at (r := mi213) rfl rfl
theorem x213_4 {z : P0} : X z 213 4 = XI mT z (X z) (.invokevirtual 83, 3, 1, 82, 0, [185], 0, 0) 213 4 := X_at (r := mi213) rfl rfl
theorem x213_7 {z : P0} : X z 213 7 = XI mT z (X z) (.i2l, 1, 0, 0, 0, [], 0, 0) 213 7 := X_at (r := mi213) rfl rfl
theorem x213_8 {z : P0} : X z 213 8 = XI mT z (X z) (.lastore, 1, 0, 0, 0, [], 0, 0) 213 8 := X_at (r := mi213) rfl rfl
theorem x213_9 {z : P0} : X z 213 9 = XI mT z (X z) (.goto 6, 3, 15, 0, 0, [], 0, 0) 213 9 := X_at (r := mi213) rfl rfl
theorem x213_12 {z : P0} : X z 213 12 = XI mT z (X z) (.astore_n 3, 1, 3, 0, 0, [], 0, 0) 213 12 := X_at (r := mi213) rfl rfl
theorem x213_13 {z : P0} : X z 213 13 = XI mT z (X z) (.iconst 1, 1, 0, 0, 0, [], nI 1, 0) 213 13 := X_at (r := mi213) rfl rfl
theorem x213_14 {z : P0} : X z 213 14 = XI mT z (X z) (.ireturn, 1, 0, 0, 0, [], 0, 0) 213 14 := X_at (r := mi213) rfl rfl
theorem x213_15 {z : P0} : X z 213 15 = XI mT z (X z) (.iconst 0, 1, 0, 0, 0, [], nI 0, 0) 213 15 := X_at (r := mi213) rfl rfl
theorem x213_16 {z : P0} : X z 213 16 = XI mT z (X z) (.ireturn, 1, 0, 0, 0, [], 0, 0) 213 16 := X_at (r := mi213) rfl rfl
set_option maxRecDepth 20000 in
theorem x214_0 {z : P0} : X z 214 0 = XI mT z (X z) (.new 8, 3, 10, 6, 0, [26], 0, 0) 214 0 := X_at (r := mi214) rfl rfl
set_option maxRecDepth 20000 in
theorem x214_3 {z : P0} : X z 214 3 = XI mT z (X z) (.dup, 1, 0, 0, 0, [], 0, 0) 214 3 := X_at (r := mi214) rfl rfl
set_option maxRecDepth 20000 in
theorem x214_4 {z : P0} : X z 214 4 = XI mT z (X z) (.invokespecial 86, 3, 0, 57, 0, [186], 0, 0) 214 4 := X_at (r := mi214) rfl rfl
set_option maxRecDepth 20000 in
theorem x214_7 {z : P0} : X z 214 7 = XI mT z (X z) (.astore_n 1, 1, 1, 0, 0, [], 0, 0) 214 7 := X_at (r := mi214) rfl rfl
set_option maxRecDepth 20000 in
theorem x214_8 {z : P0} : X z 214 8 = XI mT z (X z) (.new 87, 3, 11, 23, 0, [1000], 0, 0) 214 8 := X_at (r := mi214) rfl rfl
set_option maxRecDepth 20000 in
theorem x214_11 {z : P0} : X z 214 11 = XI mT z (X z) (.dup, 1, 0, 0, 0, [], 0, 0) 214 11 := X_at (r := mi214) rfl rfl
set_option maxRecDepth 20000 in
theorem x214_12 {z : P0} : X z 214 12 = XI mT z (X z) (.invokespecial 89, 3, 0, 104, 0, [187], 0, 0) 214 12 := X_at (r := mi214) rfl rfl
set_option maxRecDepth 20000 in
theorem x214_15 {z : P0} : X z 214 15 = XI mT z (X z) (.astore_n 2, 1, 2, 0, 0, [], 0, 0) 214 15 := X_at (r := mi214) rfl rfl
set_option maxRecDepth 20000 in
theorem x214_16 {z : P0} : X z 214 16 = XI mT z (X z) (.iconst 1, 1, 0, 0, 0, [], nI 1, 0) 214 16 := X_at (r := mi214) rfl rfl
set_option maxRecDepth 20000 in
theorem x214_17 {z : P0} : X z 214 17 = XI mT z (X z) (.newarray .long, 2, 21, 0, 0, [], 0, 0) 214 17 := X_at (r := mi214) rfl rfl
set_option maxRecDepth 20000 in
theorem x214_19 {z : P0} : X z 214 19 = XI mT z (X z) (.astore_n 3, 1, 3, 0, 0, [], 0, 0) 214 19 := X_at (r := mi214) rfl rfl
set_option maxRecDepth 20000 in
theorem x214_20 {z : P0} : X z 214 20 = XI mT z (X z) (.iconst 0, 1, 0, 0, 0, [], nI 0, 0) 214 20 := X_at (r := mi214) rfl rfl
set_option maxRecDepth 20000 in
theorem x214_21 {z : P0} : X z 214 21 = XI mT z (X z) (.istore 4, 2, 4, 0, 0, [], 0, 0) 214 21 := X_at (r := mi214) rfl rfl
set_option maxRecDepth 20000 in
theorem x214_23 {z : P0} : X z 214 23 = XI mT z (X z) (.iload 4, 2, 4, 0, 0, [], 0, 0) 214 23 := X_at (r := mi214) rfl rfl
set_option maxRecDepth 20000 in
theorem x214_25 {z : P0} : X z 214 25 = XI mT z (X z) (.aload_n 0, 1, 0, 0, 0, [], 0, 0) 214 25 := X_at (r := mi214) rfl rfl
set_option maxRecDepth 20000 in
theorem x214_26 {z : P0} : X z 214 26 = XI mT z (X z) (.arraylength, 1, 0, 0, 0, [], 0, 0) 214 26 := X_at (r := mi214) rfl rfl
set_option maxRecDepth 20000 in
theorem x214_27 {z : P0} : X z 214 27 = XI mT z (X z) (.iconst 4, 1, 0, 0, 0, [], nI 4, 0) 214 27 := X_at (r := mi214) rfl rfl
set_option maxRecDepth 20000 in
theorem x214_28 {z : P0} : X z 214 28 = XI mT z (X z) (.isub, 1, 0, 0, 0, [], 0, 0) 214 28 := X_at (r := mi214) rfl rfl
set_option maxRecDepth 20000 in
theorem x214_29 {z : P0} : X z 214 29 = XI mT z (X z) (.if_icmp .gt 1575, 3, 1604, 0, 0, [], 0, 0) 214 29 := X_at (r := mi214) rfl rfl
set_option maxRecDepth 20000 in
theorem x214_32 {z : P0} : X z 214 32 = XI mT z (X z) (.aload_n 0, 1, 0, 0, 0, [], 0, 0) 214 32 := X_at (r := mi214) rfl rfl
set_option maxRecDepth 20000 in
theorem x214_33 {z : P0} : X z 214 33 = XI mT z (X z) (.iload 4, 2, 4, 0, 0, [], 0, 0) 214 33 := X_at (r := mi214) rfl rfl
set_option maxRecDepth 20000 in
theorem x214_35 {z : P0} : X z 214 35 = XI mT z (X z) (.iaload, 1, 0, 0, 0, [], 0, 0) 214 35 := X_at (r := mi214) rfl rfl
set_option maxRecDepth 20000 in
theorem x214_36 {z : P0} : X z 214 36 = XI mT z (X z) (.bipush 31, 2, 0, 0, 0, [], nI 31, 0) 214 36 := X_at (r := mi214) rfl rfl
set_option maxRecDepth 20000 in
theorem x214_38 {z : P0} : X z 214 38 = XI mT z (X z) (.iand, 1, 0, 0, 0, [], 0, 0) 214 38 := X_at (r := mi214) rfl rfl
set_option maxRecDepth 20000 in
theorem x214_39 {z : P0} : X z 214 39 = XI mT z (X z) (.tableswitch 1559 0 26 #[121, 189, 233, 277, 345, 413, 497, 565, 609, 665, 721, 734, 790, 834, 902, 970, 1038, 1106, 1174, 1230, 1286, 1342, 1422, 1435, 1448, 1504, 1545], 121, 1598, 0, 0, [160, 228, 272, 316, 384, 452, 536, 604, 648, 704, 760, 773, 829, 873, 941, 1009, 1077, 1145, 1213, 1269, 1325, 1381, 1461, 1474, 1487, 1543, 1584], 0, 0) 214 39 := X_at (r := mi214) rfl rfl
set_option maxRecDepth 20000 in
theorem x214_160 {z : P0} : X z 214 160 = XI mT z (X z) (.aload_n 1, 1, 1, 0, 0, [], 0, 0) 214 160 := X_at (r := mi214) rfl rfl
set_option maxRecDepth 20000 in
theorem x214_161 {z : P0} : X z 214 161 = XI mT z (X z) (.aload_n 0, 1, 0, 0, 0, [], 0, 0) 214 161 := X_at (r := mi214) rfl rfl
set_option maxRecDepth 20000 in
theorem x214_162 {z : P0} : X z 214 162 = XI mT z (X z) (.iload 4, 2, 4, 0, 0, [], 0, 0) 214 162 := X_at (r := mi214) rfl rfl
set_option maxRecDepth 20000 in
theorem x214_164 {z : P0} : X z 214 164 = XI mT z (X z) (.iconst 1, 1, 0, 0, 0, [], nI 1, 0) 214 164 := X_at (r := mi214) rfl rfl
set_option maxRecDepth 20000 in
theorem x214_165 {z : P0} : X z 214 165 = XI mT z (X z) (.iadd, 1, 0, 0, 0, [], 0, 0) 214 165 := X_at (r := mi214) rfl rfl
set_option maxRecDepth 20000 in
theorem x214_166 {z : P0} : X z 214 166 = XI mT z (X z) (.iaload, 1, 0, 0, 0, [], 0, 0) 214 166 := X_at (r := mi214) rfl rfl
set_option maxRecDepth 20000 in
theorem x214_167 {z : P0} : X z 214 167 = XI mT z (X z) (.aload_n 0, 1, 0, 0, 0, [], 0, 0) 214 167 := X_at (r := mi214) rfl rfl
set_option maxRecDepth 20000 in
theorem x214_168 {z : P0} : X z 214 168 = XI mT z (X z) (.iload 4, 2, 4, 0, 0, [], 0, 0) 214 168 := X_at (r := mi214) rfl rfl
set_option maxRecDepth 20000 in
theorem x214_170 {z : P0} : X z 214 170 = XI mT z (X z) (.iconst 2, 1, 0, 0, 0, [], nI 2, 0) 214 170 := X_at (r := mi214) rfl rfl
set_option maxRecDepth 20000 in
theorem x214_171 {z : P0} : X z 214 171 = XI mT z (X z) (.iadd, 1, 0, 0, 0, [], 0, 0) 214 171 := X_at (r := mi214) rfl rfl
set_option maxRecDepth 20000 in
theorem x214_172 {z : P0} : X z 214 172 = XI mT z (X z) (.iaload, 1, 0, 0, 0, [], 0, 0) 214 172 := X_at (r := mi214) rfl rfl
set_option maxRecDepth 20000 in
theorem x214_173 {z : P0} : X z 214 173 = XI mT z (X z) (.aload_n 3, 1, 3, 0, 0, [], 0, 0) 214 173 := X_at (r := mi214) rfl rfl
set_option maxRecDepth 20000 in
theorem x214_174 {z : P0} : X z 214 174 = XI mT z (X z) (.invokestatic 90, 3, 4, 192, 0, [188], 0, 0) 214 174 := X_at (r := mi214) rfl rfl
set_option maxRecDepth 20000 in
theorem x214_177 {z : P0} : X z 214 177 = XI mT z (X z) (.istore 5, 2, 5, 0, 0, [], 0, 0) 214 177 := X_at (r := mi214) rfl rfl
set_option maxRecDepth 20000 in
theorem x214_179 {z : P0} : X z 214 179 = XI mT z (X z) (.aload_n 2, 1, 2, 0, 0, [], 0, 0) 214 179 := X_at (r := mi214) rfl rfl
set_option maxRecDepth 20000 in
theorem x214_180 {z : P0} : X z 214 180 = XI mT z (X z) (.aload_n 0, 1, 0, 0, 0, [], 0, 0) 214 180 := X_at (r := mi214) rfl rfl
set_option maxRecDepth 20000 in
theorem x214_181 {z : P0} : X z 214 181 = XI mT z (X z) (.iload 4, 2, 4, 0, 0, [], 0, 0) 214 181 := X_at (r := mi214) rfl rfl
set_option maxRecDepth 20000 in
theorem x214_183 {z : P0} : X z 214 183 = XI mT z (X z) (.iconst 1, 1, 0, 0, 0, [], nI 1, 0) 214 183 := X_at (r := mi214) rfl rfl
set_option maxRecDepth 20000 in
theorem x214_184 {z : P0} : X z 214 184 = XI mT z (X z) (.iadd, 1, 0, 0, 0, [], 0, 0) 214 184 := X_at (r := mi214) rfl rfl
set_option maxRecDepth 20000 in
theorem x214_185 {z : P0} : X z 214 185 = XI mT z (X z) (.iaload, 1, 0, 0, 0, [], 0, 0) 214 185 := X_at (r := mi214) rfl rfl
set_option maxRecDepth 20000 in
theorem x214_186 {z : P0} : X z 214 186 = XI mT z (X z) (.aload_n 0, 1, 0, 0, 0, [], 0, 0) 214 186 := X_at (r := mi214) rfl rfl
set_option maxRecDepth 20000 in
theorem x214_187 {z : P0} : X z 214 187 = XI mT z (X z) (.iload 4, 2, 4, 0, 0, [], 0, 0) 214 187 := X_at (r := mi214) rfl rfl
set_option maxRecDepth 20000 in
theorem x214_189 {z : P0} : X z 214 189 = XI mT z (X z) (.iconst 2, 1, 0, 0, 0, [], nI 2, 0) 214 189 := X_at (r := mi214) rfl rfl
set_option maxRecDepth 20000 in
theorem x214_190 {z : P0} : X z 214 190 = XI mT z (X z) (.iadd, 1, 0, 0, 0, [], 0, 0) 214 190 := X_at (r := mi214) rfl rfl
set_option maxRecDepth 20000 in
theorem x214_191 {z : P0} : X z 214 191 = XI mT z (X z) (.iaload, 1, 0, 0, 0, [], 0, 0) 214 191 := X_at (r := mi214) rfl rfl
set_option maxRecDepth 20000 in
theorem x214_192 {z : P0} : X z 214 192 = XI mT z (X z) (.invokevirtual 95, 3, 2, 133, 0, [189], 0, 0) 214 192 := X_at (r := mi214) rfl rfl
set_option maxRecDepth 20000 in
theorem x214_195 {z : P0} : X z 214 195 = XI mT z (X z) (.istore 6, 2, 6, 0, 0, [], 0, 0) 214 195 := X_at (r := mi214) rfl rfl
set_option maxRecDepth 20000 in
theorem x214_197 {z : P0} : X z 214 197 = XI mT z (X z) (.aload_n 2, 1, 2, 0, 0, [], 0, 0) 214 197 := X_at (r := mi214) rfl rfl
set_option maxRecDepth 20000 in
theorem x214_198 {z : P0} : X z 214 198 = XI mT z (X z) (.invokevirtual 96, 3, 0, 105, 0, [190], 0, 0) 214 198 := X_at (r := mi214) rfl rfl
set_option maxRecDepth 20000 in
theorem x214_201 {z : P0} : X z 214 201 = XI mT z (X z) (.iload 5, 2, 5, 0, 0, [], 0, 0) 214 201 := X_at (r := mi214) rfl rfl
set_option maxRecDepth 20000 in
theorem x214_203 {z : P0} : X z 214 203 = XI mT z (X z) (.if_icmp .eq 5, 3, 208, 0, 0, [], 0, 0) 214 203 := X_at (r := mi214) rfl rfl
set_option maxRecDepth 20000 in
theorem x214_206 {z : P0} : X z 214 206 = XI mT z (X z) (.iconst 0, 1, 0, 0, 0, [], nI 0, 0) 214 206 := X_at (r := mi214) rfl rfl
set_option maxRecDepth 20000 in
theorem x214_207 {z : P0} : X z 214 207 = XI mT z (X z) (.ireturn, 1, 0, 0, 0, [], 0, 0) 214 207 := X_at (r := mi214) rfl rfl
set_option maxRecDepth 20000 in
theorem x214_208 {z : P0} : X z 214 208 = XI mT z (X z) (.iload 5, 2, 5, 0, 0, [], 0, 0) 214 208 := X_at (r := mi214) rfl rfl
set_option maxRecDepth 20000 in
theorem x214_210 {z : P0} : X z 214 210 = XI mT z (X z) (.ifCond .ne 15, 3, 225, 0, 0, [], 0, 0) 214 210 := X_at (r := mi214) rfl rfl
set_option maxRecDepth 20000 in
theorem x214_213 {z : P0} : X z 214 213 = XI mT z (X z) (.aload_n 3, 1, 3, 0, 0, [], 0, 0) 214 213 := X_at (r := mi214) rfl rfl
set_option maxRecDepth 20000 in
theorem x214_214 {z : P0} : X z 214 214 = XI mT z (X z) (.iconst 0, 1, 0, 0, 0, [], nI 0, 0) 214 214 := X_at (r := mi214) rfl rfl
set_option maxRecDepth 20000 in
theorem x214_215 {z : P0} : X z 214 215 = XI mT z (X z) (.laload, 1, 0, 0, 0, [], 0, 0) 214 215 := X_at (r := mi214) rfl rfl
set_option maxRecDepth 20000 in
theorem x214_216 {z : P0} : X z 214 216 = XI mT z (X z) (.iload 6, 2, 6, 0, 0, [], 0, 0) 214 216 := X_at (r := mi214) rfl rfl
set_option maxRecDepth 20000 in
theorem x214_218 {z : P0} : X z 214 218 = XI mT z (X z) (.i2l, 1, 0, 0, 0, [], 0, 0) 214 218 := X_at (r := mi214) rfl rfl
set_option maxRecDepth 20000 in
theorem x214_219 {z : P0} : X z 214 219 = XI mT z (X z) (.lcmp, 1, 0, 0, 0, [], 0, 0) 214 219 := X_at (r := mi214) rfl rfl
set_option maxRecDepth 20000 in
theorem x214_220 {z : P0} : X z 214 220 = XI mT z (X z) (.ifCond .eq 5, 3, 225, 0, 0, [], 0, 0) 214 220 := X_at (r := mi214) rfl rfl
set_option maxRecDepth 20000 in
theorem x214_223 {z : P0} : X z 214 223 = XI mT z (X z) (.iconst 0, 1, 0, 0, 0, [], nI 0, 0) 214 223 := X_at (r := mi214) rfl rfl
set_option maxRecDepth 20000 in
theorem x214_224 {z : P0} : X z 214 224 = XI mT z (X z) (.ireturn, 1, 0, 0, 0, [], 0, 0) 214 224 := X_at (r := mi214) rfl rfl
set_option maxRecDepth 20000 in
theorem x214_225 {z : P0} : X z 214 225 = XI mT z (X z) (.goto 1373, 3, 1598, 0, 0, [], 0, 0) 214 225 := X_at (r := mi214) rfl rfl
set_option maxRecDepth 20000 in
theorem x214_228 {z : P0} : X z 214 228 = XI mT z (X z) (.aload_n 1, 1, 1, 0, 0, [], 0, 0) 214 228 := X_at (r := mi214) rfl rfl
set_option maxRecDepth 20000 in
theorem x214_229 {z : P0} : X z 214 229 = XI mT z (X z) (.aload_n 3, 1, 3, 0, 0, [], 0, 0) 214 229 := X_at (r := mi214) rfl rfl
set_option maxRecDepth 20000 in
theorem x214_230 {z : P0} : X z 214 230 = XI mT z (X z) (.invokestatic 99, 3, 2, 193, 0, [191], 0, 0) 214 230 := X_at (r := mi214) rfl rfl
set_option maxRecDepth 20000 in
theorem x214_233 {z : P0} : X z 214 233 = XI mT z (X z) (.istore 5, 2, 5, 0, 0, [], 0, 0) 214 233 := X_at (r := mi214) rfl rfl
set_option maxRecDepth 20000 in
theorem x214_235 {z : P0} : X z 214 235 = XI mT z (X z) (.aload_n 2, 1, 2, 0, 0, [], 0, 0) 214 235 := X_at (r := mi214) rfl rfl
set_option maxRecDepth 20000 in
theorem x214_236 {z : P0} : X z 214 236 = XI mT z (X z) (.invokevirtual 102, 3, 0, 134, 0, [192], 0, 0) 214 236 := X_at (r := mi214) rfl rfl
set_option maxRecDepth 20000 in
theorem x214_239 {z : P0} : X z 214 239 = XI mT z (X z) (.istore 6, 2, 6, 0, 0, [], 0, 0) 214 239 := X_at (r := mi214) rfl rfl
set_option maxRecDepth 20000 in
theorem x214_241 {z : P0} : X z 214 241 = XI mT z (X z) (.aload_n 2, 1, 2, 0, 0, [], 0, 0) 214 241 := X_at (r := mi214) rfl rfl
set_option maxRecDepth 20000 in
theorem x214_242 {z : P0} : X z 214 242 = XI mT z (X z) (.invokevirtual 96, 3, 0, 105, 0, [190], 0, 0) 214 242 := X_at (r := mi214) rfl rfl
set_option maxRecDepth 20000 in
theorem x214_245 {z : P0} : X z 214 245 = XI mT z (X z) (.iload 5, 2, 5, 0, 0, [], 0, 0) 214 245 := X_at (r := mi214) rfl rfl
set_option maxRecDepth 20000 in
theorem x214_247 {z : P0} : X z 214 247 = XI mT z (X z) (.if_icmp .eq 5, 3, 252, 0, 0, [], 0, 0) 214 247 := X_at (r := mi214) rfl rfl
set_option maxRecDepth 20000 in
theorem x214_250 {z : P0} : X z 214 250 = XI mT z (X z) (.iconst 0, 1, 0, 0, 0, [], nI 0, 0) 214 250 := X_at (r := mi214) rfl rfl
set_option maxRecDepth 20000 in
theorem x214_251 {z : P0} : X z 214 251 = XI mT z (X z) (.ireturn, 1, 0, 0, 0, [], 0, 0) 214 251 := X_at (r := mi214) rfl rfl
set_option maxRecDepth 20000 in
theorem x214_252 {z : P0} : X z 214 252 = XI mT z (X z) (.iload 5, 2, 5, 0, 0, [], 0, 0) 214 252 := X_at (r := mi214) rfl rfl
set_option maxRecDepth 20000 in
theorem x214_254 {z : P0} : X z 214 254 = XI mT z (X z) (.ifCond .ne 15, 3, 269, 0, 0, [], 0, 0) 214 254 := X_at (r := mi214) rfl rfl
set_option maxRecDepth 20000 in
theorem x214_257 {z : P0} : X z 214 257 = XI mT z (X z) (.aload_n 3, 1, 3, 0, 0, [], 0, 0) 214 257 := X_at (r := mi214) rfl rfl
set_option maxRecDepth 20000 in
theorem x214_258 {z : P0} : X z 214 258 = XI mT z (X z) (.iconst 0, 1, 0, 0, 0, [], nI 0, 0) 214 258 := X_at (r := mi214) rfl rfl
set_option maxRecDepth 20000 in
theorem x214_259 {z : P0} : X z 214 259 = XI mT z (X z) (.laload, 1, 0, 0, 0, [], 0, 0) 214 259 := X_at (r := mi214) rfl rfl
set_option maxRecDepth 20000 in
theorem x214_260 {z : P0} : X z 214 260 = XI mT z (X z) (.iload 6, 2, 6, 0, 0, [], 0, 0) 214 260 := X_at (r := mi214) rfl rfl
set_option maxRecDepth 20000 in
theorem x214_262 {z : P0} : X z 214 262 = XI mT z (X z) (.i2l, 1, 0, 0, 0, [], 0, 0) 214 262 := X_at (r := mi214) rfl rfl
set_option maxRecDepth 20000 in
theorem x214_263 {z : P0} : X z 214 263 = XI mT z (X z) (.lcmp, 1, 0, 0, 0, [], 0, 0) 214 263 := X_at (r := mi214) rfl rfl
set_option maxRecDepth 20000 in
theorem x214_264 {z : P0} : X z 214 264 = XI mT z (X z) (.ifCond .eq 5, 3, 269, 0, 0, [], 0, 0) 214 264 := X_at (r := mi214) rfl rfl
set_option maxRecDepth 20000 in
theorem x214_267 {z : P0} : X z 214 267 = XI mT z (X z) (.iconst 0, 1, 0, 0, 0, [], nI 0, 0) 214 267 := X_at (r := mi214) rfl rfl
set_option maxRecDepth 20000 in
theorem x214_268 {z : P0} : X z 214 268 = XI mT z (X z) (.ireturn, 1, 0, 0, 0, [], 0, 0) 214 268 := X_at (r := mi214) rfl rfl
set_option maxRecDepth 20000 in
theorem x214_269 {z : P0} : X z 214 269 = XI mT z (X z) (.goto 1329, 3, 1598, 0, 0, [], 0, 0) 214 269 := X_at (r := mi214) rfl rfl
set_option maxRecDepth 20000 in
theorem x214_272 {z : P0} : X z 214 272 = XI mT z (X z) (.aload_n 1, 1, 1, 0, 0, [], 0, 0) 214 272 := X_at (r := mi214) rfl rfl
set_option maxRecDepth 20000 in
theorem x214_273 {z : P0} : X z 214 273 = XI mT z (X z) (.aload_n 3, 1, 3, 0, 0, [], 0, 0) 214 273 := X_at (r := mi214) rfl rfl
set_option maxRecDepth 20000 in
theorem x214_274 {z : P0} : X z 214 274 = XI mT z (X z) (.invokestatic 103, 3, 2, 194, 0, [193], 0, 0) 214 274 := X_at (r := mi214) rfl rfl
set_option maxRecDepth 20000 in
theorem x214_277 {z : P0} : X z 214 277 = XI mT z (X z) (.istore 5, 2, 5, 0, 0, [], 0, 0) 214 277 := X_at (r := mi214) rfl rfl
set_option maxRecDepth 20000 in
theorem x214_279 {z : P0} : X z 214 279 = XI mT z (X z) (.aload_n 2, 1, 2, 0, 0, [], 0, 0) 214 279 := X_at (r := mi214) rfl rfl
set_option maxRecDepth 20000 in
theorem x214_280 {z : P0} : X z 214 280 = XI mT z (X z) (.invokevirtual 105, 3, 0, 135, 0, [194], 0, 0) 214 280 := X_at (r := mi214) rfl rfl
set_option maxRecDepth 20000 in
theorem x214_283 {z : P0} : X z 214 283 = XI mT z (X z) (.istore 6, 2, 6, 0, 0, [], 0, 0) 214 283 := X_at (r := mi214) rfl rfl
set_option maxRecDepth 20000 in
theorem x214_285 {z : P0} : X z 214 285 = XI mT z (X z) (.aload_n 2, 1, 2, 0, 0, [], 0, 0) 214 285 := X_at (r := mi214) rfl rfl
set_option maxRecDepth 20000 in
theorem x214_286 {z : P0} : X z 214 286 = XI mT z (X z) (.invokevirtual 96, 3, 0, 105, 0, [190], 0, 0) 214 286 := X_at (r := mi214) rfl rfl
set_option maxRecDepth 20000 in
theorem x214_289 {z : P0} : X z 214 289 = XI mT z (X z) (.iload 5, 2, 5, 0, 0, [], 0, 0) 214 289 := X_at (r := mi214) rfl rfl
set_option maxRecDepth 20000 in
theorem x214_291 {z : P0} : X z 214 291 = XI mT z (X z) (.if_icmp .eq 5, 3, 296, 0, 0, [], 0, 0) 214 291 := X_at (r := mi214) rfl rfl
set_option maxRecDepth 20000 in
theorem x214_294 {z : P0} : X z 214 294 = XI mT z (X z) (.iconst 0, 1, 0, 0, 0, [], nI 0, 0) 214 294 := X_at (r := mi214) rfl rfl
set_option maxRecDepth 20000 in
theorem x214_295 {z : P0} : X z 214 295 = XI mT z (X z) (.ireturn, 1, 0, 0, 0, [], 0, 0) 214 295 := X_at (r := mi214) rfl rfl
set_option maxRecDepth 20000 in
theorem x214_296 {z : P0} : X z 214 296 = XI mT z (X z) (.iload 5, 2, 5, 0, 0, [], 0, 0) 214 296 := X_at (r := mi214) rfl rfl
set_option maxRecDepth 20000 in
theorem x214_298 {z : P0} : X z 214 298 = XI mT z (X z) (.ifCond .ne 15, 3, 313, 0, 0, [], 0, 0) 214 298 := X_at (r := mi214) rfl rfl
set_option maxRecDepth 20000 in
theorem x214_301 {z : P0} : X z 214 301 = XI mT z (X z) (.aload_n 3, 1, 3, 0, 0, [], 0, 0) 214 301 := X_at (r := mi214) rfl rfl
set_option maxRecDepth 20000 in
theorem x214_302 {z : P0} : X z 214 302 = XI mT z (X z) (.iconst 0, 1, 0, 0, 0, [], nI 0, 0) 214 302 := X_at (r := mi214) rfl rfl
set_option maxRecDepth 20000 in
theorem x214_303 {z : P0} : X z 214 303 = XI mT z (X z) (.laload, 1, 0, 0, 0, [], 0, 0) 214 303 := X_at (r := mi214) rfl rfl
set_option maxRecDepth 20000 in
theorem x214_304 {z : P0} : X z 214 304 = XI mT z (X z) (.iload 6, 2, 6, 0, 0, [], 0, 0) 214 304 := X_at (r := mi214) rfl rfl
set_option maxRecDepth 20000 in
theorem x214_306 {z : P0} : X z 214 306 = XI mT z (X z) (.i2l, 1, 0, 0, 0, [], 0, 0) 214 306 := X_at (r := mi214) rfl rfl
set_option maxRecDepth 20000 in
theorem x214_307 {z : P0} : X z 214 307 = XI mT z (X z) (.lcmp, 1, 0, 0, 0, [], 0, 0) 214 307 := X_at (r := mi214) rfl rfl
set_option maxRecDepth 20000 in
theorem x214_308 {z : P0} : X z 214 308 = XI mT z (X z) (.ifCond .eq 5, 3, 313, 0, 0, [], 0, 0) 214 308 := X_at (r := mi214) rfl rfl
set_option maxRecDepth 20000 in
theorem x214_311 {z : P0} : X z 214 311 = XI mT z (X z) (.iconst 0, 1, 0, 0, 0, [], nI 0, 0) 214 311 := X_at (r := mi214) rfl rfl
set_option maxRecDepth 20000 in
theorem x214_312 {z : P0} : X z 214 312 = XI mT z (X z) (.ireturn, 1, 0, 0, 0, [], 0, 0) 214 312 := X_at (r := mi214) rfl rfl
set_option maxRecDepth 20000 in
theorem x214_313 {z : P0} : X z 214 313 = XI mT z (X z) (.goto 1285, 3, 1598, 0, 0, [], 0, 0) 214 313 := X_at (r := mi214) rfl rfl
set_option maxRecDepth 20000 in
theorem x214_316 {z : P0} : X z 214 316 = XI mT z (X z) (.aload_n 1, 1, 1, 0, 0, [], 0, 0) 214 316 := X_at (r := mi214) rfl rfl
set_option maxRecDepth 20000 in
theorem x214_317 {z : P0} : X z 214 317 = XI mT z (X z) (.aload_n 0, 1, 0, 0, 0, [], 0, 0) 214 317 := X_at (r := mi214) rfl rfl
set_option maxRecDepth 20000 in
theorem x214_318 {z : P0} : X z 214 318 = XI mT z (X z) (.iload 4, 2, 4, 0, 0, [], 0, 0) 214 318 := X_at (r := mi214) rfl rfl
set_option maxRecDepth 20000 in
theorem x214_320 {z : P0} : X z 214 320 = XI mT z (X z) (.iconst 1, 1, 0, 0, 0, [], nI 1, 0) 214 320 := X_at (r := mi214) rfl rfl
set_option maxRecDepth 20000 in
theorem x214_321 {z : P0} : X z 214 321 = XI mT z (X z) (.iadd, 1, 0, 0, 0, [], 0, 0) 214 321 := X_at (r := mi214) rfl rfl
set_option maxRecDepth 20000 in
theorem x214_322 {z : P0} : X z 214 322 = XI mT z (X z) (.iaload, 1, 0, 0, 0, [], 0, 0) 214 322 := X_at (r := mi214) rfl rfl
set_option maxRecDepth 20000 in
theorem x214_323 {z : P0} : X z 214 323 = XI mT z (X z) (.aload_n 0, 1, 0, 0, 0, [], 0, 0) 214 323 := X_at (r := mi214) rfl rfl
set_option maxRecDepth 20000 in
theorem x214_324 {z : P0} : X z 214 324 = XI mT z (X z) (.iload 4, 2, 4, 0, 0, [], 0, 0) 214 324 := X_at (r := mi214) rfl rfl
set_option maxRecDepth 20000 in
theorem x214_326 {z : P0} : X z 214 326 = XI mT z (X z) (.iconst 2, 1, 0, 0, 0, [], nI 2, 0) 214 326 := X_at (r := mi214) rfl rfl
set_option maxRecDepth 20000 in
theorem x214_327 {z : P0} : X z 214 327 = XI mT z (X z) (.iadd, 1, 0, 0, 0, [], 0, 0) 214 327 := X_at (r := mi214) rfl rfl
set_option maxRecDepth 20000 in
theorem x214_328 {z : P0} : X z 214 328 = XI mT z (X z) (.iaload, 1, 0, 0, 0, [], 0, 0) 214 328 := X_at (r := mi214) rfl rfl
set_option maxRecDepth 20000 in
theorem x214_329 {z : P0} : X z 214 329 = XI mT z (X z) (.aload_n 3, 1, 3, 0, 0, [], 0, 0) 214 329 := X_at (r := mi214) rfl rfl
set_option maxRecDepth 20000 in
theorem x214_330 {z : P0} : X z 214 330 = XI mT z (X z) (.invokestatic 106, 3, 4, 195, 0, [195], 0, 0) 214 330 := X_at (r := mi214) rfl rfl
set_option maxRecDepth 20000 in
theorem x214_333 {z : P0} : X z 214 333 = XI mT z (X z) (.istore 5, 2, 5, 0, 0, [], 0, 0) 214 333 := X_at (r := mi214) rfl rfl
set_option maxRecDepth 20000 in
theorem x214_335 {z : P0} : X z 214 335 = XI mT z (X z) (.aload_n 2, 1, 2, 0, 0, [], 0, 0) 214 335 := X_at (r := mi214) rfl rfl
set_option maxRecDepth 20000 in
theorem x214_336 {z : P0} : X z 214 336 = XI mT z (X z) (.aload_n 0, 1, 0, 0, 0, [], 0, 0) 214 336 := X_at (r := mi214) rfl rfl
set_option maxRecDepth 20000 in
theorem x214_337 {z : P0} : X z 214 337 = XI mT z (X z) (.iload 4, 2, 4, 0, 0, [], 0, 0) 214 337 := X_at (r := mi214) rfl rfl
set_option maxRecDepth 20000 in
theorem x214_339 {z : P0} : X z 214 339 = XI mT z (X z) (.iconst 1, 1, 0, 0, 0, [], nI 1, 0) 214 339 := X_at (r := mi214) rfl rfl
set_option maxRecDepth 20000 in
theorem x214_340 {z : P0} : X z 214 340 = XI mT z (X z) (.iadd, 1, 0, 0, 0, [], 0, 0) 214 340 := X_at (r := mi214) rfl rfl
set_option maxRecDepth 20000 in
theorem x214_341 {z : P0} : X z 214 341 = XI mT z (X z) (.iaload, 1, 0, 0, 0, [], 0, 0) 214 341 := X_at (r := mi214) rfl rfl
set_option maxRecDepth 20000 in
theorem x214_342 {z : P0} : X z 214 342 = XI mT z (X z) (.aload_n 0, 1, 0, 0, 0, [], 0, 0) 214 342 := X_at (r := mi214) rfl rfl
set_option maxRecDepth 20000 in
theorem x214_343 {z : P0} : X z 214 343 = XI mT z (X z) (.iload 4, 2, 4, 0, 0, [], 0, 0) 214 343 := X_at (r := mi214) rfl rfl
set_option maxRecDepth 20000 in
theorem x214_345 {z : P0} : X z 214 345 = XI mT z (X z) (.iconst 2, 1, 0, 0, 0, [], nI 2, 0) 214 345 := X_at (r := mi214) rfl rfl
set_option maxRecDepth 20000 in
theorem x214_346 {z : P0} : X z 214 346 = XI mT z (X z) (.iadd, 1, 0, 0, 0, [], 0, 0) 214 346 := X_at (r := mi214) rfl rfl
set_option maxRecDepth 20000 in
theorem x214_347 {z : P0} : X z 214 347 = XI mT z (X z) (.iaload, 1, 0, 0, 0, [], 0, 0) 214 347 := X_at (r := mi214) rfl rfl
set_option maxRecDepth 20000 in
theorem x214_348 {z : P0} : X z 214 348 = XI mT z (X z) (.invokevirtual 108, 3, 2, 136, 0, [196], 0, 0) 214 348 := X_at (r := mi214) rfl rfl
set_option maxRecDepth 20000 in
theorem x214_351 {z : P0} : X z 214 351 = XI mT z (X z) (.istore 6, 2, 6, 0, 0, [], 0, 0) 214 351 := X_at (r := mi214) rfl rfl
set_option maxRecDepth 20000 in
theorem x214_353 {z : P0} : X z 214 353 = XI mT z (X z) (.aload_n 2, 1, 2, 0, 0, [], 0, 0) 214 353 := X_at (r := mi214) rfl rfl
set_option maxRecDepth 20000 in
theorem x214_354 {z : P0} : X z 214 354 = XI mT z (X z) (.invokevirtual 96, 3, 0, 105, 0, [190], 0, 0) 214 354 := X_at (r := mi214) rfl rfl
set_option maxRecDepth 20000 in
theorem x214_357 {z : P0} : X z 214 357 = XI mT z (X z) (.iload 5, 2, 5, 0, 0, [], 0, 0) 214 357 := X_at (r := mi214) rfl rfl
set_option maxRecDepth 20000 in
theorem x214_359 {z : P0} : X z 214 359 = XI mT z (X z) (.if_icmp .eq 5, 3, 364, 0, 0, [], 0, 0) 214 359 := X_at (r := mi214) rfl rfl
set_option maxRecDepth 20000 in
theorem x214_362 {z : P0} : X z 214 362 = XI mT z (X z) (.iconst 0, 1, 0, 0, 0, [], nI 0, 0) 214 362 := X_at (r := mi214) rfl rfl
set_option maxRecDepth 20000 in
theorem x214_363 {z : P0} : X z 214 363 = XI mT z (X z) (.ireturn, 1, 0, 0, 0, [], 0, 0) 214 363 := X_at (r := mi214) rfl rfl
set_option maxRecDepth 20000 in
theorem x214_364 {z : P0} : X z 214 364 = XI mT z (X z) (.iload 5, 2, 5, 0, 0, [], 0, 0) 214 364 := X_at (r := mi214) rfl rfl
set_option maxRecDepth 20000 in
theorem x214_366 {z : P0} : X z 214 366 = XI mT z (X z) (.ifCond .ne 15, 3, 381, 0, 0, [], 0, 0) 214 366 := X_at (r := mi214) rfl rfl
set_option maxRecDepth 20000 in
theorem x214_369 {z : P0} : X z 214 369 = XI mT z (X z) (.aload_n 3, 1, 3, 0, 0, [], 0, 0) 214 369 := X_at (r := mi214) rfl rfl
set_option maxRecDepth 20000 in
theorem x214_370 {z : P0} : X z 214 370 = XI mT z (X z) (.iconst 0, 1, 0, 0, 0, [], nI 0, 0) 214 370 := X_at (r := mi214) rfl rfl
set_option maxRecDepth 20000 in
theorem x214_371 {z : P0} : X z 214 371 = XI mT z (X z) (.laload, 1, 0, 0, 0, [], 0, 0) 214 371 := X_at (r := mi214) rfl rfl
set_option maxRecDepth 20000 in
theorem x214_372 {z : P0} : X z 214 372 = XI mT z (X z) (.iload 6, 2, 6, 0, 0, [], 0, 0) 214 372 := X_at (r := mi214) rfl rfl
set_option maxRecDepth 20000 in
theorem x214_374 {z : P0} : X z 214 374 = XI mT z (X z) (.i2l, 1, 0, 0, 0, [], 0, 0) 214 374 := X_at (r := mi214) rfl rfl
set_option maxRecDepth 20000 in
theorem x214_375 {z : P0} : X z 214 375 = XI mT z (X z) (.lcmp, 1, 0, 0, 0, [], 0, 0) 214 375 := X_at (r := mi214) rfl rfl
set_option maxRecDepth 20000 in
theorem x214_376 {z : P0} : X z 214 376 = XI mT z (X z) (.ifCond .eq 5, 3, 381, 0, 0, [], 0, 0) 214 376 := X_at (r := mi214) rfl rfl
set_option maxRecDepth 20000 in
theorem x214_379 {z : P0} : X z 214 379 = XI mT z (X z) (.iconst 0, 1, 0, 0, 0, [], nI 0, 0) 214 379 := X_at (r := mi214) rfl rfl
set_option maxRecDepth 20000 in
theorem x214_380 {z : P0} : X z 214 380 = XI mT z (X z) (.ireturn, 1, 0, 0, 0, [], 0, 0) 214 380 := X_at (r := mi214) rfl rfl
set_option maxRecDepth 20000 in
theorem x214_381 {z : P0} : X z 214 381 = XI mT z (X z) (.goto 1217, 3, 1598, 0, 0, [], 0, 0) 214 381 := X_at (r := mi214) rfl rfl
set_option maxRecDepth 20000 in
theorem x214_384 {z : P0} : X z 214 384 = XI mT z (X z) (.aload_n 1, 1, 1, 0, 0, [], 0, 0) 214 384 := X_at (r := mi214) rfl rfl
set_option maxRecDepth 20000 in
theorem x214_385 {z : P0} : X z 214 385 = XI mT z (X z) (.aload_n 0, 1, 0, 0, 0, [], 0, 0) 214 385 := X_at (r := mi214) rfl rfl
set_option maxRecDepth 20000 in
theorem x214_386 {z : P0} : X z 214 386 = XI mT z (X z) (.iload 4, 2, 4, 0, 0, [], 0, 0) 214 386 := X_at (r := mi214) rfl rfl
set_option maxRecDepth 20000 in
theorem x214_388 {z : P0} : X z 214 388 = XI mT z (X z) (.iconst 1, 1, 0, 0, 0, [], nI 1, 0) 214 388 := X_at (r := mi214) rfl rfl
set_option maxRecDepth 20000 in
theorem x214_389 {z : P0} : X z 214 389 = XI mT z (X z) (.iadd, 1, 0, 0, 0, [], 0, 0) 214 389 := X_at (r := mi214) rfl rfl
set_option maxRecDepth 20000 in
theorem x214_390 {z : P0} : X z 214 390 = XI mT z (X z) (.iaload, 1, 0, 0, 0, [], 0, 0) 214 390 := X_at (r := mi214) rfl rfl
set_option maxRecDepth 20000 in
theorem x214_391 {z : P0} : X z 214 391 = XI mT z (X z) (.aload_n 0, 1, 0, 0, 0, [], 0, 0) 214 391 := X_at (r := mi214) rfl rfl
set_option maxRecDepth 20000 in
theorem x214_392 {z : P0} : X z 214 392 = XI mT z (X z) (.iload 4, 2, 4, 0, 0, [], 0, 0) 214 392 := X_at (r := mi214) rfl rfl
set_option maxRecDepth 20000 in
theorem x214_394 {z : P0} : X z 214 394 = XI mT z (X z) (.iconst 2, 1, 0, 0, 0, [], nI 2, 0) 214 394 := X_at (r := mi214) rfl rfl
set_option maxRecDepth 20000 in
theorem x214_395 {z : P0} : X z 214 395 = XI mT z (X z) (.iadd, 1, 0, 0, 0, [], 0, 0) 214 395 := X_at (r := mi214) rfl rfl
set_option maxRecDepth 20000 in
theorem x214_396 {z : P0} : X z 214 396 = XI mT z (X z) (.iaload, 1, 0, 0, 0, [], 0, 0) 214 396 := X_at (r := mi214) rfl rfl
set_option maxRecDepth 20000 in
theorem x214_397 {z : P0} : X z 214 397 = XI mT z (X z) (.aload_n 3, 1, 3, 0, 0, [], 0, 0) 214 397 := X_at (r := mi214) rfl rfl
set_option maxRecDepth 20000 in
theorem x214_398 {z : P0} : X z 214 398 = XI mT z (X z) (.invokestatic 109, 3, 4, 196, 0, [197], 0, 0) 214 398 := X_at (r := mi214) rfl rfl
set_option maxRecDepth 20000 in
theorem x214_401 {z : P0} : X z 214 401 = XI mT z (X z) (.istore 5, 2, 5, 0, 0, [], 0, 0) 214 401 := X_at (r := mi214) rfl rfl
set_option maxRecDepth 20000 in
theorem x214_403 {z : P0} : X z 214 403 = XI mT z (X z) (.aload_n 2, 1, 2, 0, 0, [], 0, 0) 214 403 := X_at (r := mi214) rfl rfl
set_option maxRecDepth 20000 in
theorem x214_404 {z : P0} : X z 214 404 = XI mT z (X z) (.aload_n 0, 1, 0, 0, 0, [], 0, 0) 214 404 := X_at (r := mi214) rfl rfl
set_option maxRecDepth 20000 in
theorem x214_405 {z : P0} : X z 214 405 = XI mT z (X z) (.iload 4, 2, 4, 0, 0, [], 0, 0) 214 405 := X_at (r := mi214) rfl rfl
set_option maxRecDepth 20000 in
theorem x214_407 {z : P0} : X z 214 407 = XI mT z (X z) (.iconst 1, 1, 0, 0, 0, [], nI 1, 0) 214 407 := X_at (r := mi214) rfl rfl
set_option maxRecDepth 20000 in
theorem x214_408 {z : P0} : X z 214 408 = XI mT z (X z) (.iadd, 1, 0, 0, 0, [], 0, 0) 214 408 := X_at (r := mi214) rfl rfl
set_option maxRecDepth 20000 in
theorem x214_409 {z : P0} : X z 214 409 = XI mT z (X z) (.iaload, 1, 0, 0, 0, [], 0, 0) 214 409 := X_at (r := mi214) rfl rfl
set_option maxRecDepth 20000 in
theorem x214_410 {z : P0} : X z 214 410 = XI mT z (X z) (.aload_n 0, 1, 0, 0, 0, [], 0, 0) 214 410 := X_at (r := mi214) rfl rfl
set_option maxRecDepth 20000 in
theorem x214_411 {z : P0} : X z 214 411 = XI mT z (X z) (.iload 4, 2, 4, 0, 0, [], 0, 0) 214 411 := X_at (r := mi214) rfl rfl
set_option maxRecDepth 20000 in
theorem x214_413 {z : P0} : X z 214 413 = XI mT z (X z) (.iconst 2, 1, 0, 0, 0, [], nI 2, 0) 214 413 := X_at (r := mi214) rfl rfl
set_option maxRecDepth 20000 in
theorem x214_414 {z : P0} : X z 214 414 = XI mT z (X z) (.iadd, 1, 0, 0, 0, [], 0, 0) 214 414 := X_at (r := mi214) rfl rfl
set_option maxRecDepth 20000 in
theorem x214_415 {z : P0} : X z 214 415 = XI mT z (X z) (.iaload, 1, 0, 0, 0, [], 0, 0) 214 415 := X_at (r := mi214) rfl rfl
set_option maxRecDepth 20000 in
theorem x214_416 {z : P0} : X z 214 416 = XI mT z (X z) (.invokevirtual 111, 3, 2, 137, 0, [198], 0, 0) 214 416 := X_at (r := mi214) rfl rfl
set_option maxRecDepth 20000 in
theorem x214_419 {z : P0} : X z 214 419 = XI mT z (X z) (.istore 6, 2, 6, 0, 0, [], 0, 0) 214 419 := X_at (r := mi214) rfl rfl
set_option maxRecDepth 20000 in
theorem x214_421 {z : P0} : X z 214 421 = XI mT z (X z) (.aload_n 2, 1, 2, 0, 0, [], 0, 0) 214 421 := X_at (r := mi214) rfl rfl
set_option maxRecDepth 20000 in
theorem x214_422 {z : P0} : X z 214 422 = XI mT z (X z) (.invokevirtual 96, 3, 0, 105, 0, [190], 0, 0) 214 422 := X_at (r := mi214) rfl rfl
set_option maxRecDepth 20000 in
theorem x214_425 {z : P0} : X z 214 425 = XI mT z (X z) (.iload 5, 2, 5, 0, 0, [], 0, 0) 214 425 := X_at (r := mi214) rfl rfl
set_option maxRecDepth 20000 in
theorem x214_427 {z : P0} : X z 214 427 = XI mT z (X z) (.if_icmp .eq 5, 3, 432, 0, 0, [], 0, 0) 214 427 := X_at (r := mi214) rfl rfl
set_option maxRecDepth 20000 in
theorem x214_430 {z : P0} : X z 214 430 = XI mT z (X z) (.iconst 0, 1, 0, 0, 0, [], nI 0, 0) 214 430 := X_at (r := mi214) rfl rfl
set_option maxRecDepth 20000 in
theorem x214_431 {z : P0} : X z 214 431 = XI mT z (X z) (.ireturn, 1, 0, 0, 0, [], 0, 0) 214 431 := X_at (r := mi214) rfl rfl
set_option maxRecDepth 20000 in
theorem x214_432 {z : P0} : X z 214 432 = XI mT z (X z) (.iload 5, 2, 5, 0, 0, [], 0, 0) 214 432 := X_at (r := mi214) rfl rfl
set_option maxRecDepth 20000 in
theorem x214_434 {z : P0} : X z 214 434 = XI mT z (X z) (.ifCond .ne 15, 3, 449, 0, 0, [], 0, 0) 214 434 := X_at (r := mi214) rfl rfl
set_option maxRecDepth 20000 in
theorem x214_437 {z : P0} : X z 214 437 = XI mT z (X z) (.aload_n 3, 1, 3, 0, 0, [], 0, 0) 214 437 := X_at (r := mi214) rfl rfl
set_option maxRecDepth 20000 in
theorem x214_438 {z : P0} : X z 214 438 = XI mT z (X z) (.iconst 0, 1, 0, 0, 0, [], nI 0, 0) 214 438 := X_at (r := mi214) rfl rfl
set_option maxRecDepth 20000 in
theorem x214_439 {z : P0} : X z 214 439 = XI mT z (X z) (.laload, 1, 0, 0, 0, [], 0, 0) 214 439 := X_at (r := mi214) rfl rfl
set_option maxRecDepth 20000 in
theorem x214_440 {z : P0} : X z 214 440 = XI mT z (X z) (.iload 6, 2, 6, 0, 0, [], 0, 0) 214 440 := X_at (r := mi214) rfl rfl
set_option maxRecDepth 20000 in
theorem x214_442 {z : P0} : X z 214 442 = XI mT z (X z) (.i2l, 1, 0, 0, 0, [], 0, 0) 214 442 := X_at (r := mi214) rfl rfl
set_option maxRecDepth 20000 in
theorem x214_443 {z : P0} : X z 214 443 = XI mT z (X z) (.lcmp, 1, 0, 0, 0, [], 0, 0) 214 443 := X_at (r := mi214) rfl rfl
set_option maxRecDepth 20000 in
theorem x214_444 {z : P0} : X z 214 444 = XI mT z (X z) (.ifCond .eq 5, 3, 449, 0, 0, [], 0, 0) 214 444 := X_at (r := mi214) rfl rfl
set_option maxRecDepth 20000 in
theorem x214_447 {z : P0} : X z 214 447 = XI mT z (X z) (.iconst 0, 1, 0, 0, 0, [], nI 0, 0) 214 447 := X_at (r := mi214) rfl rfl
set_option maxRecDepth 20000 in
theorem x214_448 {z : P0} : X z 214 448 = XI mT z (X z) (.ireturn, 1, 0, 0, 0, [], 0, 0) 214 448 := X_at (r := mi214) rfl rfl
set_option maxRecDepth 20000 in
theorem x214_449 {z : P0} : X z 214 449 = XI mT z (X z) (.goto 1149, 3, 1598, 0, 0, [], 0, 0) 214 449 := X_at (r := mi214) rfl rfl
set_option maxRecDepth 20000 in
theorem x214_452 {z : P0} : X z 214 452 = XI mT z (X z) (.aload_n 1, 1, 1, 0, 0, [], 0, 0) 214 452 := X_at (r := mi214) rfl rfl
set_option maxRecDepth 20000 in
theorem x214_453 {z : P0} : X z 214 453 = XI mT z (X z) (.aload_n 0, 1, 0, 0, 0, [], 0, 0) 214 453 := X_at (r := mi214) rfl rfl
set_option maxRecDepth 20000 in
theorem x214_454 {z : P0} : X z 214 454 = XI mT z (X z) (.iload 4, 2, 4, 0, 0, [], 0, 0) 214 454 := X_at (r := mi214) rfl rfl
set_option maxRecDepth 20000 in
theorem x214_456 {z : P0} : X z 214 456 = XI mT z (X z) (.iconst 1, 1, 0, 0, 0, [], nI 1, 0) 214 456 := X_at (r := mi214) rfl rfl
set_option maxRecDepth 20000 in
theorem x214_457 {z : P0} : X z 214 457 = XI mT z (X z) (.iadd, 1, 0, 0, 0, [], 0, 0) 214 457 := X_at (r := mi214) rfl rfl
set_option maxRecDepth 20000 in
theorem x214_458 {z : P0} : X z 214 458 = XI mT z (X z) (.iaload, 1, 0, 0, 0, [], 0, 0) 214 458 := X_at (r := mi214) rfl rfl
set_option maxRecDepth 20000 in
theorem x214_459 {z : P0} : X z 214 459 = XI mT z (X z) (.aload_n 0, 1, 0, 0, 0, [], 0, 0) 214 459 := X_at (r := mi214) rfl rfl
set_option maxRecDepth 20000 in
theorem x214_460 {z : P0} : X z 214 460 = XI mT z (X z) (.iload 4, 2, 4, 0, 0, [], 0, 0) 214 460 := X_at (r := mi214) rfl rfl
set_option maxRecDepth 20000 in
theorem x214_462 {z : P0} : X z 214 462 = XI mT z (X z) (.iconst 2, 1, 0, 0, 0, [], nI 2, 0) 214 462 := X_at (r := mi214) rfl rfl
set_option maxRecDepth 20000 in
theorem x214_463 {z : P0} : X z 214 463 = XI mT z (X z) (.iadd, 1, 0, 0, 0, [], 0, 0) 214 463 := X_at (r := mi214) rfl rfl
set_option maxRecDepth 20000 in
theorem x214_464 {z : P0} : X z 214 464 = XI mT z (X z) (.iaload, 1, 0, 0, 0, [], 0, 0) 214 464 := X_at (r := mi214) rfl rfl
set_option maxRecDepth 20000 in
theorem x214_465 {z : P0} : X z 214 465 = XI mT z (X z) (.ifCond .eq 7, 3, 472, 0, 0, [], 0, 0) 214 465 := X_at (r := mi214) rfl rfl
set_option maxRecDepth 20000 in
theorem x214_468 {z : P0} : X z 214 468 = XI mT z (X z) (.iconst 1, 1, 0, 0, 0, [], nI 1, 0) 214 468 := X_at (r := mi214) rfl rfl
set_option maxRecDepth 20000 in
theorem x214_469 {z : P0} : X z 214 469 = XI mT z (X z) (.goto 4, 3, 473, 0, 0, [], 0, 0) 214 469 := X_at (r := mi214) rfl rfl
set_option maxRecDepth 20000 in
theorem x214_472 {z : P0} : X z 214 472 = XI mT z (X z) (.iconst 0, 1, 0, 0, 0, [], nI 0, 0) 214 472 := X_at (r := mi214) rfl rfl
set_option maxRecDepth 20000 in
theorem x214_473 {z : P0} : X z 214 473 = XI mT z (X z) (.aload_n 3, 1, 3, 0, 0, [], 0, 0) 214 473 := X_at (r := mi214) rfl rfl
set_option maxRecDepth 20000 in
theorem x214_474 {z : P0} : X z 214 474 = XI mT z (X z) (.invokestatic 112, 3, 4, 197, 0, [199], 0, 0) 214 474 := X_at (r := mi214) rfl rfl
set_option maxRecDepth 20000 in
theorem x214_477 {z : P0} : X z 214 477 = XI mT z (X z) (.istore 5, 2, 5, 0, 0, [], 0, 0) 214 477 := X_at (r := mi214) rfl rfl
set_option maxRecDepth 20000 in
theorem x214_479 {z : P0} : X z 214 479 = XI mT z (X z) (.aload_n 2, 1, 2, 0, 0, [], 0, 0) 214 479 := X_at (r := mi214) rfl rfl
set_option maxRecDepth 20000 in
theorem x214_480 {z : P0} : X z 214 480 = XI mT z (X z) (.aload_n 0, 1, 0, 0, 0, [], 0, 0) 214 480 := X_at (r := mi214) rfl rfl
set_option maxRecDepth 20000 in
theorem x214_481 {z : P0} : X z 214 481 = XI mT z (X z) (.iload 4, 2, 4, 0, 0, [], 0, 0) 214 481 := X_at (r := mi214) rfl rfl
set_option maxRecDepth 20000 in
theorem x214_483 {z : P0} : X z 214 483 = XI mT z (X z) (.iconst 1, 1, 0, 0, 0, [], nI 1, 0) 214 483 := X_at (r := mi214) rfl rfl
set_option maxRecDepth 20000 in
theorem x214_484 {z : P0} : X z 214 484 = XI mT z (X z) (.iadd, 1, 0, 0, 0, [], 0, 0) 214 484 := X_at (r := mi214) rfl rfl
set_option maxRecDepth 20000 in
theorem x214_485 {z : P0} : X z 214 485 = XI mT z (X z) (.iaload, 1, 0, 0, 0, [], 0, 0) 214 485 := X_at (r := mi214) rfl rfl
set_option maxRecDepth 20000 in
theorem x214_486 {z : P0} : X z 214 486 = XI mT z (X z) (.aload_n 0, 1, 0, 0, 0, [], 0, 0) 214 486 := X_at (r := mi214) rfl rfl
set_option maxRecDepth 20000 in
theorem x214_487 {z : P0} : X z 214 487 = XI mT z (X z) (.iload 4, 2, 4, 0, 0, [], 0, 0) 214 487 := X_at (r := mi214) rfl rfl
set_option maxRecDepth 20000 in
theorem x214_489 {z : P0} : X z 214 489 = XI mT z (X z) (.iconst 2, 1, 0, 0, 0, [], nI 2, 0) 214 489 := X_at (r := mi214) rfl rfl
set_option maxRecDepth 20000 in
theorem x214_490 {z : P0} : X z 214 490 = XI mT z (X z) (.iadd, 1, 0, 0, 0, [], 0, 0) 214 490 := X_at (r := mi214) rfl rfl
set_option maxRecDepth 20000 in
theorem x214_491 {z : P0} : X z 214 491 = XI mT z (X z) (.iaload, 1, 0, 0, 0, [], 0, 0) 214 491 := X_at (r := mi214) rfl rfl
set_option maxRecDepth 20000 in
theorem x214_492 {z : P0} : X z 214 492 = XI mT z (X z) (.ifCond .eq 7, 3, 499, 0, 0, [], 0, 0) 214 492 := X_at (r := mi214) rfl rfl
set_option maxRecDepth 20000 in
theorem x214_495 {z : P0} : X z 214 495 = XI mT z (X z) (.iconst 1, 1, 0, 0, 0, [], nI 1, 0) 214 495 := X_at (r := mi214) rfl rfl
set_option maxRecDepth 20000 in
theorem x214_496 {z : P0} : X z 214 496 = XI mT z (X z) (.goto 4, 3, 500, 0, 0, [], 0, 0) 214 496 := X_at (r := mi214) rfl rfl
set_option maxRecDepth 20000 in
theorem x214_499 {z : P0} : X z 214 499 = XI mT z (X z) (.iconst 0, 1, 0, 0, 0, [], nI 0, 0) 214 499 := X_at (r := mi214) rfl rfl
set_option maxRecDepth 20000 in
theorem x214_500 {z : P0} : X z 214 500 = XI mT z (X z) (.invokevirtual 115, 3, 2, 139, 0, [200], 0, 0) 214 500 := X_at (r := mi214) rfl rfl
set_option maxRecDepth 20000 in
theorem x214_503 {z : P0} : X z 214 503 = XI mT z (X z) (.istore 6, 2, 6, 0, 0, [], 0, 0) 214 503 := X_at (r := mi214) rfl rfl
set_option maxRecDepth 20000 in
theorem x214_505 {z : P0} : X z 214 505 = XI mT z (X z) (.aload_n 2, 1, 2, 0, 0, [], 0, 0) 214 505 := X_at (r := mi214) rfl rfl
set_option maxRecDepth 20000 in
theorem x214_506 {z : P0} : X z 214 506 = XI mT z (X z) (.invokevirtual 96, 3, 0, 105, 0, [190], 0, 0) 214 506 := X_at (r := mi214) rfl rfl
set_option maxRecDepth 20000 in
theorem x214_509 {z : P0} : X z 214 509 = XI mT z (X z) (.iload 5, 2, 5, 0, 0, [], 0, 0) 214 509 := X_at (r := mi214) rfl rfl
set_option maxRecDepth 20000 in
theorem x214_511 {z : P0} : X z 214 511 = XI mT z (X z) (.if_icmp .eq 5, 3, 516, 0, 0, [], 0, 0) 214 511 := X_at (r := mi214) rfl rfl
set_option maxRecDepth 20000 in
theorem x214_514 {z : P0} : X z 214 514 = XI mT z (X z) (.iconst 0, 1, 0, 0, 0, [], nI 0, 0) 214 514 := X_at (r := mi214) rfl rfl
set_option maxRecDepth 20000 in
theorem x214_515 {z : P0} : X z 214 515 = XI mT z (X z) (.ireturn, 1, 0, 0, 0, [], 0, 0) 214 515 := X_at (r := mi214) rfl rfl
set_option maxRecDepth 20000 in
theorem x214_516 {z : P0} : X z 214 516 = XI mT z (X z) (.iload 5, 2, 5, 0, 0, [], 0, 0) 214 516 := X_at (r := mi214) rfl rfl
set_option maxRecDepth 20000 in
theorem x214_518 {z : P0} : X z 214 518 = XI mT z (X z) (.ifCond .ne 15, 3, 533, 0, 0, [], 0, 0) 214 518 := X_at (r := mi214) rfl rfl
set_option maxRecDepth 20000 in
theorem x214_521 {z : P0} : X z 214 521 = XI mT z (X z) (.aload_n 3, 1, 3, 0, 0, [], 0, 0) 214 521 := X_at (r := mi214) rfl rfl
set_option maxRecDepth 20000 in
theorem x214_522 {z : P0} : X z 214 522 = XI mT z (X z) (.iconst 0, 1, 0, 0, 0, [], nI 0, 0) 214 522 := X_at (r := mi214) rfl rfl
set_option maxRecDepth 20000 in
theorem x214_523 {z : P0} : X z 214 523 = XI mT z (X z) (.laload, 1, 0, 0, 0, [], 0, 0) 214 523 := X_at (r := mi214) rfl rfl
set_option maxRecDepth 20000 in
theorem x214_524 {z : P0} : X z 214 524 = XI mT z (X z) (.iload 6, 2, 6, 0, 0, [], 0, 0) 214 524 := X_at (r := mi214) rfl rfl
set_option maxRecDepth 20000 in
theorem x214_526 {z : P0} : X z 214 526 = XI mT z (X z) (.i2l, 1, 0, 0, 0, [], 0, 0) 214 526 := X_at (r := mi214) rfl rfl
set_option maxRecDepth 20000 in
theorem x214_527 {z : P0} : X z 214 527 = XI mT z (X z) (.lcmp, 1, 0, 0, 0, [], 0, 0) 214 527 := X_at (r := mi214) rfl rfl
set_option maxRecDepth 20000 in
theorem x214_528 {z : P0} : X z 214 528 = XI mT z (X z) (.ifCond .eq 5, 3, 533, 0, 0, [], 0, 0) 214 528 := X_at (r := mi214) rfl rfl
set_option maxRecDepth 20000 in
theorem x214_531 {z : P0} : X z 214 531 = XI mT z (X z) (.iconst 0, 1, 0, 0, 0, [], nI 0, 0) 214 531 := X_at (r := mi214) rfl rfl
set_option maxRecDepth 20000 in
theorem x214_532 {z : P0} : X z 214 532 = XI mT z (X z) (.ireturn, 1, 0, 0, 0, [], 0, 0) 214 532 := X_at (r := mi214) rfl rfl
set_option maxRecDepth 20000 in
theorem x214_533 {z : P0} : X z 214 533 = XI mT z (X z) (.goto 1065, 3, 1598, 0, 0, [], 0, 0) 214 533 := X_at (r := mi214) rfl rfl
set_option maxRecDepth 20000 in
theorem x214_536 {z : P0} : X z 214 536 = XI mT z (X z) (.aload_n 1, 1, 1, 0, 0, [], 0, 0) 214 536 := X_at (r := mi214) rfl rfl
set_option maxRecDepth 20000 in
theorem x214_537 {z : P0} : X z 214 537 = XI mT z (X z) (.aload_n 0, 1, 0, 0, 0, [], 0, 0) 214 537 := X_at (r := mi214) rfl rfl
set_option maxRecDepth 20000 in
theorem x214_538 {z : P0} : X z 214 538 = XI mT z (X z) (.iload 4, 2, 4, 0, 0, [], 0, 0) 214 538 := X_at (r := mi214) rfl rfl
set_option maxRecDepth 20000 in
theorem x214_540 {z : P0} : X z 214 540 = XI mT z (X z) (.iconst 1, 1, 0, 0, 0, [], nI 1, 0) 214 540 := X_at (r := mi214) rfl rfl
set_option maxRecDepth 20000 in
theorem x214_541 {z : P0} : X z 214 541 = XI mT z (X z) (.iadd, 1, 0, 0, 0, [], 0, 0) 214 541 := X_at (r := mi214) rfl rfl
set_option maxRecDepth 20000 in
theorem x214_542 {z : P0} : X z 214 542 = XI mT z (X z) (.iaload, 1, 0, 0, 0, [], 0, 0) 214 542 := X_at (r := mi214) rfl rfl
set_option maxRecDepth 20000 in
theorem x214_543 {z : P0} : X z 214 543 = XI mT z (X z) (.aload_n 0, 1, 0, 0, 0, [], 0, 0) 214 543 := X_at (r := mi214) rfl rfl
set_option maxRecDepth 20000 in
theorem x214_544 {z : P0} : X z 214 544 = XI mT z (X z) (.iload 4, 2, 4, 0, 0, [], 0, 0) 214 544 := X_at (r := mi214) rfl rfl
set_option maxRecDepth 20000 in
theorem x214_546 {z : P0} : X z 214 546 = XI mT z (X z) (.iconst 2, 1, 0, 0, 0, [], nI 2, 0) 214 546 := X_at (r := mi214) rfl rfl
set_option maxRecDepth 20000 in
theorem x214_547 {z : P0} : X z 214 547 = XI mT z (X z) (.iadd, 1, 0, 0, 0, [], 0, 0) 214 547 := X_at (r := mi214) rfl rfl
set_option maxRecDepth 20000 in
theorem x214_548 {z : P0} : X z 214 548 = XI mT z (X z) (.iaload, 1, 0, 0, 0, [], 0, 0) 214 548 := X_at (r := mi214) rfl rfl
set_option maxRecDepth 20000 in
theorem x214_549 {z : P0} : X z 214 549 = XI mT z (X z) (.aload_n 3, 1, 3, 0, 0, [], 0, 0) 214 549 := X_at (r := mi214) rfl rfl
set_option maxRecDepth 20000 in
theorem x214_550 {z : P0} : X z 214 550 = XI mT z (X z) (.invokestatic 116, 3, 4, 198, 0, [201], 0, 0) 214 550 := X_at (r := mi214) rfl rfl
set_option maxRecDepth 20000 in
theorem x214_553 {z : P0} : X z 214 553 = XI mT z (X z) (.istore 5, 2, 5, 0, 0, [], 0, 0) 214 553 := X_at (r := mi214) rfl rfl
set_option maxRecDepth 20000 in
theorem x214_555 {z : P0} : X z 214 555 = XI mT z (X z) (.aload_n 2, 1, 2, 0, 0, [], 0, 0) 214 555 := X_at (r := mi214) rfl rfl
set_option maxRecDepth 20000 in
theorem x214_556 {z : P0} : X z 214 556 = XI mT z (X z) (.aload_n 0, 1, 0, 0, 0, [], 0, 0) 214 556 := X_at (r := mi214) rfl rfl
set_option maxRecDepth 20000 in
theorem x214_557 {z : P0} : X z 214 557 = XI mT z (X z) (.iload 4, 2, 4, 0, 0, [], 0, 0) 214 557 := X_at (r := mi214) rfl rfl
set_option maxRecDepth 20000 in
theorem x214_559 {z : P0} : X z 214 559 = XI mT z (X z) (.iconst 1, 1, 0, 0, 0, [], nI 1, 0) 214 559 := X_at (r := mi214) rfl rfl
set_option maxRecDepth 20000 in
theorem x214_560 {z : P0} : X z 214 560 = XI mT z (X z) (.iadd, 1, 0, 0, 0, [], 0, 0) 214 560 := X_at (r := mi214) rfl rfl
set_option maxRecDepth 20000 in
theorem x214_561 {z : P0} : X z 214 561 = XI mT z (X z) (.iaload, 1, 0, 0, 0, [], 0, 0) 214 561 := X_at (r := mi214) rfl rfl
set_option maxRecDepth 20000 in
theorem x214_562 {z : P0} : X z 214 562 = XI mT z (X z) (.aload_n 0, 1, 0, 0, 0, [], 0, 0) 214 562 := X_at (r := mi214) rfl rfl
set_option maxRecDepth 20000 in
theorem x214_563 {z : P0} : X z 214 563 = XI mT z (X z) (.iload 4, 2, 4, 0, 0, [], 0, 0) 214 563 := X_at (r := mi214) rfl rfl
set_option maxRecDepth 20000 in
theorem x214_565 {z : P0} : X z 214 565 = XI mT z (X z) (.iconst 2, 1, 0, 0, 0, [], nI 2, 0) 214 565 := X_at (r := mi214) rfl rfl
set_option maxRecDepth 20000 in
theorem x214_566 {z : P0} : X z 214 566 = XI mT z (X z) (.iadd, 1, 0, 0, 0, [], 0, 0) 214 566 := X_at (r := mi214) rfl rfl
set_option maxRecDepth 20000 in
theorem x214_567 {z : P0} : X z 214 567 = XI mT z (X z) (.iaload, 1, 0, 0, 0, [], 0, 0) 214 567 := X_at (r := mi214) rfl rfl
set_option maxRecDepth 20000 in
theorem x214_568 {z : P0} : X z 214 568 = XI mT z (X z) (.invokevirtual 118, 3, 2, 142, 0, [202], 0, 0) 214 568 := X_at (r := mi214) rfl rfl
set_option maxRecDepth 20000 in
theorem x214_571 {z : P0} : X z 214 571 = XI mT z (X z) (.istore 6, 2, 6, 0, 0, [], 0, 0) 214 571 := X_at (r := mi214) rfl rfl
set_option maxRecDepth 20000 in
theorem x214_573 {z : P0} : X z 214 573 = XI mT z (X z) (.aload_n 2, 1, 2, 0, 0, [], 0, 0) 214 573 := X_at (r := mi214) rfl rfl
set_option maxRecDepth 20000 in
theorem x214_574 {z : P0} : X z 214 574 = XI mT z (X z) (.invokevirtual 96, 3, 0, 105, 0, [190], 0, 0) 214 574 := X_at (r := mi214) rfl rfl
set_option maxRecDepth 20000 in
theorem x214_577 {z : P0} : X z 214 577 = XI mT z (X z) (.iload 5, 2, 5, 0, 0, [], 0, 0) 214 577 := X_at (r := mi214) rfl rfl
set_option maxRecDepth 20000 in
theorem x214_579 {z : P0} : X z 214 579 = XI mT z (X z) (.if_icmp .eq 5, 3, 584, 0, 0, [], 0, 0) 214 579 := X_at (r := mi214) rfl rfl
set_option maxRecDepth 20000 in
theorem x214_582 {z : P0} : X z 214 582 = XI mT z (X z) (.iconst 0, 1, 0, 0, 0, [], nI 0, 0) 214 582 := X_at (r := mi214) rfl rfl
set_option maxRecDepth 20000 in
theorem x214_583 {z : P0} : X z 214 583 = XI mT z (X z) (.ireturn, 1, 0, 0, 0, [], 0, 0) 214 583 := X_at (r := mi214) rfl rfl
set_option maxRecDepth 20000 in
theorem x214_584 {z : P0} : X z 214 584 = XI mT z (X z) (.iload 5, 2, 5, 0, 0, [], 0, 0) 214 584 := X_at (r := mi214) rfl rfl
set_option maxRecDepth 20000 in
theorem x214_586 {z : P0} : X z 214 586 = XI mT z (X z) (.ifCond .ne 15, 3, 601, 0, 0, [], 0, 0) 214 586 := X_at (r := mi214) rfl rfl
set_option maxRecDepth 20000 in
theorem x214_589 {z : P0} : X z 214 589 = XI mT z (X z) (.aload_n 3, 1, 3, 0, 0, [], 0, 0) 214 589 := X_at (r := mi214) rfl rfl
set_option maxRecDepth 20000 in
theorem x214_590 {z : P0} : X z 214 590 = XI mT z (X z) (.iconst 0, 1, 0, 0, 0, [], nI 0, 0) 214 590 := X_at (r := mi214) rfl rfl
set_option maxRecDepth 20000 in
theorem x214_591 {z : P0} : X z 214 591 = XI mT z (X z) (.laload, 1, 0, 0, 0, [], 0, 0) 214 591 := X_at (r := mi214) rfl rfl
set_option maxRecDepth 20000 in
theorem x214_592 {z : P0} : X z 214 592 = XI mT z (X z) (.iload 6, 2, 6, 0, 0, [], 0, 0) 214 592 := X_at (r := mi214) rfl rfl
set_option maxRecDepth 20000 in
theorem x214_594 {z : P0} : X z 214 594 = XI mT z (X z) (.i2l, 1, 0, 0, 0, [], 0, 0) 214 594 := X_at (r := mi214) rfl rfl
set_option maxRecDepth 20000 in
theorem x214_595 {z : P0} : X z 214 595 = XI mT z (X z) (.lcmp, 1, 0, 0, 0, [], 0, 0) 214 595 := X_at (r := mi214) rfl rfl
set_option maxRecDepth 20000 in
theorem x214_596 {z : P0} : X z 214 596 = XI mT z (X z) (.ifCond .eq 5, 3, 601, 0, 0, [], 0, 0) 214 596 := X_at (r := mi214) rfl rfl
set_option maxRecDepth 20000 in
theorem x214_599 {z : P0} : X z 214 599 = XI mT z (X z) (.iconst 0, 1, 0, 0, 0, [], nI 0, 0) 214 599 := X_at (r := mi214) rfl rfl
set_option maxRecDepth 20000 in
theorem x214_600 {z : P0} : X z 214 600 = XI mT z (X z) (.ireturn, 1, 0, 0, 0, [], 0, 0) 214 600 := X_at (r := mi214) rfl rfl
set_option maxRecDepth 20000 in
theorem x214_601 {z : P0} : X z 214 601 = XI mT z (X z) (.goto 997, 3, 1598, 0, 0, [], 0, 0) 214 601 := X_at (r := mi214) rfl rfl
set_option maxRecDepth 20000 in
theorem x214_604 {z : P0} : X z 214 604 = XI mT z (X z) (.aload_n 1, 1, 1, 0, 0, [], 0, 0) 214 604 := X_at (r := mi214) rfl rfl
set_option maxRecDepth 20000 in
theorem x214_605 {z : P0} : X z 214 605 = XI mT z (X z) (.aload_n 3, 1, 3, 0, 0, [], 0, 0) 214 605 := X_at (r := mi214) rfl rfl
set_option maxRecDepth 20000 in
theorem x214_606 {z : P0} : X z 214 606 = XI mT z (X z) (.invokestatic 119, 3, 2, 199, 0, [203], 0, 0) 214 606 := X_at (r := mi214) rfl rfl
set_option maxRecDepth 20000 in
theorem x214_609 {z : P0} : X z 214 609 = XI mT z (X z) (.istore 5, 2, 5, 0, 0, [], 0, 0) 214 609 := X_at (r := mi214) rfl rfl
set_option maxRecDepth 20000 in
theorem x214_611 {z : P0} : X z 214 611 = XI mT z (X z) (.aload_n 2, 1, 2, 0, 0, [], 0, 0) 214 611 := X_at (r := mi214) rfl rfl
set_option maxRecDepth 20000 in
theorem x214_612 {z : P0} : X z 214 612 = XI mT z (X z) (.invokevirtual 121, 3, 0, 143, 0, [204], 0, 0) 214 612 := X_at (r := mi214) rfl rfl
set_option maxRecDepth 20000 in
theorem x214_615 {z : P0} : X z 214 615 = XI mT z (X z) (.istore 6, 2, 6, 0, 0, [], 0, 0) 214 615 := X_at (r := mi214) rfl rfl
set_option maxRecDepth 20000 in
theorem x214_617 {z : P0} : X z 214 617 = XI mT z (X z) (.aload_n 2, 1, 2, 0, 0, [], 0, 0) 214 617 := X_at (r := mi214) rfl rfl
set_option maxRecDepth 20000 in
theorem x214_618 {z : P0} : X z 214 618 = XI mT z (X z) (.invokevirtual 96, 3, 0, 105, 0, [190], 0, 0) 214 618 := X_at (r := mi214) rfl rfl
set_option maxRecDepth 20000 in
theorem x214_621 {z : P0} : X z 214 621 = XI mT z (X z) (.iload 5, 2, 5, 0, 0, [], 0, 0) 214 621 := X_at (r := mi214) rfl rfl
set_option maxRecDepth 20000 in
theorem x214_623 {z : P0} : X z 214 623 = XI mT z (X z) (.if_icmp .eq 5, 3, 628, 0, 0, [], 0, 0) 214 623 := X_at (r := mi214) rfl rfl
set_option maxRecDepth 20000 in
theorem x214_626 {z : P0} : X z 214 626 = XI mT z (X z) (.iconst 0, 1, 0, 0, 0, [], nI 0, 0) 214 626 := X_at (r := mi214) rfl rfl
set_option maxRecDepth 20000 in
theorem x214_627 {z : P0} : X z 214 627 = XI mT z (X z) (.ireturn, 1, 0, 0, 0, [], 0, 0) 214 627 := X_at (r := mi214) rfl rfl
set_option maxRecDepth 20000 in
theorem x214_628 {z : P0} : X z 214 628 = XI mT z (X z) (.iload 5, 2, 5, 0, 0, [], 0, 0) 214 628 := X_at (r := mi214) rfl rfl
set_option maxRecDepth 20000 in
theorem x214_630 {z : P0} : X z 214 630 = XI mT z (X z) (.ifCond .ne 15, 3, 645, 0, 0, [], 0, 0) 214 630 := X_at (r := mi214) rfl rfl
set_option maxRecDepth 20000 in
theorem x214_633 {z : P0} : X z 214 633 = XI mT z (X z) (.aload_n 3, 1, 3, 0, 0, [], 0, 0) 214 633 := X_at (r := mi214) rfl rfl
set_option maxRecDepth 20000 in
theorem x214_634 {z : P0} : X z 214 634 = XI mT z (X z) (.iconst 0, 1, 0, 0, 0, [], nI 0, 0) 214 634 := X_at (r := mi214) rfl rfl
set_option maxRecDepth 20000 in
theorem x214_635 {z : P0} : X z 214 635 = XI mT z (X z) (.laload, 1, 0, 0, 0, [], 0, 0) 214 635 := X_at (r := mi214) rfl rfl
set_option maxRecDepth 20000 in
theorem x214_636 {z : P0} : X z 214 636 = XI mT z (X z) (.iload 6, 2, 6, 0, 0, [], 0, 0) 214 636 := X_at (r := mi214) rfl rfl
set_option maxRecDepth 20000 in
theorem x214_638 {z : P0} : X z 214 638 = XI mT z (X z) (.i2l, 1, 0, 0, 0, [], 0, 0) 214 638 := X_at (r := mi214) rfl rfl
set_option maxRecDepth 20000 in
theorem x214_639 {z : P0} : X z 214 639 = XI mT z (X z) (.lcmp, 1, 0, 0, 0, [], 0, 0) 214 639 := X_at (r := mi214) rfl rfl
set_option maxRecDepth 20000 in
theorem x214_640 {z : P0} : X z 214 640 = XI mT z (X z) (.ifCond .eq 5, 3, 645, 0, 0, [], 0, 0) 214 640 := X_at (r := mi214) rfl rfl
set_option maxRecDepth 20000 in
theorem x214_643 {z : P0} : X z 214 643 = XI mT z (X z) (.iconst 0, 1, 0, 0, 0, [], nI 0, 0) 214 643 := X_at (r := mi214) rfl rfl
set_option maxRecDepth 20000 in
theorem x214_644 {z : P0} : X z 214 644 = XI mT z (X z) (.ireturn, 1, 0, 0, 0, [], 0, 0) 214 644 := X_at (r := mi214) rfl rfl
set_option maxRecDepth 20000 in
theorem x214_645 {z : P0} : X z 214 645 = XI mT z (X z) (.goto 953, 3, 1598, 0, 0, [], 0, 0) 214 645 := X_at (r := mi214) rfl rfl
set_option maxRecDepth 20000 in
theorem x214_648 {z : P0} : X z 214 648 = XI mT z (X z) (.aload_n 1, 1, 1, 0, 0, [], 0, 0) 214 648 := X_at (r := mi214) rfl rfl
set_option maxRecDepth 20000 in
theorem x214_649 {z : P0} : X z 214 649 = XI mT z (X z) (.aload_n 0, 1, 0, 0, 0, [], 0, 0) 214 649 := X_at (r := mi214) rfl rfl
set_option maxRecDepth 20000 in
theorem x214_650 {z : P0} : X z 214 650 = XI mT z (X z) (.iload 4, 2, 4, 0, 0, [], 0, 0) 214 650 := X_at (r := mi214) rfl rfl
set_option maxRecDepth 20000 in
theorem x214_652 {z : P0} : X z 214 652 = XI mT z (X z) (.iconst 1, 1, 0, 0, 0, [], nI 1, 0) 214 652 := X_at (r := mi214) rfl rfl
set_option maxRecDepth 20000 in
theorem x214_653 {z : P0} : X z 214 653 = XI mT z (X z) (.iadd, 1, 0, 0, 0, [], 0, 0) 214 653 := X_at (r := mi214) rfl rfl
set_option maxRecDepth 20000 in
theorem x214_654 {z : P0} : X z 214 654 = XI mT z (X z) (.iaload, 1, 0, 0, 0, [], 0, 0) 214 654 := X_at (r := mi214) rfl rfl
set_option maxRecDepth 20000 in
theorem x214_655 {z : P0} : X z 214 655 = XI mT z (X z) (.aload_n 3, 1, 3, 0, 0, [], 0, 0) 214 655 := X_at (r := mi214) rfl rfl
set_option maxRecDepth 20000 in
theorem x214_656 {z : P0} : X z 214 656 = XI mT z (X z) (.invokestatic 122, 3, 3, 200, 0, [205], 0, 0) 214 656 := X_at (r := mi214) rfl rfl
set_option maxRecDepth 20000 in
theorem x214_659 {z : P0} : X z 214 659 = XI mT z (X z) (.istore 5, 2, 5, 0, 0, [], 0, 0) 214 659 := X_at (r := mi214) rfl rfl
set_option maxRecDepth 20000 in
theorem x214_661 {z : P0} : X z 214 661 = XI mT z (X z) (.aload_n 2, 1, 2, 0, 0, [], 0, 0) 214 661 := X_at (r := mi214) rfl rfl
set_option maxRecDepth 20000 in
theorem x214_662 {z : P0} : X z 214 662 = XI mT z (X z) (.aload_n 0, 1, 0, 0, 0, [], 0, 0) 214 662 := X_at (r := mi214) rfl rfl
set_option maxRecDepth 20000 in
theorem x214_663 {z : P0} : X z 214 663 = XI mT z (X z) (.iload 4, 2, 4, 0, 0, [], 0, 0) 214 663 := X_at (r := mi214) rfl rfl
set_option maxRecDepth 20000 in
theorem x214_665 {z : P0} : X z 214 665 = XI mT z (X z) (.iconst 1, 1, 0, 0, 0, [], nI 1, 0) 214 665 := X_at (r := mi214) rfl rfl
set_option maxRecDepth 20000 in
theorem x214_666 {z : P0} : X z 214 666 = XI mT z (X z) (.iadd, 1, 0, 0, 0, [], 0, 0) 214 666 := X_at (r := mi214) rfl rfl
set_option maxRecDepth 20000 in
theorem x214_667 {z : P0} : X z 214 667 = XI mT z (X z) (.iaload, 1, 0, 0, 0, [], 0, 0) 214 667 := X_at (r := mi214) rfl rfl
set_option maxRecDepth 20000 in
theorem x214_668 {z : P0} : X z 214 668 = XI mT z (X z) (.invokevirtual 125, 3, 1, 144, 0, [206], 0, 0) 214 668 := X_at (r := mi214) rfl rfl
set_option maxRecDepth 20000 in
theorem x214_671 {z : P0} : X z 214 671 = XI mT z (X z) (.istore 6, 2, 6, 0, 0, [], 0, 0) 214 671 := X_at (r := mi214) rfl rfl
set_option maxRecDepth 20000 in
theorem x214_673 {z : P0} : X z 214 673 = XI mT z (X z) (.aload_n 2, 1, 2, 0, 0, [], 0, 0) 214 673 := X_at (r := mi214) rfl rfl
set_option maxRecDepth 20000 in
theorem x214_674 {z : P0} : X z 214 674 = XI mT z (X z) (.invokevirtual 96, 3, 0, 105, 0, [190], 0, 0) 214 674 := X_at (r := mi214) rfl rfl
set_option maxRecDepth 20000 in
theorem x214_677 {z : P0} : X z 214 677 = XI mT z (X z) (.iload 5, 2, 5, 0, 0, [], 0, 0) 214 677 := X_at (r := mi214) rfl rfl
set_option maxRecDepth 20000 in
theorem x214_679 {z : P0} : X z 214 679 = XI mT z (X z) (.if_icmp .eq 5, 3, 684, 0, 0, [], 0, 0) 214 679 := X_at (r := mi214) rfl rfl
set_option maxRecDepth 20000 in
theorem x214_682 {z : P0} : X z 214 682 = XI mT z (X z) (.iconst 0, 1, 0, 0, 0, [], nI 0, 0) 214 682 := X_at (r := mi214) rfl rfl
set_option maxRecDepth 20000 in
theorem x214_683 {z : P0} : X z 214 683 = XI mT z (X z) (.ireturn, 1, 0, 0, 0, [], 0, 0) 214 683 := X_at (r := mi214) rfl rfl
set_option maxRecDepth 20000 in
theorem x214_684 {z : P0} : X z 214 684 = XI mT z (X z) (.iload 5, 2, 5, 0, 0, [], 0, 0) 214 684 := X_at (r := mi214) rfl rfl
set_option maxRecDepth 20000 in
theorem x214_686 {z : P0} : X z 214 686 = XI mT z (X z) (.ifCond .ne 15, 3, 701, 0, 0, [], 0, 0) 214 686 := X_at (r := mi214) rfl rfl
set_option maxRecDepth 20000 in
theorem x214_689 {z : P0} : X z 214 689 = XI mT z (X z) (.aload_n 3, 1, 3, 0, 0, [], 0, 0) 214 689 := X_at (r := mi214) rfl rfl
set_option maxRecDepth 20000 in
theorem x214_690 {z : P0} : X z 214 690 = XI mT z (X z) (.iconst 0, 1, 0, 0, 0, [], nI 0, 0) 214 690 := X_at (r := mi214) rfl rfl
set_option maxRecDepth 20000 in
theorem x214_691 {z : P0} : X z 214 691 = XI mT z (X z) (.laload, 1, 0, 0, 0, [], 0, 0) 214 691 := X_at (r := mi214) rfl rfl
set_option maxRecDepth 20000 in
theorem x214_692 {z : P0} : X z 214 692 = XI mT z (X z) (.iload 6, 2, 6, 0, 0, [], 0, 0) 214 692 := X_at (r := mi214) rfl rfl
set_option maxRecDepth 20000 in
theorem x214_694 {z : P0} : X z 214 694 = XI mT z (X z) (.i2l, 1, 0, 0, 0, [], 0, 0) 214 694 := X_at (r := mi214) rfl rfl
set_option maxRecDepth 20000 in
theorem x214_695 {z : P0} : X z 214 695 = XI mT z (X z) (.lcmp, 1, 0, 0, 0, [], 0, 0) 214 695 := X_at (r := mi214) rfl rfl
set_option maxRecDepth 20000 in
theorem x214_696 {z : P0} : X z 214 696 = XI mT z (X z) (.ifCond .eq 5, 3, 701, 0, 0, [], 0, 0) 214 696 := X_at (r := mi214) rfl rfl
set_option maxRecDepth 20000 in
theorem x214_699 {z : P0} : X z 214 699 = XI mT z (X z) (.iconst 0, 1, 0, 0, 0, [], nI 0, 0) 214 699 := X_at (r := mi214) rfl rfl
set_option maxRecDepth 20000 in
theorem x214_700 {z : P0} : X z 214 700 = XI mT z (X z) (.ireturn, 1, 0, 0, 0, [], 0, 0) 214 700 := X_at (r := mi214) rfl rfl
set_option maxRecDepth 20000 in
theorem x214_701 {z : P0} : X z 214 701 = XI mT z (X z) (.goto 897, 3, 1598, 0, 0, [], 0, 0) 214 701 := X_at (r := mi214) rfl rfl
set_option maxRecDepth 20000 in
theorem x214_704 {z : P0} : X z 214 704 = XI mT z (X z) (.aload_n 1, 1, 1, 0, 0, [], 0, 0) 214 704 := X_at (r := mi214) rfl rfl
set_option maxRecDepth 20000 in
theorem x214_705 {z : P0} : X z 214 705 = XI mT z (X z) (.aload_n 0, 1, 0, 0, 0, [], 0, 0) 214 705 := X_at (r := mi214) rfl rfl
set_option maxRecDepth 20000 in
theorem x214_706 {z : P0} : X z 214 706 = XI mT z (X z) (.iload 4, 2, 4, 0, 0, [], 0, 0) 214 706 := X_at (r := mi214) rfl rfl
set_option maxRecDepth 20000 in
theorem x214_708 {z : P0} : X z 214 708 = XI mT z (X z) (.iconst 1, 1, 0, 0, 0, [], nI 1, 0) 214 708 := X_at (r := mi214) rfl rfl
set_option maxRecDepth 20000 in
theorem x214_709 {z : P0} : X z 214 709 = XI mT z (X z) (.iadd, 1, 0, 0, 0, [], 0, 0) 214 709 := X_at (r := mi214) rfl rfl
set_option maxRecDepth 20000 in
theorem x214_710 {z : P0} : X z 214 710 = XI mT z (X z) (.iaload, 1, 0, 0, 0, [], 0, 0) 214 710 := X_at (r := mi214) rfl rfl
set_option maxRecDepth 20000 in
theorem x214_711 {z : P0} : X z 214 711 = XI mT z (X z) (.aload_n 3, 1, 3, 0, 0, [], 0, 0) 214 711 := X_at (r := mi214) rfl rfl
set_option maxRecDepth 20000 in
theorem x214_712 {z : P0} : X z 214 712 = XI mT z (X z) (.invokestatic 126, 3, 3, 201, 0, [207], 0, 0) 214 712 := X_at (r := mi214) rfl rfl
set_option maxRecDepth 20000 in
theorem x214_715 {z : P0} : X z 214 715 = XI mT z (X z) (.istore 5, 2, 5, 0, 0, [], 0, 0) 214 715 := X_at (r := mi214) rfl rfl
set_option maxRecDepth 20000 in
theorem x214_717 {z : P0} : X z 214 717 = XI mT z (X z) (.aload_n 2, 1, 2, 0, 0, [], 0, 0) 214 717 := X_at (r := mi214) rfl rfl
set_option maxRecDepth 20000 in
theorem x214_718 {z : P0} : X z 214 718 = XI mT z (X z) (.aload_n 0, 1, 0, 0, 0, [], 0, 0) 214 718 := X_at (r := mi214) rfl rfl
set_option maxRecDepth 20000 in
theorem x214_719 {z : P0} : X z 214 719 = XI mT z (X z) (.iload 4, 2, 4, 0, 0, [], 0, 0) 214 719 := X_at (r := mi214) rfl rfl
set_option maxRecDepth 20000 in
theorem x214_721 {z : P0} : X z 214 721 = XI mT z (X z) (.iconst 1, 1, 0, 0, 0, [], nI 1, 0) 214 721 := X_at (r := mi214) rfl rfl
set_option maxRecDepth 20000 in
theorem x214_722 {z : P0} : X z 214 722 = XI mT z (X z) (.iadd, 1, 0, 0, 0, [], 0, 0) 214 722 := X_at (r := mi214) rfl rfl
set_option maxRecDepth 20000 in
theorem x214_723 {z : P0} : X z 214 723 = XI mT z (X z) (.iaload, 1, 0, 0, 0, [], 0, 0) 214 723 := X_at (r := mi214) rfl rfl
set_option maxRecDepth 20000 in
theorem x214_724 {z : P0} : X z 214 724 = XI mT z (X z) (.invokevirtual 128, 3, 1, 145, 0, [208], 0, 0) 214 724 := X_at (r := mi214) rfl rfl
set_option maxRecDepth 20000 in
theorem x214_727 {z : P0} : X z 214 727 = XI mT z (X z) (.istore 6, 2, 6, 0, 0, [], 0, 0) 214 727 := X_at (r := mi214) rfl rfl
set_option maxRecDepth 20000 in
theorem x214_729 {z : P0} : X z 214 729 = XI mT z (X z) (.aload_n 2, 1, 2, 0, 0, [], 0, 0) 214 729 := X_at (r := mi214) rfl rfl
set_option maxRecDepth 20000 in
theorem x214_730 {z : P0} : X z 214 730 = XI mT z (X z) (.invokevirtual 96, 3, 0, 105, 0, [190], 0, 0) 214 730 := X_at (r := mi214) rfl rfl
set_option maxRecDepth 20000 in
theorem x214_733 {z : P0} : X z 214 733 = XI mT z (X z) (.iload 5, 2, 5, 0, 0, [], 0, 0) 214 733 := X_at (r := mi214) rfl rfl
set_option maxRecDepth 20000 in
theorem x214_735 {z : P0} : X z 214 735 = XI mT z (X z) (.if_icmp .eq 5, 3, 740, 0, 0, [], 0, 0) 214 735 := X_at (r := mi214) rfl rfl
set_option maxRecDepth 20000 in
theorem x214_738 {z : P0} : X z 214 738 = XI mT z (X z) (.iconst 0, 1, 0, 0, 0, [], nI 0, 0) 214 738 := X_at (r := mi214) rfl rfl
set_option maxRecDepth 20000 in
theorem x214_739 {z : P0} : X z 214 739 = XI mT z (X z) (.ireturn, 1, 0, 0, 0, [], 0, 0) 214 739 := X_at (r := mi214) rfl rfl
set_option maxRecDepth 20000 in
theorem x214_740 {z : P0} : X z 214 740 = XI mT z (X z) (.iload 5, 2, 5, 0, 0, [], 0, 0) 214 740 := X_at (r := mi214) rfl rfl
set_option maxRecDepth 20000 in
theorem x214_742 {z : P0} : X z 214 742 = XI mT z (X z) (.ifCond .ne 15, 3, 757, 0, 0, [], 0, 0) 214 742 := X_at (r := mi214) rfl rfl
set_option maxRecDepth 20000 in
theorem x214_745 {z : P0} : X z 214 745 = XI mT z (X z) (.aload_n 3, 1, 3, 0, 0, [], 0, 0) 214 745 := X_at (r := mi214) rfl rfl
set_option maxRecDepth 20000 in
theorem x214_746 {z : P0} : X z 214 746 = XI mT z (X z) (.iconst 0, 1, 0, 0, 0, [], nI 0, 0) 214 746 := X_at (r := mi214) rfl rfl
set_option maxRecDepth 20000 in
theorem x214_747 {z : P0} : X z 214 747 = XI mT z (X z) (.laload, 1, 0, 0, 0, [], 0, 0) 214 747 := X_at (r := mi214) rfl rfl
set_option maxRecDepth 20000 in
theorem x214_748 {z : P0} : X z 214 748 = XI mT z (X z) (.iload 6, 2, 6, 0, 0, [], 0, 0) 214 748 := X_at (r := mi214) rfl rfl
set_option maxRecDepth 20000 in
theorem x214_750 {z : P0} : X z 214 750 = XI mT z (X z) (.i2l, 1, 0, 0, 0, [], 0, 0) 214 750 := X_at (r := mi214) rfl rfl
set_option maxRecDepth 20000 in
theorem x214_751 {z : P0} : X z 214 751 = XI mT z (X z) (.lcmp, 1, 0, 0, 0, [], 0, 0) 214 751 := X_at (r := mi214) rfl rfl
set_option maxRecDepth 20000 in
theorem x214_752 {z : P0} : X z 214 752 = XI mT z (X z) (.ifCond .eq 5, 3, 757, 0, 0, [], 0, 0) 214 752 := X_at (r := mi214) rfl rfl
set_option maxRecDepth 20000 in
theorem x214_755 {z : P0} : X z 214 755 = XI mT z (X z) (.iconst 0, 1, 0, 0, 0, [], nI 0, 0) 214 755 := X_at (r := mi214) rfl rfl
set_option maxRecDepth 20000 in
theorem x214_756 {z : P0} : X z 214 756 = XI mT z (X z) (.ireturn, 1, 0, 0, 0, [], 0, 0) 214 756 := X_at (r := mi214) rfl rfl
set_option maxRecDepth 20000 in
theorem x214_757 {z : P0} : X z 214 757 = XI mT z (X z) (.goto 841, 3, 1598, 0, 0, [], 0, 0) 214 757 := X_at (r := mi214) rfl rfl
set_option maxRecDepth 20000 in
theorem x214_760 {z : P0} : X z 214 760 = XI mT z (X z) (.aload_n 1, 1, 1, 0, 0, [], 0, 0) 214 760 := X_at (r := mi214) rfl rfl
set_option maxRecDepth 20000 in
theorem x214_761 {z : P0} : X z 214 761 = XI mT z (X z) (.invokevirtual 129, 3, 0, 68, 0, [209], 0, 0) 214 761 := X_at (r := mi214) rfl rfl
set_option maxRecDepth 20000 in
theorem x214_764 {z : P0} : X z 214 764 = XI mT z (X z) (.aload_n 2, 1, 2, 0, 0, [], 0, 0) 214 764 := X_at (r := mi214) rfl rfl
set_option maxRecDepth 20000 in
theorem x214_765 {z : P0} : X z 214 765 = XI mT z (X z) (.invokevirtual 132, 3, 0, 146, 0, [210], 0, 0) 214 765 := X_at (r := mi214) rfl rfl
set_option maxRecDepth 20000 in
theorem x214_768 {z : P0} : X z 214 768 = XI mT z (X z) (.if_icmp .eq 830, 3, 1598, 0, 0, [], 0, 0) 214 768 := X_at (r := mi214) rfl rfl
set_option maxRecDepth 20000 in
theorem x214_771 {z : P0} : X z 214 771 = XI mT z (X z) (.iconst 0, 1, 0, 0, 0, [], nI 0, 0) 214 771 := X_at (r := mi214) rfl rfl
set_option maxRecDepth 20000 in
theorem x214_772 {z : P0} : X z 214 772 = XI mT z (X z) (.ireturn, 1, 0, 0, 0, [], 0, 0) 214 772 := X_at (r := mi214) rfl rfl
set_option maxRecDepth 20000 in
theorem x214_773 {z : P0} : X z 214 773 = XI mT z (X z) (.aload_n 1, 1, 1, 0, 0, [], 0, 0) 214 773 := X_at (r := mi214) rfl rfl
set_option maxRecDepth 20000 in
theorem x214_774 {z : P0} : X z 214 774 = XI mT z (X z) (.aload_n 0, 1, 0, 0, 0, [], 0, 0) 214 774 := X_at (r := mi214) rfl rfl
set_option maxRecDepth 20000 in
theorem x214_775 {z : P0} : X z 214 775 = XI mT z (X z) (.iload 4, 2, 4, 0, 0, [], 0, 0) 214 775 := X_at (r := mi214) rfl rfl
set_option maxRecDepth 20000 in
theorem x214_777 {z : P0} : X z 214 777 = XI mT z (X z) (.iconst 1, 1, 0, 0, 0, [], nI 1, 0) 214 777 := X_at (r := mi214) rfl rfl
set_option maxRecDepth 20000 in
theorem x214_778 {z : P0} : X z 214 778 = XI mT z (X z) (.iadd, 1, 0, 0, 0, [], 0, 0) 214 778 := X_at (r := mi214) rfl rfl
set_option maxRecDepth 20000 in
theorem x214_779 {z : P0} : X z 214 779 = XI mT z (X z) (.iaload, 1, 0, 0, 0, [], 0, 0) 214 779 := X_at (r := mi214) rfl rfl
set_option maxRecDepth 20000 in
theorem x214_780 {z : P0} : X z 214 780 = XI mT z (X z) (.aload_n 3, 1, 3, 0, 0, [], 0, 0) 214 780 := X_at (r := mi214) rfl rfl
set_option maxRecDepth 20000 in
theorem x214_781 {z : P0} : X z 214 781 = XI mT z (X z) (.invokestatic 133, 3, 3, 202, 0, [211], 0, 0) 214 781 := X_at (r := mi214) rfl rfl
set_option maxRecDepth 20000 in
theorem x214_784 {z : P0} : X z 214 784 = XI mT z (X z) (.istore 5, 2, 5, 0, 0, [], 0, 0) 214 784 := X_at (r := mi214) rfl rfl
set_option maxRecDepth 20000 in
theorem x214_786 {z : P0} : X z 214 786 = XI mT z (X z) (.aload_n 2, 1, 2, 0, 0, [], 0, 0) 214 786 := X_at (r := mi214) rfl rfl
set_option maxRecDepth 20000 in
theorem x214_787 {z : P0} : X z 214 787 = XI mT z (X z) (.aload_n 0, 1, 0, 0, 0, [], 0, 0) 214 787 := X_at (r := mi214) rfl rfl
set_option maxRecDepth 20000 in
theorem x214_788 {z : P0} : X z 214 788 = XI mT z (X z) (.iload 4, 2, 4, 0, 0, [], 0, 0) 214 788 := X_at (r := mi214) rfl rfl
set_option maxRecDepth 20000 in
theorem x214_790 {z : P0} : X z 214 790 = XI mT z (X z) (.iconst 1, 1, 0, 0, 0, [], nI 1, 0) 214 790 := X_at (r := mi214) rfl rfl
set_option maxRecDepth 20000 in
theorem x214_791 {z : P0} : X z 214 791 = XI mT z (X z) (.iadd, 1, 0, 0, 0, [], 0, 0) 214 791 := X_at (r := mi214) rfl rfl
set_option maxRecDepth 20000 in
theorem x214_792 {z : P0} : X z 214 792 = XI mT z (X z) (.iaload, 1, 0, 0, 0, [], 0, 0) 214 792 := X_at (r := mi214) rfl rfl
set_option maxRecDepth 20000 in
theorem x214_793 {z : P0} : X z 214 793 = XI mT z (X z) (.invokevirtual 135, 3, 1, 152, 0, [212], 0, 0) 214 793 := X_at (r := mi214) rfl rfl
set_option maxRecDepth 20000 in
theorem x214_796 {z : P0} : X z 214 796 = XI mT z (X z) (.istore 6, 2, 6, 0, 0, [], 0, 0) 214 796 := X_at (r := mi214) rfl rfl
set_option maxRecDepth 20000 in
theorem x214_798 {z : P0} : X z 214 798 = XI mT z (X z) (.aload_n 2, 1, 2, 0, 0, [], 0, 0) 214 798 := X_at (r := mi214) rfl rfl
set_option maxRecDepth 20000 in
theorem x214_799 {z : P0} : X z 214 799 = XI mT z (X z) (.invokevirtual 96, 3, 0, 105, 0, [190], 0, 0) 214 799 := X_at (r := mi214) rfl rfl
set_option maxRecDepth 20000 in
theorem x214_802 {z : P0} : X z 214 802 = XI mT z (X z) (.iload 5, 2, 5, 0, 0, [], 0, 0) 214 802 := X_at (r := mi214) rfl rfl
set_option maxRecDepth 20000 in
theorem x214_804 {z : P0} : X z 214 804 = XI mT z (X z) (.if_icmp .eq 5, 3, 809, 0, 0, [], 0, 0) 214 804 := X_at (r := mi214) rfl rfl
set_option maxRecDepth 20000 in
theorem x214_807 {z : P0} : X z 214 807 = XI mT z (X z) (.iconst 0, 1, 0, 0, 0, [], nI 0, 0) 214 807 := X_at (r := mi214) rfl rfl
set_option maxRecDepth 20000 in
theorem x214_808 {z : P0} : X z 214 808 = XI mT z (X z) (.ireturn, 1, 0, 0, 0, [], 0, 0) 214 808 := X_at (r := mi214) rfl rfl
set_option maxRecDepth 20000 in
theorem x214_809 {z : P0} : X z 214 809 = XI mT z (X z) (.iload 5, 2, 5, 0, 0, [], 0, 0) 214 809 := X_at (r := mi214) rfl rfl
set_option maxRecDepth 20000 in
theorem x214_811 {z : P0} : X z 214 811 = XI mT z (X z) (.ifCond .ne 15, 3, 826, 0, 0, [], 0, 0) 214 811 := X_at (r := mi214) rfl rfl
set_option maxRecDepth 20000 in
theorem x214_814 {z : P0} : X z 214 814 = XI mT z (X z) (.aload_n 3, 1, 3, 0, 0, [], 0, 0) 214 814 := X_at (r := mi214) rfl rfl
set_option maxRecDepth 20000 in
theorem x214_815 {z : P0} : X z 214 815 = XI mT z (X z) (.iconst 0, 1, 0, 0, 0, [], nI 0, 0) 214 815 := X_at (r := mi214) rfl rfl
set_option maxRecDepth 20000 in
theorem x214_816 {z : P0} : X z 214 816 = XI mT z (X z) (.laload, 1, 0, 0, 0, [], 0, 0) 214 816 := X_at (r := mi214) rfl rfl
set_option maxRecDepth 20000 in
theorem x214_817 {z : P0} : X z 214 817 = XI mT z (X z) (.iload 6, 2, 6, 0, 0, [], 0, 0) 214 817 := X_at (r := mi214) rfl rfl
set_option maxRecDepth 20000 in
theorem x214_819 {z : P0} : X z 214 819 = XI mT z (X z) (.i2l, 1, 0, 0, 0, [], 0, 0) 214 819 := X_at (r := mi214) rfl rfl
set_option maxRecDepth 20000 in
theorem x214_820 {z : P0} : X z 214 820 = XI mT z (X z) (.lcmp, 1, 0, 0, 0, [], 0, 0) 214 820 := X_at (r := mi214) rfl rfl
set_option maxRecDepth 20000 in
theorem x214_821 {z : P0} : X z 214 821 = XI mT z (X z) (.ifCond .eq 5, 3, 826, 0, 0, [], 0, 0) 214 821 := X_at (r := mi214) rfl rfl
set_option maxRecDepth 20000 in
theorem x214_824 {z : P0} : X z 214 824 = XI mT z (X z) (.iconst 0, 1, 0, 0, 0, [], nI 0, 0) 214 824 := X_at (r := mi214) rfl rfl
set_option maxRecDepth 20000 in
theorem x214_825 {z : P0} : X z 214 825 = XI mT z (X z) (.ireturn, 1, 0, 0, 0, [], 0, 0) 214 825 := X_at (r := mi214) rfl rfl
set_option maxRecDepth 20000 in
theorem x214_826 {z : P0} : X z 214 826 = XI mT z (X z) (.goto 772, 3, 1598, 0, 0, [], 0, 0) 214 826 := X_at (r := mi214) rfl rfl
set_option maxRecDepth 20000 in
theorem x214_829 {z : P0} : X z 214 829 = XI mT z (X z) (.aload_n 1, 1, 1, 0, 0, [], 0, 0) 214 829 := X_at (r := mi214) rfl rfl
set_option maxRecDepth 20000 in
theorem x214_830 {z : P0} : X z 214 830 = XI mT z (X z) (.aload_n 3, 1, 3, 0, 0, [], 0, 0) 214 830 := X_at (r := mi214) rfl rfl
set_option maxRecDepth 20000 in
theorem x214_831 {z : P0} : X z 214 831 = XI mT z (X z) (.invokestatic 136, 3, 2, 203, 0, [213], 0, 0) 214 831 := X_at (r := mi214) rfl rfl
set_option maxRecDepth 20000 in
theorem x214_834 {z : P0} : X z 214 834 = XI mT z (X z) (.istore 5, 2, 5, 0, 0, [], 0, 0) 214 834 := X_at (r := mi214) rfl rfl
set_option maxRecDepth 20000 in
theorem x214_836 {z : P0} : X z 214 836 = XI mT z (X z) (.aload_n 2, 1, 2, 0, 0, [], 0, 0) 214 836 := X_at (r := mi214) rfl rfl
set_option maxRecDepth 20000 in
theorem x214_837 {z : P0} : X z 214 837 = XI mT z (X z) (.invokevirtual 138, 3, 0, 153, 0, [214], 0, 0) 214 837 := X_at (r := mi214) rfl rfl
set_option maxRecDepth 20000 in
theorem x214_840 {z : P0} : X z 214 840 = XI mT z (X z) (.istore 6, 2, 6, 0, 0, [], 0, 0) 214 840 := X_at (r := mi214) rfl rfl
set_option maxRecDepth 20000 in
theorem x214_842 {z : P0} : X z 214 842 = XI mT z (X z) (.aload_n 2, 1, 2, 0, 0, [], 0, 0) 214 842 := X_at (r := mi214) rfl rfl
set_option maxRecDepth 20000 in
theorem x214_843 {z : P0} : X z 214 843 = XI mT z (X z) (.invokevirtual 96, 3, 0, 105, 0, [190], 0, 0) 214 843 := X_at (r := mi214) rfl rfl
set_option maxRecDepth 20000 in
theorem x214_846 {z : P0} : X z 214 846 = XI mT z (X z) (.iload 5, 2, 5, 0, 0, [], 0, 0) 214 846 := X_at (r := mi214) rfl rfl
set_option maxRecDepth 20000 in
theorem x214_848 {z : P0} : X z 214 848 = XI mT z (X z) (.if_icmp .eq 5, 3, 853, 0, 0, [], 0, 0) 214 848 := X_at (r := mi214) rfl rfl
set_option maxRecDepth 20000 in
theorem x214_851 {z : P0} : X z 214 851 = XI mT z (X z) (.iconst 0, 1, 0, 0, 0, [], nI 0, 0) 214 851 := X_at (r := mi214) rfl rfl
set_option maxRecDepth 20000 in
theorem x214_852 {z : P0} : X z 214 852 = XI mT z (X z) (.ireturn, 1, 0, 0, 0, [], 0, 0) 214 852 := X_at (r := mi214) rfl rfl
set_option maxRecDepth 20000 in
theorem x214_853 {z : P0} : X z 214 853 = XI mT z (X z) (.iload 5, 2, 5, 0, 0, [], 0, 0) 214 853 := X_at (r := mi214) rfl rfl
set_option maxRecDepth 20000 in
theorem x214_855 {z : P0} : X z 214 855 = XI mT z (X z) (.ifCond .ne 15, 3, 870, 0, 0, [], 0, 0) 214 855 := X_at (r := mi214) rfl rfl
set_option maxRecDepth 20000 in
theorem x214_858 {z : P0} : X z 214 858 = XI mT z (X z) (.aload_n 3, 1, 3, 0, 0, [], 0, 0) 214 858 := X_at (r := mi214) rfl rfl
set_option maxRecDepth 20000 in
theorem x214_859 {z : P0} : X z 214 859 = XI mT z (X z) (.iconst 0, 1, 0, 0, 0, [], nI 0, 0) 214 859 := X_at (r := mi214) rfl rfl
set_option maxRecDepth 20000 in
theorem x214_860 {z : P0} : X z 214 860 = XI mT z (X z) (.laload, 1, 0, 0, 0, [], 0, 0) 214 860 := X_at (r := mi214) rfl rfl
set_option maxRecDepth 20000 in
theorem x214_861 {z : P0} : X z 214 861 = XI mT z (X z) (.iload 6, 2, 6, 0, 0, [], 0, 0) 214 861 := X_at (r := mi214) rfl rfl
set_option maxRecDepth 20000 in
theorem x214_863 {z : P0} : X z 214 863 = XI mT z (X z) (.i2l, 1, 0, 0, 0, [], 0, 0) 214 863 := X_at (r := mi214) rfl rfl
set_option maxRecDepth 20000 in
theorem x214_864 {z : P0} : X z 214 864 = XI mT z (X z) (.lcmp, 1, 0, 0, 0, [], 0, 0) 214 864 := X_at (r := mi214) rfl rfl
set_option maxRecDepth 20000 in
theorem x214_865 {z : P0} : X z 214 865 = XI mT z (X z) (.ifCond .eq 5, 3, 870, 0, 0, [], 0, 0) 214 865 := X_at (r := mi214) rfl rfl
set_option maxRecDepth 20000 in
theorem x214_868 {z : P0} : X z 214 868 = XI mT z (X z) (.iconst 0, 1, 0, 0, 0, [], nI 0, 0) 214 868 := X_at (r := mi214) rfl rfl
set_option maxRecDepth 20000 in
theorem x214_869 {z : P0} : X z 214 869 = XI mT z (X z) (.ireturn, 1, 0, 0, 0, [], 0, 0) 214 869 := X_at (r := mi214) rfl rfl
set_option maxRecDepth 20000 in
theorem x214_870 {z : P0} : X z 214 870 = XI mT z (X z) (.goto 728, 3, 1598, 0, 0, [], 0, 0) 214 870 := X_at (r := mi214) rfl rfl
set_option maxRecDepth 20000 in
theorem x214_873 {z : P0} : X z 214 873 = XI mT z (X z) (.aload_n 1, 1, 1, 0, 0, [], 0, 0) 214 873 := X_at (r := mi214) rfl rfl
set_option maxRecDepth 20000 in
theorem x214_874 {z : P0} : X z 214 874 = XI mT z (X z) (.aload_n 0, 1, 0, 0, 0, [], 0, 0) 214 874 := X_at (r := mi214) rfl rfl
set_option maxRecDepth 20000 in
theorem x214_875 {z : P0} : X z 214 875 = XI mT z (X z) (.iload 4, 2, 4, 0, 0, [], 0, 0) 214 875 := X_at (r := mi214) rfl rfl
set_option maxRecDepth 20000 in
theorem x214_877 {z : P0} : X z 214 877 = XI mT z (X z) (.iconst 1, 1, 0, 0, 0, [], nI 1, 0) 214 877 := X_at (r := mi214) rfl rfl
set_option maxRecDepth 20000 in
theorem x214_878 {z : P0} : X z 214 878 = XI mT z (X z) (.iadd, 1, 0, 0, 0, [], 0, 0) 214 878 := X_at (r := mi214) rfl rfl
set_option maxRecDepth 20000 in
theorem x214_879 {z : P0} : X z 214 879 = XI mT z (X z) (.iaload, 1, 0, 0, 0, [], 0, 0) 214 879 := X_at (r := mi214) rfl rfl
set_option maxRecDepth 20000 in
theorem x214_880 {z : P0} : X z 214 880 = XI mT z (X z) (.aload_n 0, 1, 0, 0, 0, [], 0, 0) 214 880 := X_at (r := mi214) rfl rfl
set_option maxRecDepth 20000 in
theorem x214_881 {z : P0} : X z 214 881 = XI mT z (X z) (.iload 4, 2, 4, 0, 0, [], 0, 0) 214 881 := X_at (r := mi214) rfl rfl
set_option maxRecDepth 20000 in
theorem x214_883 {z : P0} : X z 214 883 = XI mT z (X z) (.iconst 2, 1, 0, 0, 0, [], nI 2, 0) 214 883 := X_at (r := mi214) rfl rfl
set_option maxRecDepth 20000 in
theorem x214_884 {z : P0} : X z 214 884 = XI mT z (X z) (.iadd, 1, 0, 0, 0, [], 0, 0) 214 884 := X_at (r := mi214) rfl rfl
set_option maxRecDepth 20000 in
theorem x214_885 {z : P0} : X z 214 885 = XI mT z (X z) (.iaload, 1, 0, 0, 0, [], 0, 0) 214 885 := X_at (r := mi214) rfl rfl
set_option maxRecDepth 20000 in
theorem x214_886 {z : P0} : X z 214 886 = XI mT z (X z) (.aload_n 3, 1, 3, 0, 0, [], 0, 0) 214 886 := X_at (r := mi214) rfl rfl
set_option maxRecDepth 20000 in
theorem x214_887 {z : P0} : X z 214 887 = XI mT z (X z) (.invokestatic 139, 3, 4, 204, 0, [215], 0, 0) 214 887 := X_at (r := mi214) rfl rfl
set_option maxRecDepth 20000 in
theorem x214_890 {z : P0} : X z 214 890 = XI mT z (X z) (.istore 5, 2, 5, 0, 0, [], 0, 0) 214 890 := X_at (r := mi214) rfl rfl
set_option maxRecDepth 20000 in
theorem x214_892 {z : P0} : X z 214 892 = XI mT z (X z) (.aload_n 2, 1, 2, 0, 0, [], 0, 0) 214 892 := X_at (r := mi214) rfl rfl
set_option maxRecDepth 20000 in
theorem x214_893 {z : P0} : X z 214 893 = XI mT z (X z) (.aload_n 0, 1, 0, 0, 0, [], 0, 0) 214 893 := X_at (r := mi214) rfl rfl
set_option maxRecDepth 20000 in
theorem x214_894 {z : P0} : X z 214 894 = XI mT z (X z) (.iload 4, 2, 4, 0, 0, [], 0, 0) 214 894 := X_at (r := mi214) rfl rfl
set_option maxRecDepth 20000 in
theorem x214_896 {z : P0} : X z 214 896 = XI mT z (X z) (.iconst 1, 1, 0, 0, 0, [], nI 1, 0) 214 896 := X_at (r := mi214) rfl rfl
set_option maxRecDepth 20000 in
theorem x214_897 {z : P0} : X z 214 897 = XI mT z (X z) (.iadd, 1, 0, 0, 0, [], 0, 0) 214 897 := X_at (r := mi214) rfl rfl
set_option maxRecDepth 20000 in
theorem x214_898 {z : P0} : X z 214 898 = XI mT z (X z) (.iaload, 1, 0, 0, 0, [], 0, 0) 214 898 := X_at (r := mi214) rfl rfl
set_option maxRecDepth 20000 in
theorem x214_899 {z : P0} : X z 214 899 = XI mT z (X z) (.aload_n 0, 1, 0, 0, 0, [], 0, 0) 214 899 := X_at (r := mi214) rfl rfl
set_option maxRecDepth 20000 in
theorem x214_900 {z : P0} : X z 214 900 = XI mT z (X z) (.iload 4, 2, 4, 0, 0, [], 0, 0) 214 900 := X_at (r := mi214) rfl rfl
set_option maxRecDepth 20000 in
theorem x214_902 {z : P0} : X z 214 902 = XI mT z (X z) (.iconst 2, 1, 0, 0, 0, [], nI 2, 0) 214 902 := X_at (r := mi214) rfl rfl
set_option maxRecDepth 20000 in
theorem x214_903 {z : P0} : X z 214 903 = XI mT z (X z) (.iadd, 1, 0, 0, 0, [], 0, 0) 214 903 := X_at (r := mi214) rfl rfl
set_option maxRecDepth 20000 in
theorem x214_904 {z : P0} : X z 214 904 = XI mT z (X z) (.iaload, 1, 0, 0, 0, [], 0, 0) 214 904 := X_at (r := mi214) rfl rfl
set_option maxRecDepth 20000 in
theorem x214_905 {z : P0} : X z 214 905 = XI mT z (X z) (.invokevirtual 141, 3, 2, 156, 0, [216], 0, 0) 214 905 := X_at (r := mi214) rfl rfl
set_option maxRecDepth 20000 in
theorem x214_908 {z : P0} : X z 214 908 = XI mT z (X z) (.istore 6, 2, 6, 0, 0, [], 0, 0) 214 908 := X_at (r := mi214) rfl rfl
set_option maxRecDepth 20000 in
theorem x214_910 {z : P0} : X z 214 910 = XI mT z (X z) (.aload_n 2, 1, 2, 0, 0, [], 0, 0) 214 910 := X_at (r := mi214) rfl rfl
set_option maxRecDepth 20000 in
theorem x214_911 {z : P0} : X z 214 911 = XI mT z (X z) (.invokevirtual 96, 3, 0, 105, 0, [190], 0, 0) 214 911 := X_at (r := mi214) rfl rfl
set_option maxRecDepth 20000 in
theorem x214_914 {z : P0} : X z 214 914 = XI mT z (X z) (.iload 5, 2, 5, 0, 0, [], 0, 0) 214 914 := X_at (r := mi214) rfl rfl
set_option maxRecDepth 20000 in
theorem x214_916 {z : P0} : X z 214 916 = XI mT z (X z) (.if_icmp .eq 5, 3, 921, 0, 0, [], 0, 0) 214 916 := X_at (r := mi214) rfl rfl
set_option maxRecDepth 20000 in
theorem x214_919 {z : P0} : X z 214 919 = XI mT z (X z) (.iconst 0, 1, 0, 0, 0, [], nI 0, 0) 214 919 := X_at (r := mi214) rfl rfl
set_option maxRecDepth 20000 in
theorem x214_920 {z : P0} : X z 214 920 = XI mT z (X z) (.ireturn, 1, 0, 0, 0, [], 0, 0) 214 920 := X_at (r := mi214) rfl rfl
set_option maxRecDepth 20000 in
theorem x214_921 {z : P0} : X z 214 921 = XI mT z (X z) (.iload 5, 2, 5, 0, 0, [], 0, 0) 214 921 := X_at (r := mi214) rfl rfl
set_option maxRecDepth 20000 in
theorem x214_923 {z : P0} : X z 214 923 = XI mT z (X z) (.ifCond .ne 15, 3, 938, 0, 0, [], 0, 0) 214 923 := X_at (r := mi214) rfl rfl
set_option maxRecDepth 20000 in
theorem x214_926 {z : P0} : X z 214 926 = XI mT z (X z) (.aload_n 3, 1, 3, 0, 0, [], 0, 0) 214 926 := X_at (r := mi214) rfl rfl
set_option maxRecDepth 20000 in
theorem x214_927 {z : P0} : X z 214 927 = XI mT z (X z) (.iconst 0, 1, 0, 0, 0, [], nI 0, 0) 214 927 := X_at (r := mi214) rfl rfl
set_option maxRecDepth 20000 in
theorem x214_928 {z : P0} : X z 214 928 = XI mT z (X z) (.laload, 1, 0, 0, 0, [], 0, 0) 214 928 := X_at (r := mi214) rfl rfl
set_option maxRecDepth 20000 in
theorem x214_929 {z : P0} : X z 214 929 = XI mT z (X z) (.iload 6, 2, 6, 0, 0, [], 0, 0) 214 929 := X_at (r := mi214) rfl rfl
set_option maxRecDepth 20000 in
theorem x214_931 {z : P0} : X z 214 931 = XI mT z (X z) (.i2l, 1, 0, 0, 0, [], 0, 0) 214 931 := X_at (r := mi214) rfl rfl
set_option maxRecDepth 20000 in
theorem x214_932 {z : P0} : X z 214 932 = XI mT z (X z) (.lcmp, 1, 0, 0, 0, [], 0, 0) 214 932 := X_at (r := mi214) rfl rfl
set_option maxRecDepth 20000 in
theorem x214_933 {z : P0} : X z 214 933 = XI mT z (X z) (.ifCond .eq 5, 3, 938, 0, 0, [], 0, 0) 214 933 := X_at (r := mi214) rfl rfl
set_option maxRecDepth 20000 in
theorem x214_936 {z : P0} : X z 214 936 = XI mT z (X z) (.iconst 0, 1, 0, 0, 0, [], nI 0, 0) 214 936 := X_at (r := mi214) rfl rfl
set_option maxRecDepth 20000 in
theorem x214_937 {z : P0} : X z 214 937 = XI mT z (X z) (.ireturn, 1, 0, 0, 0, [], 0, 0) 214 937 := X_at (r := mi214) rfl rfl
set_option maxRecDepth 20000 in
theorem x214_938 {z : P0} : X z 214 938 = XI mT z (X z) (.goto 660, 3, 1598, 0, 0, [], 0, 0) 214 938 := X_at (r := mi214) rfl rfl
set_option maxRecDepth 20000 in
theorem x214_941 {z : P0} : X z 214 941 = XI mT z (X z) (.aload_n 1, 1, 1, 0, 0, [], 0, 0) 214 941 := X_at (r := mi214) rfl rfl
set_option maxRecDepth 20000 in
theorem x214_942 {z : P0} : X z 214 942 = XI mT z (X z) (.aload_n 0, 1, 0, 0, 0, [], 0, 0) 214 942 := X_at (r := mi214) rfl rfl
set_option maxRecDepth 20000 in
theorem x214_943 {z : P0} : X z 214 943 = XI mT z (X z) (.iload 4, 2, 4, 0, 0, [], 0, 0) 214 943 := X_at (r := mi214) rfl rfl
set_option maxRecDepth 20000 in
theorem x214_945 {z : P0} : X z 214 945 = XI mT z (X z) (.iconst 1, 1, 0, 0, 0, [], nI 1, 0) 214 945 := X_at (r := mi214) rfl rfl
set_option maxRecDepth 20000 in
theorem x214_946 {z : P0} : X z 214 946 = XI mT z (X z) (.iadd, 1, 0, 0, 0, [], 0, 0) 214 946 := X_at (r := mi214) rfl rfl
set_option maxRecDepth 20000 in
theorem x214_947 {z : P0} : X z 214 947 = XI mT z (X z) (.iaload, 1, 0, 0, 0, [], 0, 0) 214 947 := X_at (r := mi214) rfl rfl
set_option maxRecDepth 20000 in
theorem x214_948 {z : P0} : X z 214 948 = XI mT z (X z) (.aload_n 0, 1, 0, 0, 0, [], 0, 0) 214 948 := X_at (r := mi214) rfl rfl
set_option maxRecDepth 20000 in
theorem x214_949 {z : P0} : X z 214 949 = XI mT z (X z) (.iload 4, 2, 4, 0, 0, [], 0, 0) 214 949 := X_at (r := mi214) rfl rfl
set_option maxRecDepth 20000 in
theorem x214_951 {z : P0} : X z 214 951 = XI mT z (X z) (.iconst 2, 1, 0, 0, 0, [], nI 2, 0) 214 951 := X_at (r := mi214) rfl rfl
set_option maxRecDepth 20000 in
theorem x214_952 {z : P0} : X z 214 952 = XI mT z (X z) (.iadd, 1, 0, 0, 0, [], 0, 0) 214 952 := X_at (r := mi214) rfl rfl
set_option maxRecDepth 20000 in
theorem x214_953 {z : P0} : X z 214 953 = XI mT z (X z) (.iaload, 1, 0, 0, 0, [], 0, 0) 214 953 := X_at (r := mi214) rfl rfl
set_option maxRecDepth 20000 in
theorem x214_954 {z : P0} : X z 214 954 = XI mT z (X z) (.aload_n 3, 1, 3, 0, 0, [], 0, 0) 214 954 := X_at (r := mi214) rfl rfl
set_option maxRecDepth 20000 in
theorem x214_955 {z : P0} : X z 214 955 = XI mT z (X z) (.invokestatic 142, 3, 4, 205, 0, [217], 0, 0) 214 955 := X_at (r := mi214) rfl rfl
set_option maxRecDepth 20000 in
theorem x214_958 {z : P0} : X z 214 958 = XI mT z (X z) (.istore 5, 2, 5, 0, 0, [], 0, 0) 214 958 := X_at (r := mi214) rfl rfl
set_option maxRecDepth 20000 in
theorem x214_960 {z : P0} : X z 214 960 = XI mT z (X z) (.aload_n 2, 1, 2, 0, 0, [], 0, 0) 214 960 := X_at (r := mi214) rfl rfl
set_option maxRecDepth 20000 in
theorem x214_961 {z : P0} : X z 214 961 = XI mT z (X z) (.aload_n 0, 1, 0, 0, 0, [], 0, 0) 214 961 := X_at (r := mi214) rfl rfl
set_option maxRecDepth 20000 in
theorem x214_962 {z : P0} : X z 214 962 = XI mT z (X z) (.iload 4, 2, 4, 0, 0, [], 0, 0) 214 962 := X_at (r := mi214) rfl rfl
set_option maxRecDepth 20000 in
theorem x214_964 {z : P0} : X z 214 964 = XI mT z (X z) (.iconst 1, 1, 0, 0, 0, [], nI 1, 0) 214 964 := X_at (r := mi214) rfl rfl
set_option maxRecDepth 20000 in
theorem x214_965 {z : P0} : X z 214 965 = XI mT z (X z) (.iadd, 1, 0, 0, 0, [], 0, 0) 214 965 := X_at (r := mi214) rfl rfl
set_option maxRecDepth 20000 in
theorem x214_966 {z : P0} : X z 214 966 = XI mT z (X z) (.iaload, 1, 0, 0, 0, [], 0, 0) 214 966 := X_at (r := mi214) rfl rfl
set_option maxRecDepth 20000 in
theorem x214_967 {z : P0} : X z 214 967 = XI mT z (X z) (.aload_n 0, 1, 0, 0, 0, [], 0, 0) 214 967 := X_at (r := mi214) rfl rfl
set_option maxRecDepth 20000 in
theorem x214_968 {z : P0} : X z 214 968 = XI mT z (X z) (.iload 4, 2, 4, 0, 0, [], 0, 0) 214 968 := X_at (r := mi214) rfl rfl
set_option maxRecDepth 20000 in
theorem x214_970 {z : P0} : X z 214 970 = XI mT z (X z) (.iconst 2, 1, 0, 0, 0, [], nI 2, 0) 214 970 := X_at (r := mi214) rfl rfl
set_option maxRecDepth 20000 in
theorem x214_971 {z : P0} : X z 214 971 = XI mT z (X z) (.iadd, 1, 0, 0, 0, [], 0, 0) 214 971 := X_at (r := mi214) rfl rfl
set_option maxRecDepth 20000 in
theorem x214_972 {z : P0} : X z 214 972 = XI mT z (X z) (.iaload, 1, 0, 0, 0, [], 0, 0) 214 972 := X_at (r := mi214) rfl rfl
set_option maxRecDepth 20000 in
theorem x214_973 {z : P0} : X z 214 973 = XI mT z (X z) (.invokevirtual 144, 3, 2, 157, 0, [218], 0, 0) 214 973 := X_at (r := mi214) rfl rfl
set_option maxRecDepth 20000 in
theorem x214_976 {z : P0} : X z 214 976 = XI mT z (X z) (.istore 6, 2, 6, 0, 0, [], 0, 0) 214 976 := X_at (r := mi214) rfl rfl
set_option maxRecDepth 20000 in
theorem x214_978 {z : P0} : X z 214 978 = XI mT z (X z) (.aload_n 2, 1, 2, 0, 0, [], 0, 0) 214 978 := X_at (r := mi214) rfl rfl
set_option maxRecDepth 20000 in
theorem x214_979 {z : P0} : X z 214 979 = XI mT z (X z) (.invokevirtual 96, 3, 0, 105, 0, [190], 0, 0) 214 979 := X_at (r := mi214) rfl rfl
set_option maxRecDepth 20000 in
theorem x214_982 {z : P0} : X z 214 982 = XI mT z (X z) (.iload 5, 2, 5, 0, 0, [], 0, 0) 214 982 := X_at (r := mi214) rfl rfl
set_option maxRecDepth 20000 in
theorem x214_984 {z : P0} : X z 214 984 = XI mT z (X z) (.if_icmp .eq 5, 3, 989, 0, 0, [], 0, 0) 214 984 := X_at (r := mi214) rfl rfl
set_option maxRecDepth 20000 in
theorem x214_987 {z : P0} : X z 214 987 = XI mT z (X z) (.iconst 0, 1, 0, 0, 0, [], nI 0, 0) 214 987 := X_at (r := mi214) rfl rfl
set_option maxRecDepth 20000 in
theorem x214_988 {z : P0} : X z 214 988 = XI mT z (X z) (.ireturn, 1, 0, 0, 0, [], 0, 0) 214 988 := X_at (r := mi214) rfl rfl
set_option maxRecDepth 20000 in
theorem x214_989 {z : P0} : X z 214 989 = XI mT z (X z) (.iload 5, 2, 5, 0, 0, [], 0, 0) 214 989 := X_at (r := mi214) rfl rfl
set_option maxRecDepth 20000 in
theorem x214_991 {z : P0} : X z 214 991 = XI mT z (X z) (.ifCond .ne 15, 3, 1006, 0, 0, [], 0, 0) 214 991 := X_at (r := mi214) rfl rfl
set_option maxRecDepth 20000 in
theorem x214_994 {z : P0} : X z 214 994 = XI mT z (X z) (.aload_n 3, 1, 3, 0, 0, [], 0, 0) 214 994 := X_at (r := mi214) rfl rfl
set_option maxRecDepth 20000 in
theorem x214_995 {z : P0} : X z 214 995 = XI mT z (X z) (.iconst 0, 1, 0, 0, 0, [], nI 0, 0) 214 995 := X_at (r := mi214) rfl rfl
set_option maxRecDepth 20000 in
theorem x214_996 {z : P0} : X z 214 996 = XI mT z (X z) (.laload, 1, 0, 0, 0, [], 0, 0) 214 996 := X_at (r := mi214) rfl rfl
set_option maxRecDepth 20000 in
theorem x214_997 {z : P0} : X z 214 997 = XI mT z (X z) (.iload 6, 2, 6, 0, 0, [], 0, 0) 214 997 := X_at (r := mi214) rfl rfl
set_option maxRecDepth 20000 in
theorem x214_999 {z : P0} : X z 214 999 = XI mT z (X z) (.i2l, 1, 0, 0, 0, [], 0, 0) 214 999 := X_at (r := mi214) rfl rfl
set_option maxRecDepth 20000 in
theorem x214_1000 {z : P0} : X z 214 1000 = XI mT z (X z) (.lcmp, 1, 0, 0, 0, [], 0, 0) 214 1000 := X_at (r := mi214) rfl rfl
set_option maxRecDepth 20000 in
theorem x214_1001 {z : P0} : X z 214 1001 = XI mT z (X z) (.ifCond .eq 5, 3, 1006, 0, 0, [], 0, 0) 214 1001 := X_at (r := mi214) rfl rfl
set_option maxRecDepth 20000 in
theorem x214_1004 {z : P0} : X z 214 1004 = XI mT z (X z) (.iconst 0, 1, 0, 0, 0, [], nI 0, 0) 214 1004 := X_at (r := mi214) rfl rfl
set_option maxRecDepth 20000 in
theorem x214_1005 {z : P0} : X z 214 1005 = XI mT z (X z) (.ireturn, 1, 0, 0, 0, [], 0, 0) 214 1005 := X_at (r := mi214) rfl rfl
set_option maxRecDepth 20000 in
theorem x214_1006 {z : P0} : X z 214 1006 = XI mT z (X z) (.goto 592, 3, 1598, 0, 0, [], 0, 0) 214 1006 := X_at (r := mi214) rfl rfl
set_option maxRecDepth 20000 in
theorem x214_1009 {z : P0} : X z 214 1009 = XI mT z (X z) (.aload_n 1, 1, 1, 0, 0, [], 0, 0) 214 1009 := X_at (r := mi214) rfl rfl
set_option maxRecDepth 20000 in
theorem x214_1010 {z : P0} : X z 214 1010 = XI mT z (X z) (.aload_n 0, 1, 0, 0, 0, [], 0, 0) 214 1010 := X_at (r := mi214) rfl rfl
set_option maxRecDepth 20000 in
theorem x214_1011 {z : P0} : X z 214 1011 = XI mT z (X z) (.iload 4, 2, 4, 0, 0, [], 0, 0) 214 1011 := X_at (r := mi214) rfl rfl
set_option maxRecDepth 20000 in
theorem x214_1013 {z : P0} : X z 214 1013 = XI mT z (X z) (.iconst 1, 1, 0, 0, 0, [], nI 1, 0) 214 1013 := X_at (r := mi214) rfl rfl
set_option maxRecDepth 20000 in
theorem x214_1014 {z : P0} : X z 214 1014 = XI mT z (X z) (.iadd, 1, 0, 0, 0, [], 0, 0) 214 1014 := X_at (r := mi214) rfl rfl
set_option maxRecDepth 20000 in
theorem x214_1015 {z : P0} : X z 214 1015 = XI mT z (X z) (.iaload, 1, 0, 0, 0, [], 0, 0) 214 1015 := X_at (r := mi214) rfl rfl
set_option maxRecDepth 20000 in
theorem x214_1016 {z : P0} : X z 214 1016 = XI mT z (X z) (.aload_n 0, 1, 0, 0, 0, [], 0, 0) 214 1016 := X_at (r := mi214) rfl rfl
set_option maxRecDepth 20000 in
theorem x214_1017 {z : P0} : X z 214 1017 = XI mT z (X z) (.iload 4, 2, 4, 0, 0, [], 0, 0) 214 1017 := X_at (r := mi214) rfl rfl
set_option maxRecDepth 20000 in
theorem x214_1019 {z : P0} : X z 214 1019 = XI mT z (X z) (.iconst 2, 1, 0, 0, 0, [], nI 2, 0) 214 1019 := X_at (r := mi214) rfl rfl
set_option maxRecDepth 20000 in
theorem x214_1020 {z : P0} : X z 214 1020 = XI mT z (X z) (.iadd, 1, 0, 0, 0, [], 0, 0) 214 1020 := X_at (r := mi214) rfl rfl
set_option maxRecDepth 20000 in
theorem x214_1021 {z : P0} : X z 214 1021 = XI mT z (X z) (.iaload, 1, 0, 0, 0, [], 0, 0) 214 1021 := X_at (r := mi214) rfl rfl
set_option maxRecDepth 20000 in
theorem x214_1022 {z : P0} : X z 214 1022 = XI mT z (X z) (.aload_n 3, 1, 3, 0, 0, [], 0, 0) 214 1022 := X_at (r := mi214) rfl rfl
set_option maxRecDepth 20000 in
theorem x214_1023 {z : P0} : X z 214 1023 = XI mT z (X z) (.invokestatic 145, 3, 4, 206, 0, [219], 0, 0) 214 1023 := X_at (r := mi214) rfl rfl
set_option maxRecDepth 20000 in
theorem x214_1026 {z : P0} : X z 214 1026 = XI mT z (X z) (.istore 5, 2, 5, 0, 0, [], 0, 0) 214 1026 := X_at (r := mi214) rfl rfl
set_option maxRecDepth 20000 in
theorem x214_1028 {z : P0} : X z 214 1028 = XI mT z (X z) (.aload_n 2, 1, 2, 0, 0, [], 0, 0) 214 1028 := X_at (r := mi214) rfl rfl
set_option maxRecDepth 20000 in
theorem x214_1029 {z : P0} : X z 214 1029 = XI mT z (X z) (.aload_n 0, 1, 0, 0, 0, [], 0, 0) 214 1029 := X_at (r := mi214) rfl rfl
set_option maxRecDepth 20000 in
theorem x214_1030 {z : P0} : X z 214 1030 = XI mT z (X z) (.iload 4, 2, 4, 0, 0, [], 0, 0) 214 1030 := X_at (r := mi214) rfl rfl
set_option maxRecDepth 20000 in
theorem x214_1032 {z : P0} : X z 214 1032 = XI mT z (X z) (.iconst 1, 1, 0, 0, 0, [], nI 1, 0) 214 1032 := X_at (r := mi214) rfl rfl
set_option maxRecDepth 20000 in
theorem x214_1033 {z : P0} : X z 214 1033 = XI mT z (X z) (.iadd, 1, 0, 0, 0, [], 0, 0) 214 1033 := X_at (r := mi214) rfl rfl
set_option maxRecDepth 20000 in
theorem x214_1034 {z : P0} : X z 214 1034 = XI mT z (X z) (.iaload, 1, 0, 0, 0, [], 0, 0) 214 1034 := X_at (r := mi214) rfl rfl
set_option maxRecDepth 20000 in
theorem x214_1035 {z : P0} : X z 214 1035 = XI mT z (X z) (.aload_n 0, 1, 0, 0, 0, [], 0, 0) 214 1035 := X_at (r := mi214) rfl rfl
set_option maxRecDepth 20000 in
theorem x214_1036 {z : P0} : X z 214 1036 = XI mT z (X z) (.iload 4, 2, 4, 0, 0, [], 0, 0) 214 1036 := X_at (r := mi214) rfl rfl
set_option maxRecDepth 20000 in
theorem x214_1038 {z : P0} : X z 214 1038 = XI mT z (X z) (.iconst 2, 1, 0, 0, 0, [], nI 2, 0) 214 1038 := X_at (r := mi214) rfl rfl
set_option maxRecDepth 20000 in
theorem x214_1039 {z : P0} : X z 214 1039 = XI mT z (X z) (.iadd, 1, 0, 0, 0, [], 0, 0) 214 1039 := X_at (r := mi214) rfl rfl
set_option maxRecDepth 20000 in
theorem x214_1040 {z : P0} : X z 214 1040 = XI mT z (X z) (.iaload, 1, 0, 0, 0, [], 0, 0) 214 1040 := X_at (r := mi214) rfl rfl
set_option maxRecDepth 20000 in
theorem x214_1041 {z : P0} : X z 214 1041 = XI mT z (X z) (.invokevirtual 147, 3, 2, 160, 0, [220], 0, 0) 214 1041 := X_at (r := mi214) rfl rfl
set_option maxRecDepth 20000 in
theorem x214_1044 {z : P0} : X z 214 1044 = XI mT z (X z) (.istore 6, 2, 6, 0, 0, [], 0, 0) 214 1044 := X_at (r := mi214) rfl rfl
set_option maxRecDepth 20000 in
theorem x214_1046 {z : P0} : X z 214 1046 = XI mT z (X z) (.aload_n 2, 1, 2, 0, 0, [], 0, 0) 214 1046 := X_at (r := mi214) rfl rfl
set_option maxRecDepth 20000 in
theorem x214_1047 {z : P0} : X z 214 1047 = XI mT z (X z) (.invokevirtual 96, 3, 0, 105, 0, [190], 0, 0) 214 1047 := X_at (r := mi214) rfl rfl
set_option maxRecDepth 20000 in
theorem x214_1050 {z : P0} : X z 214 1050 = XI mT z (X z) (.iload 5, 2, 5, 0, 0, [], 0, 0) 214 1050 := X_at (r := mi214) rfl rfl
set_option maxRecDepth 20000 in
theorem x214_1052 {z : P0} : X z 214 1052 = XI mT z (X z) (.if_icmp .eq 5, 3, 1057, 0, 0, [], 0, 0) 214 1052 := X_at (r := mi214) rfl rfl
set_option maxRecDepth 20000 in
theorem x214_1055 {z : P0} : X z 214 1055 = XI mT z (X z) (.iconst 0, 1, 0, 0, 0, [], nI 0, 0) 214 1055 := X_at (r := mi214) rfl rfl
set_option maxRecDepth 20000 in
theorem x214_1056 {z : P0} : X z 214 1056 = XI mT z (X z) (.ireturn, 1, 0, 0, 0, [], 0, 0) 214 1056 := X_at (r := mi214) rfl rfl
set_option maxRecDepth 20000 in
theorem x214_1057 {z : P0} : X z 214 1057 = XI mT z (X z) (.iload 5, 2, 5, 0, 0, [], 0, 0) 214 1057 := X_at (r := mi214) rfl rfl
set_option maxRecDepth 20000 in
theorem x214_1059 {z : P0} : X z 214 1059 = XI mT z (X z) (.ifCond .ne 15, 3, 1074, 0, 0, [], 0, 0) 214 1059 := X_at (r := mi214) rfl rfl
set_option maxRecDepth 20000 in
theorem x214_1062 {z : P0} : X z 214 1062 = XI mT z (X z) (.aload_n 3, 1, 3, 0, 0, [], 0, 0) 214 1062 := X_at (r := mi214) rfl rfl
set_option maxRecDepth 20000 in
theorem x214_1063 {z : P0} : X z 214 1063 = XI mT z (X z) (.iconst 0, 1, 0, 0, 0, [], nI 0, 0) 214 1063 := X_at (r := mi214) rfl rfl
set_option maxRecDepth 20000 in
theorem x214_1064 {z : P0} : X z 214 1064 = XI mT z (X z) (.laload, 1, 0, 0, 0, [], 0, 0) 214 1064 := X_at (r := mi214) rfl rfl
set_option maxRecDepth 20000 in
theorem x214_1065 {z : P0} : X z 214 1065 = XI mT z (X z) (.iload 6, 2, 6, 0, 0, [], 0, 0) 214 1065 := X_at (r := mi214) rfl rfl
set_option maxRecDepth 20000 in
theorem x214_1067 {z : P0} : X z 214 1067 = XI mT z (X z) (.i2l, 1, 0, 0, 0, [], 0, 0) 214 1067 := X_at (r := mi214) rfl rfl
set_option maxRecDepth 20000 in
theorem x214_1068 {z : P0} : X z 214 1068 = XI mT z (X z) (.lcmp, 1, 0, 0, 0, [], 0, 0) 214 1068 := X_at (r := mi214) rfl rfl
set_option maxRecDepth 20000 in
theorem x214_1069 {z : P0} : X z 214 1069 = XI mT z (X z) (.ifCond .eq 5, 3, 1074, 0, 0, [], 0, 0) 214 1069 := X_at (r := mi214) rfl rfl
set_option maxRecDepth 20000 in
theorem x214_1072 {z : P0} : X z 214 1072 = XI mT z (X z) (.iconst 0, 1, 0, 0, 0, [], nI 0, 0) 214 1072 := X_at (r := mi214) rfl rfl
set_option maxRecDepth 20000 in
theorem x214_1073 {z : P0} : X z 214 1073 = XI mT z (X z) (.ireturn, 1, 0, 0, 0, [], 0, 0) 214 1073 := X_at (r := mi214) rfl rfl
set_option maxRecDepth 20000 in
theorem x214_1074 {z : P0} : X z 214 1074 = XI mT z (X z) (.goto 524, 3, 1598, 0, 0, [], 0, 0) 214 1074 := X_at (r := mi214) rfl rfl
set_option maxRecDepth 20000 in
theorem x214_1077 {z : P0} : X z 214 1077 = XI mT z (X z) (.aload_n 1, 1, 1, 0, 0, [], 0, 0) 214 1077 := X_at (r := mi214) rfl rfl
set_option maxRecDepth 20000 in
theorem x214_1078 {z : P0} : X z 214 1078 = XI mT z (X z) (.aload_n 0, 1, 0, 0, 0, [], 0, 0) 214 1078 := X_at (r := mi214) rfl rfl
set_option maxRecDepth 20000 in
theorem x214_1079 {z : P0} : X z 214 1079 = XI mT z (X z) (.iload 4, 2, 4, 0, 0, [], 0, 0) 214 1079 := X_at (r := mi214) rfl rfl
set_option maxRecDepth 20000 in
theorem x214_1081 {z : P0} : X z 214 1081 = XI mT z (X z) (.iconst 1, 1, 0, 0, 0, [], nI 1, 0) 214 1081 := X_at (r := mi214) rfl rfl
set_option maxRecDepth 20000 in
theorem x214_1082 {z : P0} : X z 214 1082 = XI mT z (X z) (.iadd, 1, 0, 0, 0, [], 0, 0) 214 1082 := X_at (r := mi214) rfl rfl
set_option maxRecDepth 20000 in
theorem x214_1083 {z : P0} : X z 214 1083 = XI mT z (X z) (.iaload, 1, 0, 0, 0, [], 0, 0) 214 1083 := X_at (r := mi214) rfl rfl
set_option maxRecDepth 20000 in
theorem x214_1084 {z : P0} : X z 214 1084 = XI mT z (X z) (.aload_n 0, 1, 0, 0, 0, [], 0, 0) 214 1084 := X_at (r := mi214) rfl rfl
set_option maxRecDepth 20000 in
theorem x214_1085 {z : P0} : X z 214 1085 = XI mT z (X z) (.iload 4, 2, 4, 0, 0, [], 0, 0) 214 1085 := X_at (r := mi214) rfl rfl
set_option maxRecDepth 20000 in
theorem x214_1087 {z : P0} : X z 214 1087 = XI mT z (X z) (.iconst 2, 1, 0, 0, 0, [], nI 2, 0) 214 1087 := X_at (r := mi214) rfl rfl
set_option maxRecDepth 20000 in
theorem x214_1088 {z : P0} : X z 214 1088 = XI mT z (X z) (.iadd, 1, 0, 0, 0, [], 0, 0) 214 1088 := X_at (r := mi214) rfl rfl
set_option maxRecDepth 20000 in
theorem x214_1089 {z : P0} : X z 214 1089 = XI mT z (X z) (.iaload, 1, 0, 0, 0, [], 0, 0) 214 1089 := X_at (r := mi214) rfl rfl
set_option maxRecDepth 20000 in
theorem x214_1090 {z : P0} : X z 214 1090 = XI mT z (X z) (.aload_n 3, 1, 3, 0, 0, [], 0, 0) 214 1090 := X_at (r := mi214) rfl rfl
set_option maxRecDepth 20000 in
theorem x214_1091 {z : P0} : X z 214 1091 = XI mT z (X z) (.invokestatic 148, 3, 4, 207, 0, [221], 0, 0) 214 1091 := X_at (r := mi214) rfl rfl
set_option maxRecDepth 20000 in
theorem x214_1094 {z : P0} : X z 214 1094 = XI mT z (X z) (.istore 5, 2, 5, 0, 0, [], 0, 0) 214 1094 := X_at (r := mi214) rfl rfl
set_option maxRecDepth 20000 in
theorem x214_1096 {z : P0} : X z 214 1096 = XI mT z (X z) (.aload_n 2, 1, 2, 0, 0, [], 0, 0) 214 1096 := X_at (r := mi214) rfl rfl
set_option maxRecDepth 20000 in
theorem x214_1097 {z : P0} : X z 214 1097 = XI mT z (X z) (.aload_n 0, 1, 0, 0, 0, [], 0, 0) 214 1097 := X_at (r := mi214) rfl rfl
set_option maxRecDepth 20000 in
theorem x214_1098 {z : P0} : X z 214 1098 = XI mT z (X z) (.iload 4, 2, 4, 0, 0, [], 0, 0) 214 1098 := X_at (r := mi214) rfl rfl
set_option maxRecDepth 20000 in
theorem x214_1100 {z : P0} : X z 214 1100 = XI mT z (X z) (.iconst 1, 1, 0, 0, 0, [], nI 1, 0) 214 1100 := X_at (r := mi214) rfl rfl
set_option maxRecDepth 20000 in
theorem x214_1101 {z : P0} : X z 214 1101 = XI mT z (X z) (.iadd, 1, 0, 0, 0, [], 0, 0) 214 1101 := X_at (r := mi214) rfl rfl
set_option maxRecDepth 20000 in
theorem x214_1102 {z : P0} : X z 214 1102 = XI mT z (X z) (.iaload, 1, 0, 0, 0, [], 0, 0) 214 1102 := X_at (r := mi214) rfl rfl
set_option maxRecDepth 20000 in
theorem x214_1103 {z : P0} : X z 214 1103 = XI mT z (X z) (.aload_n 0, 1, 0, 0, 0, [], 0, 0) 214 1103 := X_at (r := mi214) rfl rfl
set_option maxRecDepth 20000 in
theorem x214_1104 {z : P0} : X z 214 1104 = XI mT z (X z) (.iload 4, 2, 4, 0, 0, [], 0, 0) 214 1104 := X_at (r := mi214) rfl rfl
set_option maxRecDepth 20000 in
theorem x214_1106 {z : P0} : X z 214 1106 = XI mT z (X z) (.iconst 2, 1, 0, 0, 0, [], nI 2, 0) 214 1106 := X_at (r := mi214) rfl rfl
set_option maxRecDepth 20000 in
theorem x214_1107 {z : P0} : X z 214 1107 = XI mT z (X z) (.iadd, 1, 0, 0, 0, [], 0, 0) 214 1107 := X_at (r := mi214) rfl rfl
set_option maxRecDepth 20000 in
theorem x214_1108 {z : P0} : X z 214 1108 = XI mT z (X z) (.iaload, 1, 0, 0, 0, [], 0, 0) 214 1108 := X_at (r := mi214) rfl rfl
set_option maxRecDepth 20000 in
theorem x214_1109 {z : P0} : X z 214 1109 = XI mT z (X z) (.invokevirtual 150, 3, 2, 162, 0, [222], 0, 0) 214 1109 := X_at (r := mi214) rfl rfl
set_option maxRecDepth 20000 in
theorem x214_1112 {z : P0} : X z 214 1112 = XI mT z (X z) (.istore 6, 2, 6, 0, 0, [], 0, 0) 214 1112 := X_at (r := mi214) rfl rfl
set_option maxRecDepth 20000 in
theorem x214_1114 {z : P0} : X z 214 1114 = XI mT z (X z) (.aload_n 2, 1, 2, 0, 0, [], 0, 0) 214 1114 := X_at (r := mi214) rfl rfl
set_option maxRecDepth 20000 in
theorem x214_1115 {z : P0} : X z 214 1115 = XI mT z (X z) (.invokevirtual 96, 3, 0, 105, 0, [190], 0, 0) 214 1115 := X_at (r := mi214) rfl rfl
set_option maxRecDepth 20000 in
theorem x214_1118 {z : P0} : X z 214 1118 = XI mT z (X z) (.iload 5, 2, 5, 0, 0, [], 0, 0) 214 1118 := X_at (r := mi214) rfl rfl
set_option maxRecDepth 20000 in
theorem x214_1120 {z : P0} : X z 214 1120 = XI mT z (X z) (.if_icmp .eq 5, 3, 1125, 0, 0, [], 0, 0) 214 1120 := X_at (r := mi214) rfl rfl
set_option maxRecDepth 20000 in
theorem x214_1123 {z : P0} : X z 214 1123 = XI mT z (X z) (.iconst 0, 1, 0, 0, 0, [], nI 0, 0) 214 1123 := X_at (r := mi214) rfl rfl
set_option maxRecDepth 20000 in
theorem x214_1124 {z : P0} : X z 214 1124 = XI mT z (X z) (.ireturn, 1, 0, 0, 0, [], 0, 0) 214 1124 := X_at (r := mi214) rfl rfl
set_option maxRecDepth 20000 in
theorem x214_1125 {z : P0} : X z 214 1125 = XI mT z (X z) (.iload 5, 2, 5, 0, 0, [], 0, 0) 214 1125 := X_at (r := mi214) rfl rfl
set_option maxRecDepth 20000 in
theorem x214_1127 {z : P0} : X z 214 1127 = XI mT z (X z) (.ifCond .ne 15, 3, 1142, 0, 0, [], 0, 0) 214 1127 := X_at (r := mi214) rfl rfl
set_option maxRecDepth 20000 in
theorem x214_1130 {z : P0} : X z 214 1130 = XI mT z (X z) (.aload_n 3, 1, 3, 0, 0, [], 0, 0) 214 1130 := X_at (r := mi214) rfl rfl
set_option maxRecDepth 20000 in
theorem x214_1131 {z : P0} : X z 214 1131 = XI mT z (X z) (.iconst 0, 1, 0, 0, 0, [], nI 0, 0) 214 1131 := X_at (r := mi214) rfl rfl
set_option maxRecDepth 20000 in
theorem x214_1132 {z : P0} : X z 214 1132 = XI mT z (X z) (.laload, 1, 0, 0, 0, [], 0, 0) 214 1132 := X_at (r := mi214) rfl rfl
set_option maxRecDepth 20000 in
theorem x214_1133 {z : P0} : X z 214 1133 = XI mT z (X z) (.iload 6, 2, 6, 0, 0, [], 0, 0) 214 1133 := X_at (r := mi214) rfl rfl
set_option maxRecDepth 20000 in
theorem x214_1135 {z : P0} : X z 214 1135 = XI mT z (X z) (.i2l, 1, 0, 0, 0, [], 0, 0) 214 1135 := X_at (r := mi214) rfl rfl
set_option maxRecDepth 20000 in
theorem x214_1136 {z : P0} : X z 214 1136 = XI mT z (X z) (.lcmp, 1, 0, 0, 0, [], 0, 0) 214 1136 := X_at (r := mi214) rfl rfl
set_option maxRecDepth 20000 in
theorem x214_1137 {z : P0} : X z 214 1137 = XI mT z (X z) (.ifCond .eq 5, 3, 1142, 0, 0, [], 0, 0) 214 1137 := X_at (r := mi214) rfl rfl
set_option maxRecDepth 20000 in
theorem x214_1140 {z : P0} : X z 214 1140 = XI mT z (X z) (.iconst 0, 1, 0, 0, 0, [], nI 0, 0) 214 1140 := X_at (r := mi214) rfl rfl
set_option maxRecDepth 20000 in
theorem x214_1141 {z : P0} : X z 214 1141 = XI mT z (X z) (.ireturn, 1, 0, 0, 0, [], 0, 0) 214 1141 := X_at (r := mi214) rfl rfl
set_option maxRecDepth 20000 in
theorem x214_1142 {z : P0} : X z 214 1142 = XI mT z (X z) (.goto 456, 3, 1598, 0, 0, [], 0, 0) 214 1142 := X_at (r := mi214) rfl rfl
set_option maxRecDepth 20000 in
theorem x214_1145 {z : P0} : X z 214 1145 = XI mT z (X z) (.aload_n 1, 1, 1, 0, 0, [], 0, 0) 214 1145 := X_at (r := mi214) rfl rfl
set_option maxRecDepth 20000 in
theorem x214_1146 {z : P0} : X z 214 1146 = XI mT z (X z) (.aload_n 0, 1, 0, 0, 0, [], 0, 0) 214 1146 := X_at (r := mi214) rfl rfl
set_option maxRecDepth 20000 in
theorem x214_1147 {z : P0} : X z 214 1147 = XI mT z (X z) (.iload 4, 2, 4, 0, 0, [], 0, 0) 214 1147 := X_at (r := mi214) rfl rfl
set_option maxRecDepth 20000 in
theorem x214_1149 {z : P0} : X z 214 1149 = XI mT z (X z) (.iconst 1, 1, 0, 0, 0, [], nI 1, 0) 214 1149 := X_at (r := mi214) rfl rfl
set_option maxRecDepth 20000 in
theorem x214_1150 {z : P0} : X z 214 1150 = XI mT z (X z) (.iadd, 1, 0, 0, 0, [], 0, 0) 214 1150 := X_at (r := mi214) rfl rfl
set_option maxRecDepth 20000 in
theorem x214_1151 {z : P0} : X z 214 1151 = XI mT z (X z) (.iaload, 1, 0, 0, 0, [], 0, 0) 214 1151 := X_at (r := mi214) rfl rfl
set_option maxRecDepth 20000 in
theorem x214_1152 {z : P0} : X z 214 1152 = XI mT z (X z) (.aload_n 0, 1, 0, 0, 0, [], 0, 0) 214 1152 := X_at (r := mi214) rfl rfl
set_option maxRecDepth 20000 in
theorem x214_1153 {z : P0} : X z 214 1153 = XI mT z (X z) (.iload 4, 2, 4, 0, 0, [], 0, 0) 214 1153 := X_at (r := mi214) rfl rfl
set_option maxRecDepth 20000 in
theorem x214_1155 {z : P0} : X z 214 1155 = XI mT z (X z) (.iconst 2, 1, 0, 0, 0, [], nI 2, 0) 214 1155 := X_at (r := mi214) rfl rfl
set_option maxRecDepth 20000 in
theorem x214_1156 {z : P0} : X z 214 1156 = XI mT z (X z) (.iadd, 1, 0, 0, 0, [], 0, 0) 214 1156 := X_at (r := mi214) rfl rfl
set_option maxRecDepth 20000 in
theorem x214_1157 {z : P0} : X z 214 1157 = XI mT z (X z) (.iaload, 1, 0, 0, 0, [], 0, 0) 214 1157 := X_at (r := mi214) rfl rfl
set_option maxRecDepth 20000 in
theorem x214_1158 {z : P0} : X z 214 1158 = XI mT z (X z) (.aload_n 3, 1, 3, 0, 0, [], 0, 0) 214 1158 := X_at (r := mi214) rfl rfl
set_option maxRecDepth 20000 in
theorem x214_1159 {z : P0} : X z 214 1159 = XI mT z (X z) (.invokestatic 151, 3, 4, 208, 0, [223], 0, 0) 214 1159 := X_at (r := mi214) rfl rfl
set_option maxRecDepth 20000 in
theorem x214_1162 {z : P0} : X z 214 1162 = XI mT z (X z) (.istore 5, 2, 5, 0, 0, [], 0, 0) 214 1162 := X_at (r := mi214) rfl rfl
set_option maxRecDepth 20000 in
theorem x214_1164 {z : P0} : X z 214 1164 = XI mT z (X z) (.aload_n 2, 1, 2, 0, 0, [], 0, 0) 214 1164 := X_at (r := mi214) rfl rfl
set_option maxRecDepth 20000 in
theorem x214_1165 {z : P0} : X z 214 1165 = XI mT z (X z) (.aload_n 0, 1, 0, 0, 0, [], 0, 0) 214 1165 := X_at (r := mi214) rfl rfl
set_option maxRecDepth 20000 in
theorem x214_1166 {z : P0} : X z 214 1166 = XI mT z (X z) (.iload 4, 2, 4, 0, 0, [], 0, 0) 214 1166 := X_at (r := mi214) rfl rfl
set_option maxRecDepth 20000 in
theorem x214_1168 {z : P0} : X z 214 1168 = XI mT z (X z) (.iconst 1, 1, 0, 0, 0, [], nI 1, 0) 214 1168 := X_at (r := mi214) rfl rfl
set_option maxRecDepth 20000 in
theorem x214_1169 {z : P0} : X z 214 1169 = XI mT z (X z) (.iadd, 1, 0, 0, 0, [], 0, 0) 214 1169 := X_at (r := mi214) rfl rfl
set_option maxRecDepth 20000 in
theorem x214_1170 {z : P0} : X z 214 1170 = XI mT z (X z) (.iaload, 1, 0, 0, 0, [], 0, 0) 214 1170 := X_at (r := mi214) rfl rfl
set_option maxRecDepth 20000 in
theorem x214_1171 {z : P0} : X z 214 1171 = XI mT z (X z) (.aload_n 0, 1, 0, 0, 0, [], 0, 0) 214 1171 := X_at (r := mi214) rfl rfl
set_option maxRecDepth 20000 in
theorem x214_1172 {z : P0} : X z 214 1172 = XI mT z (X z) (.iload 4, 2, 4, 0, 0, [], 0, 0) 214 1172 := X_at (r := mi214) rfl rfl
set_option maxRecDepth 20000 in
theorem x214_1174 {z : P0} : X z 214 1174 = XI mT z (X z) (.iconst 2, 1, 0, 0, 0, [], nI 2, 0) 214 1174 := X_at (r := mi214) rfl rfl
set_option maxRecDepth 20000 in
theorem x214_1175 {z : P0} : X z 214 1175 = XI mT z (X z) (.iadd, 1, 0, 0, 0, [], 0, 0) 214 1175 := X_at (r := mi214) rfl rfl
set_option maxRecDepth 20000 in
theorem x214_1176 {z : P0} : X z 214 1176 = XI mT z (X z) (.iaload, 1, 0, 0, 0, [], 0, 0) 214 1176 := X_at (r := mi214) rfl rfl
set_option maxRecDepth 20000 in
theorem x214_1177 {z : P0} : X z 214 1177 = XI mT z (X z) (.invokevirtual 153, 3, 2, 163, 0, [224], 0, 0) 214 1177 := X_at (r := mi214) rfl rfl
set_option maxRecDepth 20000 in
theorem x214_1180 {z : P0} : X z 214 1180 = XI mT z (X z) (.istore 6, 2, 6, 0, 0, [], 0, 0) 214 1180 := X_at (r := mi214) rfl rfl
set_option maxRecDepth 20000 in
theorem x214_1182 {z : P0} : X z 214 1182 = XI mT z (X z) (.aload_n 2, 1, 2, 0, 0, [], 0, 0) 214 1182 := X_at (r := mi214) rfl rfl
set_option maxRecDepth 20000 in
theorem x214_1183 {z : P0} : X z 214 1183 = XI mT z (X z) (.invokevirtual 96, 3, 0, 105, 0, [190], 0, 0) 214 1183 := X_at (r := mi214) rfl rfl
set_option maxRecDepth 20000 in
theorem x214_1186 {z : P0} : X z 214 1186 = XI mT z (X z) (.iload 5, 2, 5, 0, 0, [], 0, 0) 214 1186 := X_at (r := mi214) rfl rfl
set_option maxRecDepth 20000 in
theorem x214_1188 {z : P0} : X z 214 1188 = XI mT z (X z) (.if_icmp .eq 5, 3, 1193, 0, 0, [], 0, 0) 214 1188 := X_at (r := mi214) rfl rfl
set_option maxRecDepth 20000 in
theorem x214_1191 {z : P0} : X z 214 1191 = XI mT z (X z) (.iconst 0, 1, 0, 0, 0, [], nI 0, 0) 214 1191 := X_at (r := mi214) rfl rfl
set_option maxRecDepth 20000 in
theorem x214_1192 {z : P0} : X z 214 1192 = XI mT z (X z) (.ireturn, 1, 0, 0, 0, [], 0, 0) 214 1192 := X_at (r := mi214) rfl rfl
set_option maxRecDepth 20000 in
theorem x214_1193 {z : P0} : X z 214 1193 = XI mT z (X z) (.iload 5, 2, 5, 0, 0, [], 0, 0) 214 1193 := X_at (r := mi214) rfl rfl
set_option maxRecDepth 20000 in
theorem x214_1195 {z : P0} : X z 214 1195 = XI mT z (X z) (.ifCond .ne 15, 3, 1210, 0, 0, [], 0, 0) 214 1195 := X_at (r := mi214) rfl rfl
set_option maxRecDepth 20000 in
theorem x214_1198 {z : P0} : X z 214 1198 = XI mT z (X z) (.aload_n 3, 1, 3, 0, 0, [], 0, 0) 214 1198 := X_at (r := mi214) rfl rfl
set_option maxRecDepth 20000 in
theorem x214_1199 {z : P0} : X z 214 1199 = XI mT z (X z) (.iconst 0, 1, 0, 0, 0, [], nI 0, 0) 214 1199 := X_at (r := mi214) rfl rfl
set_option maxRecDepth 20000 in
theorem x214_1200 {z : P0} : X z 214 1200 = XI mT z (X z) (.laload, 1, 0, 0, 0, [], 0, 0) 214 1200 := X_at (r := mi214) rfl rfl
set_option maxRecDepth 20000 in
theorem x214_1201 {z : P0} : X z 214 1201 = XI mT z (X z) (.iload 6, 2, 6, 0, 0, [], 0, 0) 214 1201 := X_at (r := mi214) rfl rfl
set_option maxRecDepth 20000 in
theorem x214_1203 {z : P0} : X z 214 1203 = XI mT z (X z) (.i2l, 1, 0, 0, 0, [], 0, 0) 214 1203 := X_at (r := mi214) rfl rfl
set_option maxRecDepth 20000 in
theorem x214_1204 {z : P0} : X z 214 1204 = XI mT z (X z) (.lcmp, 1, 0, 0, 0, [], 0, 0) 214 1204 := X_at (r := mi214) rfl rfl
set_option maxRecDepth 20000 in
theorem x214_1205 {z : P0} : X z 214 1205 = XI mT z (X z) (.ifCond .eq 5, 3, 1210, 0, 0, [], 0, 0) 214 1205 := X_at (r := mi214) rfl rfl
set_option maxRecDepth 20000 in
theorem x214_1208 {z : P0} : X z 214 1208 = XI mT z (X z) (.iconst 0, 1, 0, 0, 0, [], nI 0, 0) 214 1208 := X_at (r := mi214) rfl rfl
set_option maxRecDepth 20000 in
theorem x214_1209 {z : P0} : X z 214 1209 = XI mT z (X z) (.ireturn, 1, 0, 0, 0, [], 0, 0) 214 1209 := X_at (r := mi214) rfl rfl
set_option maxRecDepth 20000 in
theorem x214_1210 {z : P0} : X z 214 1210 = XI mT z (X z) (.goto 388, 3, 1598, 0, 0, [], 0, 0) 214 1210 := X_at (r := mi214) rfl rfl
set_option maxRecDepth 20000 in
theorem x214_1213 {z : P0} : X z 214 1213 = XI mT z (X z) (.aload_n 1, 1, 1, 0, 0, [], 0, 0) 214 1213 := X_at (r := mi214) rfl rfl
set_option maxRecDepth 20000 in
theorem x214_1214 {z : P0} : X z 214 1214 = XI mT z (X z) (.aload_n 0, 1, 0, 0, 0, [], 0, 0) 214 1214 := X_at (r := mi214) rfl rfl
set_option maxRecDepth 20000 in
theorem x214_1215 {z : P0} : X z 214 1215 = XI mT z (X z) (.iload 4, 2, 4, 0, 0, [], 0, 0) 214 1215 := X_at (r := mi214) rfl rfl
set_option maxRecDepth 20000 in
theorem x214_1217 {z : P0} : X z 214 1217 = XI mT z (X z) (.iconst 1, 1, 0, 0, 0, [], nI 1, 0) 214 1217 := X_at (r := mi214) rfl rfl
set_option maxRecDepth 20000 in
theorem x214_1218 {z : P0} : X z 214 1218 = XI mT z (X z) (.iadd, 1, 0, 0, 0, [], 0, 0) 214 1218 := X_at (r := mi214) rfl rfl
set_option maxRecDepth 20000 in
theorem x214_1219 {z : P0} : X z 214 1219 = XI mT z (X z) (.iaload, 1, 0, 0, 0, [], 0, 0) 214 1219 := X_at (r := mi214) rfl rfl
set_option maxRecDepth 20000 in
theorem x214_1220 {z : P0} : X z 214 1220 = XI mT z (X z) (.aload_n 3, 1, 3, 0, 0, [], 0, 0) 214 1220 := X_at (r := mi214) rfl rfl
set_option maxRecDepth 20000 in
theorem x214_1221 {z : P0} : X z 214 1221 = XI mT z (X z) (.invokestatic 154, 3, 3, 209, 0, [225], 0, 0) 214 1221 := X_at (r := mi214) rfl rfl
set_option maxRecDepth 20000 in
theorem x214_1224 {z : P0} : X z 214 1224 = XI mT z (X z) (.istore 5, 2, 5, 0, 0, [], 0, 0) 214 1224 := X_at (r := mi214) rfl rfl
set_option maxRecDepth 20000 in
theorem x214_1226 {z : P0} : X z 214 1226 = XI mT z (X z) (.aload_n 2, 1, 2, 0, 0, [], 0, 0) 214 1226 := X_at (r := mi214) rfl rfl
set_option maxRecDepth 20000 in
theorem x214_1227 {z : P0} : X z 214 1227 = XI mT z (X z) (.aload_n 0, 1, 0, 0, 0, [], 0, 0) 214 1227 := X_at (r := mi214) rfl rfl
set_option maxRecDepth 20000 in
theorem x214_1228 {z : P0} : X z 214 1228 = XI mT z (X z) (.iload 4, 2, 4, 0, 0, [], 0, 0) 214 1228 := X_at (r := mi214) rfl rfl
set_option maxRecDepth 20000 in
theorem x214_1230 {z : P0} : X z 214 1230 = XI mT z (X z) (.iconst 1, 1, 0, 0, 0, [], nI 1, 0) 214 1230 := X_at (r := mi214) rfl rfl
set_option maxRecDepth 20000 in
theorem x214_1231 {z : P0} : X z 214 1231 = XI mT z (X z) (.iadd, 1, 0, 0, 0, [], 0, 0) 214 1231 := X_at (r := mi214) rfl rfl
set_option maxRecDepth 20000 in
theorem x214_1232 {z : P0} : X z 214 1232 = XI mT z (X z) (.iaload, 1, 0, 0, 0, [], 0, 0) 214 1232 := X_at (r := mi214) rfl rfl
set_option maxRecDepth 20000 in
theorem x214_1233 {z : P0} : X z 214 1233 = XI mT z (X z) (.invokevirtual 156, 3, 1, 164, 0, [226], 0, 0) 214 1233 := X_at (r := mi214) rfl rfl
set_option maxRecDepth 20000 in
theorem x214_1236 {z : P0} : X z 214 1236 = XI mT z (X z) (.istore 6, 2, 6, 0, 0, [], 0, 0) 214 1236 := X_at (r := mi214) rfl rfl
set_option maxRecDepth 20000 in
theorem x214_1238 {z : P0} : X z 214 1238 = XI mT z (X z) (.aload_n 2, 1, 2, 0, 0, [], 0, 0) 214 1238 := X_at (r := mi214) rfl rfl
set_option maxRecDepth 20000 in
theorem x214_1239 {z : P0} : X z 214 1239 = XI mT z (X z) (.invokevirtual 96, 3, 0, 105, 0, [190], 0, 0) 214 1239 := X_at (r := mi214) rfl rfl
set_option maxRecDepth 20000 in
theorem x214_1242 {z : P0} : X z 214 1242 = XI mT z (X z) (.iload 5, 2, 5, 0, 0, [], 0, 0) 214 1242 := X_at (r := mi214) rfl rfl
set_option maxRecDepth 20000 in
theorem x214_1244 {z : P0} : X z 214 1244 = XI mT z (X z) (.if_icmp .eq 5, 3, 1249, 0, 0, [], 0, 0) 214 1244 := X_at (r := mi214) rfl rfl
set_option maxRecDepth 20000 in
theorem x214_1247 {z : P0} : X z 214 1247 = XI mT z (X z) (.iconst 0, 1, 0, 0, 0, [], nI 0, 0) 214 1247 := X_at (r := mi214) rfl rfl
set_option maxRecDepth 20000 in
theorem x214_1248 {z : P0} : X z 214 1248 = XI mT z (X z) (.ireturn, 1, 0, 0, 0, [], 0, 0) 214 1248 := X_at (r := mi214) rfl rfl
set_option maxRecDepth 20000 in
theorem x214_1249 {z : P0} : X z 214 1249 = XI mT z (X z) (.iload 5, 2, 5, 0, 0, [], 0, 0) 214 1249 := X_at (r := mi214) rfl rfl
set_option maxRecDepth 20000 in
theorem x214_1251 {z : P0} : X z 214 1251 = XI mT z (X z) (.ifCond .ne 15, 3, 1266, 0, 0, [], 0, 0) 214 1251 := X_at (r := mi214) rfl rfl
set_option maxRecDepth 20000 in
theorem x214_1254 {z : P0} : X z 214 1254 = XI mT z (X z) (.aload_n 3, 1, 3, 0, 0, [], 0, 0) 214 1254 := X_at (r := mi214) rfl rfl
set_option maxRecDepth 20000 in
theorem x214_1255 {z : P0} : X z 214 1255 = XI mT z (X z) (.iconst 0, 1, 0, 0, 0, [], nI 0, 0) 214 1255 := X_at (r := mi214) rfl rfl
set_option maxRecDepth 20000 in
theorem x214_1256 {z : P0} : X z 214 1256 = XI mT z (X z) (.laload, 1, 0, 0, 0, [], 0, 0) 214 1256 := X_at (r := mi214) rfl rfl
set_option maxRecDepth 20000 in
theorem x214_1257 {z : P0} : X z 214 1257 = XI mT z (X z) (.iload 6, 2, 6, 0, 0, [], 0, 0) 214 1257 := X_at (r := mi214) rfl rfl
set_option maxRecDepth 20000 in
theorem x214_1259 {z : P0} : X z 214 1259 = XI mT z (X z) (.i2l, 1, 0, 0, 0, [], 0, 0) 214 1259 := X_at (r := mi214) rfl rfl
set_option maxRecDepth 20000 in
theorem x214_1260 {z : P0} : X z 214 1260 = XI mT z (X z) (.lcmp, 1, 0, 0, 0, [], 0, 0) 214 1260 := X_at (r := mi214) rfl rfl
set_option maxRecDepth 20000 in
theorem x214_1261 {z : P0} : X z 214 1261 = XI mT z (X z) (.ifCond .eq 5, 3, 1266, 0, 0, [], 0, 0) 214 1261 := X_at (r := mi214) rfl rfl
set_option maxRecDepth 20000 in
theorem x214_1264 {z : P0} : X z 214 1264 = XI mT z (X z) (.iconst 0, 1, 0, 0, 0, [], nI 0, 0) 214 1264 := X_at (r := mi214) rfl rfl
set_option maxRecDepth 20000 in
theorem x214_1265 {z : P0} : X z 214 1265 = XI mT z (X z) (.ireturn, 1, 0, 0, 0, [], 0, 0) 214 1265 := X_at (r := mi214) rfl rfl
set_option maxRecDepth 20000 in
theorem x214_1266 {z : P0} : X z 214 1266 = XI mT z (X z) (.goto 332, 3, 1598, 0, 0, [], 0, 0) 214 1266 := X_at (r := mi214) rfl rfl
set_option maxRecDepth 20000 in
theorem x214_1269 {z : P0} : X z 214 1269 = XI mT z (X z) (.aload_n 1, 1, 1, 0, 0, [], 0, 0) 214 1269 := X_at (r := mi214) rfl rfl
set_option maxRecDepth 20000 in
theorem x214_1270 {z : P0} : X z 214 1270 = XI mT z (X z) (.aload_n 0, 1, 0, 0, 0, [], 0, 0) 214 1270 := X_at (r := mi214) rfl rfl
set_option maxRecDepth 20000 in
theorem x214_1271 {z : P0} : X z 214 1271 = XI mT z (X z) (.iload 4, 2, 4, 0, 0, [], 0, 0) 214 1271 := X_at (r := mi214) rfl rfl
set_option maxRecDepth 20000 in
theorem x214_1273 {z : P0} : X z 214 1273 = XI mT z (X z) (.iconst 1, 1, 0, 0, 0, [], nI 1, 0) 214 1273 := X_at (r := mi214) rfl rfl
set_option maxRecDepth 20000 in
theorem x214_1274 {z : P0} : X z 214 1274 = XI mT z (X z) (.iadd, 1, 0, 0, 0, [], 0, 0) 214 1274 := X_at (r := mi214) rfl rfl
set_option maxRecDepth 20000 in
theorem x214_1275 {z : P0} : X z 214 1275 = XI mT z (X z) (.iaload, 1, 0, 0, 0, [], 0, 0) 214 1275 := X_at (r := mi214) rfl rfl
set_option maxRecDepth 20000 in
theorem x214_1276 {z : P0} : X z 214 1276 = XI mT z (X z) (.aload_n 3, 1, 3, 0, 0, [], 0, 0) 214 1276 := X_at (r := mi214) rfl rfl
set_option maxRecDepth 20000 in
theorem x214_1277 {z : P0} : X z 214 1277 = XI mT z (X z) (.invokestatic 157, 3, 3, 210, 0, [227], 0, 0) 214 1277 := X_at (r := mi214) rfl rfl
set_option maxRecDepth 20000 in
theorem x214_1280 {z : P0} : X z 214 1280 = XI mT z (X z) (.istore 5, 2, 5, 0, 0, [], 0, 0) 214 1280 := X_at (r := mi214) rfl rfl
set_option maxRecDepth 20000 in
theorem x214_1282 {z : P0} : X z 214 1282 = XI mT z (X z) (.aload_n 2, 1, 2, 0, 0, [], 0, 0) 214 1282 := X_at (r := mi214) rfl rfl
set_option maxRecDepth 20000 in
theorem x214_1283 {z : P0} : X z 214 1283 = XI mT z (X z) (.aload_n 0, 1, 0, 0, 0, [], 0, 0) 214 1283 := X_at (r := mi214) rfl rfl
set_option maxRecDepth 20000 in
theorem x214_1284 {z : P0} : X z 214 1284 = XI mT z (X z) (.iload 4, 2, 4, 0, 0, [], 0, 0) 214 1284 := X_at (r := mi214) rfl rfl
set_option maxRecDepth 20000 in
theorem x214_1286 {z : P0} : X z 214 1286 = XI mT z (X z) (.iconst 1, 1, 0, 0, 0, [], nI 1, 0) 214 1286 := X_at (r := mi214) rfl rfl
set_option maxRecDepth 20000 in
theorem x214_1287 {z : P0} : X z 214 1287 = XI mT z (X z) (.iadd, 1, 0, 0, 0, [], 0, 0) 214 1287 := X_at (r := mi214) rfl rfl
set_option maxRecDepth 20000 in
theorem x214_1288 {z : P0} : X z 214 1288 = XI mT z (X z) (.iaload, 1, 0, 0, 0, [], 0, 0) 214 1288 := X_at (r := mi214) rfl rfl
set_option maxRecDepth 20000 in
theorem x214_1289 {z : P0} : X z 214 1289 = XI mT z (X z) (.invokevirtual 159, 3, 1, 166, 0, [228], 0, 0) 214 1289 := X_at (r := mi214) rfl rfl
set_option maxRecDepth 20000 in
theorem x214_1292 {z : P0} : X z 214 1292 = XI mT z (X z) (.istore 6, 2, 6, 0, 0, [], 0, 0) 214 1292 := X_at (r := mi214) rfl rfl
set_option maxRecDepth 20000 in
theorem x214_1294 {z : P0} : X z 214 1294 = XI mT z (X z) (.aload_n 2, 1, 2, 0, 0, [], 0, 0) 214 1294 := X_at (r := mi214) rfl rfl
set_option maxRecDepth 20000 in
theorem x214_1295 {z : P0} : X z 214 1295 = XI mT z (X z) (.invokevirtual 96, 3, 0, 105, 0, [190], 0, 0) 214 1295 := X_at (r := mi214) rfl rfl
set_option maxRecDepth 20000 in
theorem x214_1298 {z : P0} : X z 214 1298 = XI mT z (X z) (.iload 5, 2, 5, 0, 0, [], 0, 0) 214 1298 := X_at (r := mi214) rfl rfl
set_option maxRecDepth 20000 in
theorem x214_1300 {z : P0} : X z 214 1300 = XI mT z (X z) (.if_icmp .eq 5, 3, 1305, 0, 0, [], 0, 0) 214 1300 := X_at (r := mi214) rfl rfl
set_option maxRecDepth 20000 in
theorem x214_1303 {z : P0} : X z 214 1303 = XI mT z (X z) (.iconst 0, 1, 0, 0, 0, [], nI 0, 0) 214 1303 := X_at (r := mi214) rfl rfl
set_option maxRecDepth 20000 in
theorem x214_1304 {z : P0} : X z 214 1304 = XI mT z (X z) (.ireturn, 1, 0, 0, 0, [], 0, 0) 214 1304 := X_at (r := mi214) rfl rfl
set_option maxRecDepth 20000 in
theorem x214_1305 {z : P0} : X z 214 1305 = XI mT z (X z) (.iload 5, 2, 5, 0, 0, [], 0, 0) 214 1305 := X_at (r := mi214) rfl rfl
set_option maxRecDepth 20000 in
theorem x214_1307 {z : P0} : X z 214 1307 = XI mT z (X z) (.ifCond .ne 15, 3, 1322, 0, 0, [], 0, 0) 214 1307 := X_at (r := mi214) rfl rfl
set_option maxRecDepth 20000 in
theorem x214_1310 {z : P0} : X z 214 1310 = XI mT z (X z) (.aload_n 3, 1, 3, 0, 0, [], 0, 0) 214 1310 := X_at (r := mi214) rfl rfl
set_option maxRecDepth 20000 in
theorem x214_1311 {z : P0} : X z 214 1311 = XI mT z (X z) (.iconst 0, 1, 0, 0, 0, [], nI 0, 0) 214 1311 := X_at (r := mi214) rfl rfl
set_option maxRecDepth 20000 in
theorem x214_1312 {z : P0} : X z 214 1312 = XI mT z (X z) (.laload, 1, 0, 0, 0, [], 0, 0) 214 1312 := X_at (r := mi214) rfl rfl
set_option maxRecDepth 20000 in
theorem x214_1313 {z : P0} : X z 214 1313 = XI mT z (X z) (.iload 6, 2, 6, 0, 0, [], 0, 0) 214 1313 := X_at (r := mi214) rfl rfl
set_option maxRecDepth 20000 in
theorem x214_1315 {z : P0} : X z 214 1315 = XI mT z (X z) (.i2l, 1, 0, 0, 0, [], 0, 0) 214 1315 := X_at (r := mi214) rfl rfl
set_option maxRecDepth 20000 in
theorem x214_1316 {z : P0} : X z 214 1316 = XI mT z (X z) (.lcmp, 1, 0, 0, 0, [], 0, 0) 214 1316 := X_at (r := mi214) rfl rfl
set_option maxRecDepth 20000 in
theorem x214_1317 {z : P0} : X z 214 1317 = XI mT z (X z) (.ifCond .eq 5, 3, 1322, 0, 0, [], 0, 0) 214 1317 := X_at (r := mi214) rfl rfl
set_option maxRecDepth 20000 in
theorem x214_1320 {z : P0} : X z 214 1320 = XI mT z (X z) (.iconst 0, 1, 0, 0, 0, [], nI 0, 0) 214 1320 := X_at (r := mi214) rfl rfl
set_option maxRecDepth 20000 in
theorem x214_1321 {z : P0} : X z 214 1321 = XI mT z (X z) (.ireturn, 1, 0, 0, 0, [], 0, 0) 214 1321 := X_at (r := mi214) rfl rfl
set_option maxRecDepth 20000 in
theorem x214_1322 {z : P0} : X z 214 1322 = XI mT z (X z) (.goto 276, 3, 1598, 0, 0, [], 0, 0) 214 1322 := X_at (r := mi214) rfl rfl
set_option maxRecDepth 20000 in
theorem x214_1325 {z : P0} : X z 214 1325 = XI mT z (X z) (.aload_n 1, 1, 1, 0, 0, [], 0, 0) 214 1325 := X_at (r := mi214) rfl rfl
set_option maxRecDepth 20000 in
theorem x214_1326 {z : P0} : X z 214 1326 = XI mT z (X z) (.aload_n 0, 1, 0, 0, 0, [], 0, 0) 214 1326 := X_at (r := mi214) rfl rfl
set_option maxRecDepth 20000 in
theorem x214_1327 {z : P0} : X z 214 1327 = XI mT z (X z) (.iload 4, 2, 4, 0, 0, [], 0, 0) 214 1327 := X_at (r := mi214) rfl rfl
set_option maxRecDepth 20000 in
theorem x214_1329 {z : P0} : X z 214 1329 = XI mT z (X z) (.iconst 1, 1, 0, 0, 0, [], nI 1, 0) 214 1329 := X_at (r := mi214) rfl rfl
set_option maxRecDepth 20000 in
theorem x214_1330 {z : P0} : X z 214 1330 = XI mT z (X z) (.iadd, 1, 0, 0, 0, [], 0, 0) 214 1330 := X_at (r := mi214) rfl rfl
set_option maxRecDepth 20000 in
theorem x214_1331 {z : P0} : X z 214 1331 = XI mT z (X z) (.iaload, 1, 0, 0, 0, [], 0, 0) 214 1331 := X_at (r := mi214) rfl rfl
set_option maxRecDepth 20000 in
theorem x214_1332 {z : P0} : X z 214 1332 = XI mT z (X z) (.aload_n 3, 1, 3, 0, 0, [], 0, 0) 214 1332 := X_at (r := mi214) rfl rfl
set_option maxRecDepth 20000 in
theorem x214_1333 {z : P0} : X z 214 1333 = XI mT z (X z) (.invokestatic 160, 3, 3, 211, 0, [229], 0, 0) 214 1333 := X_at (r := mi214) rfl rfl
set_option maxRecDepth 20000 in
theorem x214_1336 {z : P0} : X z 214 1336 = XI mT z (X z) (.istore 5, 2, 5, 0, 0, [], 0, 0) 214 1336 := X_at (r := mi214) rfl rfl
set_option maxRecDepth 20000 in
theorem x214_1338 {z : P0} : X z 214 1338 = XI mT z (X z) (.aload_n 2, 1, 2, 0, 0, [], 0, 0) 214 1338 := X_at (r := mi214) rfl rfl
set_option maxRecDepth 20000 in
theorem x214_1339 {z : P0} : X z 214 1339 = XI mT z (X z) (.aload_n 0, 1, 0, 0, 0, [], 0, 0) 214 1339 := X_at (r := mi214) rfl rfl
set_option maxRecDepth 20000 in
theorem x214_1340 {z : P0} : X z 214 1340 = XI mT z (X z) (.iload 4, 2, 4, 0, 0, [], 0, 0) 214 1340 := X_at (r := mi214) rfl rfl
set_option maxRecDepth 20000 in
theorem x214_1342 {z : P0} : X z 214 1342 = XI mT z (X z) (.iconst 1, 1, 0, 0, 0, [], nI 1, 0) 214 1342 := X_at (r := mi214) rfl rfl
set_option maxRecDepth 20000 in
theorem x214_1343 {z : P0} : X z 214 1343 = XI mT z (X z) (.iadd, 1, 0, 0, 0, [], 0, 0) 214 1343 := X_at (r := mi214) rfl rfl
set_option maxRecDepth 20000 in
theorem x214_1344 {z : P0} : X z 214 1344 = XI mT z (X z) (.iaload, 1, 0, 0, 0, [], 0, 0) 214 1344 := X_at (r := mi214) rfl rfl
set_option maxRecDepth 20000 in
theorem x214_1345 {z : P0} : X z 214 1345 = XI mT z (X z) (.invokevirtual 162, 3, 1, 167, 0, [230], 0, 0) 214 1345 := X_at (r := mi214) rfl rfl
set_option maxRecDepth 20000 in
theorem x214_1348 {z : P0} : X z 214 1348 = XI mT z (X z) (.istore 6, 2, 6, 0, 0, [], 0, 0) 214 1348 := X_at (r := mi214) rfl rfl
set_option maxRecDepth 20000 in
theorem x214_1350 {z : P0} : X z 214 1350 = XI mT z (X z) (.aload_n 2, 1, 2, 0, 0, [], 0, 0) 214 1350 := X_at (r := mi214) rfl rfl
set_option maxRecDepth 20000 in
theorem x214_1351 {z : P0} : X z 214 1351 = XI mT z (X z) (.invokevirtual 96, 3, 0, 105, 0, [190], 0, 0) 214 1351 := X_at (r := mi214) rfl rfl
set_option maxRecDepth 20000 in
theorem x214_1354 {z : P0} : X z 214 1354 = XI mT z (X z) (.iload 5, 2, 5, 0, 0, [], 0, 0) 214 1354 := X_at (r := mi214) rfl rfl
set_option maxRecDepth 20000 in
theorem x214_1356 {z : P0} : X z 214 1356 = XI mT z (X z) (.if_icmp .eq 5, 3, 1361, 0, 0, [], 0, 0) 214 1356 := X_at (r := mi214) rfl rfl
set_option maxRecDepth 20000 in
theorem x214_1359 {z : P0} : X z 214 1359 = XI mT z (X z) (.iconst 0, 1, 0, 0, 0, [], nI 0, 0) 214 1359 := X_at (r := mi214) rfl rfl
set_option maxRecDepth 20000 in
theorem x214_1360 {z : P0} : X z 214 1360 = XI mT z (X z) (.ireturn, 1, 0, 0, 0, [], 0, 0) 214 1360 := X_at (r := mi214) rfl rfl
set_option maxRecDepth 20000 in
theorem x214_1361 {z : P0} : X z 214 1361 = XI mT z (X z) (.iload 5, 2, 5, 0, 0, [], 0, 0) 214 1361 := X_at (r := mi214) rfl rfl
set_option maxRecDepth 20000 in
theorem x214_1363 {z : P0} : X z 214 1363 = XI mT z (X z) (.ifCond .ne 15, 3, 1378, 0, 0, [], 0, 0) 214 1363 := X_at (r := mi214) rfl rfl
set_option maxRecDepth 20000 in
theorem x214_1366 {z : P0} : X z 214 1366 = XI mT z (X z) (.aload_n 3, 1, 3, 0, 0, [], 0, 0) 214 1366 := X_at (r := mi214) rfl rfl
set_option maxRecDepth 20000 in
theorem x214_1367 {z : P0} : X z 214 1367 = XI mT z (X z) (.iconst 0, 1, 0, 0, 0, [], nI 0, 0) 214 1367 := X_at (r := mi214) rfl rfl
set_option maxRecDepth 20000 in
theorem x214_1368 {z : P0} : X z 214 1368 = XI mT z (X z) (.laload, 1, 0, 0, 0, [], 0, 0) 214 1368 := X_at (r := mi214) rfl rfl
set_option maxRecDepth 20000 in
theorem x214_1369 {z : P0} : X z 214 1369 = XI mT z (X z) (.iload 6, 2, 6, 0, 0, [], 0, 0) 214 1369 := X_at (r := mi214) rfl rfl
set_option maxRecDepth 20000 in
theorem x214_1371 {z : P0} : X z 214 1371 = XI mT z (X z) (.i2l, 1, 0, 0, 0, [], 0, 0) 214 1371 := X_at (r := mi214) rfl rfl
set_option maxRecDepth 20000 in
theorem x214_1372 {z : P0} : X z 214 1372 = XI mT z (X z) (.lcmp, 1, 0, 0, 0, [], 0, 0) 214 1372 := X_at (r := mi214) rfl rfl
set_option maxRecDepth 20000 in
theorem x214_1373 {z : P0} : X z 214 1373 = XI mT z (X z) (.ifCond .eq 5, 3, 1378, 0, 0, [], 0, 0) 214 1373 := X_at (r := mi214) rfl rfl
set_option maxRecDepth 20000 in
theorem x214_1376 {z : P0} : X z 214 1376 = XI mT z (X z) (.iconst 0, 1, 0, 0, 0, [], nI 0, 0) 214 1376 := X_at (r := mi214) rfl rfl
set_option maxRecDepth 20000 in
theorem x214_1377 {z : P0} : X z 214 1377 = XI mT z (X z) (.ireturn, 1, 0, 0, 0, [], 0, 0) 214 1377 := X_at (r := mi214) rfl rfl
set_option maxRecDepth 20000 in
theorem x214_1378 {z : P0} : X z 214 1378 = XI mT z (X z) (.goto 220, 3, 1598, 0, 0, [], 0, 0) 214 1378 := X_at (r := mi214) rfl rfl
set_option maxRecDepth 20000 in
theorem x214_1381 {z : P0} : X z 214 1381 = XI mT z (X z) (.aload_n 1, 1, 1, 0, 0, [], 0, 0) 214 1381 := X_at (r := mi214) rfl rfl
set_option maxRecDepth 20000 in
theorem x214_1382 {z : P0} : X z 214 1382 = XI mT z (X z) (.aload_n 0, 1, 0, 0, 0, [], 0, 0) 214 1382 := X_at (r := mi214) rfl rfl
set_option maxRecDepth 20000 in
theorem x214_1383 {z : P0} : X z 214 1383 = XI mT z (X z) (.iload 4, 2, 4, 0, 0, [], 0, 0) 214 1383 := X_at (r := mi214) rfl rfl
set_option maxRecDepth 20000 in
theorem x214_1385 {z : P0} : X z 214 1385 = XI mT z (X z) (.iconst 1, 1, 0, 0, 0, [], nI 1, 0) 214 1385 := X_at (r := mi214) rfl rfl
set_option maxRecDepth 20000 in
theorem x214_1386 {z : P0} : X z 214 1386 = XI mT z (X z) (.iadd, 1, 0, 0, 0, [], 0, 0) 214 1386 := X_at (r := mi214) rfl rfl
set_option maxRecDepth 20000 in
theorem x214_1387 {z : P0} : X z 214 1387 = XI mT z (X z) (.iaload, 1, 0, 0, 0, [], 0, 0) 214 1387 := X_at (r := mi214) rfl rfl
set_option maxRecDepth 20000 in
theorem x214_1388 {z : P0} : X z 214 1388 = XI mT z (X z) (.aload_n 0, 1, 0, 0, 0, [], 0, 0) 214 1388 := X_at (r := mi214) rfl rfl
set_option maxRecDepth 20000 in
theorem x214_1389 {z : P0} : X z 214 1389 = XI mT z (X z) (.iload 4, 2, 4, 0, 0, [], 0, 0) 214 1389 := X_at (r := mi214) rfl rfl
set_option maxRecDepth 20000 in
theorem x214_1391 {z : P0} : X z 214 1391 = XI mT z (X z) (.iconst 2, 1, 0, 0, 0, [], nI 2, 0) 214 1391 := X_at (r := mi214) rfl rfl
set_option maxRecDepth 20000 in
theorem x214_1392 {z : P0} : X z 214 1392 = XI mT z (X z) (.iadd, 1, 0, 0, 0, [], 0, 0) 214 1392 := X_at (r := mi214) rfl rfl
set_option maxRecDepth 20000 in
theorem x214_1393 {z : P0} : X z 214 1393 = XI mT z (X z) (.iaload, 1, 0, 0, 0, [], 0, 0) 214 1393 := X_at (r := mi214) rfl rfl
set_option maxRecDepth 20000 in
theorem x214_1394 {z : P0} : X z 214 1394 = XI mT z (X z) (.aload_n 0, 1, 0, 0, 0, [], 0, 0) 214 1394 := X_at (r := mi214) rfl rfl
set_option maxRecDepth 20000 in
theorem x214_1395 {z : P0} : X z 214 1395 = XI mT z (X z) (.iload 4, 2, 4, 0, 0, [], 0, 0) 214 1395 := X_at (r := mi214) rfl rfl
set_option maxRecDepth 20000 in
theorem x214_1397 {z : P0} : X z 214 1397 = XI mT z (X z) (.iconst 3, 1, 0, 0, 0, [], nI 3, 0) 214 1397 := X_at (r := mi214) rfl rfl
set_option maxRecDepth 20000 in
theorem x214_1398 {z : P0} : X z 214 1398 = XI mT z (X z) (.iadd, 1, 0, 0, 0, [], 0, 0) 214 1398 := X_at (r := mi214) rfl rfl
set_option maxRecDepth 20000 in
theorem x214_1399 {z : P0} : X z 214 1399 = XI mT z (X z) (.iaload, 1, 0, 0, 0, [], 0, 0) 214 1399 := X_at (r := mi214) rfl rfl
set_option maxRecDepth 20000 in
theorem x214_1400 {z : P0} : X z 214 1400 = XI mT z (X z) (.aload_n 3, 1, 3, 0, 0, [], 0, 0) 214 1400 := X_at (r := mi214) rfl rfl
set_option maxRecDepth 20000 in
theorem x214_1401 {z : P0} : X z 214 1401 = XI mT z (X z) (.invokestatic 163, 3, 5, 212, 0, [231], 0, 0) 214 1401 := X_at (r := mi214) rfl rfl
set_option maxRecDepth 20000 in
theorem x214_1404 {z : P0} : X z 214 1404 = XI mT z (X z) (.istore 5, 2, 5, 0, 0, [], 0, 0) 214 1404 := X_at (r := mi214) rfl rfl
set_option maxRecDepth 20000 in
theorem x214_1406 {z : P0} : X z 214 1406 = XI mT z (X z) (.aload_n 2, 1, 2, 0, 0, [], 0, 0) 214 1406 := X_at (r := mi214) rfl rfl
set_option maxRecDepth 20000 in
theorem x214_1407 {z : P0} : X z 214 1407 = XI mT z (X z) (.aload_n 0, 1, 0, 0, 0, [], 0, 0) 214 1407 := X_at (r := mi214) rfl rfl
set_option maxRecDepth 20000 in
theorem x214_1408 {z : P0} : X z 214 1408 = XI mT z (X z) (.iload 4, 2, 4, 0, 0, [], 0, 0) 214 1408 := X_at (r := mi214) rfl rfl
set_option maxRecDepth 20000 in
theorem x214_1410 {z : P0} : X z 214 1410 = XI mT z (X z) (.iconst 1, 1, 0, 0, 0, [], nI 1, 0) 214 1410 := X_at (r := mi214) rfl rfl
set_option maxRecDepth 20000 in
theorem x214_1411 {z : P0} : X z 214 1411 = XI mT z (X z) (.iadd, 1, 0, 0, 0, [], 0, 0) 214 1411 := X_at (r := mi214) rfl rfl
set_option maxRecDepth 20000 in
theorem x214_1412 {z : P0} : X z 214 1412 = XI mT z (X z) (.iaload, 1, 0, 0, 0, [], 0, 0) 214 1412 := X_at (r := mi214) rfl rfl
set_option maxRecDepth 20000 in
theorem x214_1413 {z : P0} : X z 214 1413 = XI mT z (X z) (.aload_n 0, 1, 0, 0, 0, [], 0, 0) 214 1413 := X_at (r := mi214) rfl rfl
set_option maxRecDepth 20000 in
theorem x214_1414 {z : P0} : X z 214 1414 = XI mT z (X z) (.iload 4, 2, 4, 0, 0, [], 0, 0) 214 1414 := X_at (r := mi214) rfl rfl
set_option maxRecDepth 20000 in
theorem x214_1416 {z : P0} : X z 214 1416 = XI mT z (X z) (.iconst 2, 1, 0, 0, 0, [], nI 2, 0) 214 1416 := X_at (r := mi214) rfl rfl
set_option maxRecDepth 20000 in
theorem x214_1417 {z : P0} : X z 214 1417 = XI mT z (X z) (.iadd, 1, 0, 0, 0, [], 0, 0) 214 1417 := X_at (r := mi214) rfl rfl
set_option maxRecDepth 20000 in
theorem x214_1418 {z : P0} : X z 214 1418 = XI mT z (X z) (.iaload, 1, 0, 0, 0, [], 0, 0) 214 1418 := X_at (r := mi214) rfl rfl
set_option maxRecDepth 20000 in
theorem x214_1419 {z : P0} : X z 214 1419 = XI mT z (X z) (.aload_n 0, 1, 0, 0, 0, [], 0, 0) 214 1419 := X_at (r := mi214) rfl rfl
set_option maxRecDepth 20000 in
theorem x214_1420 {z : P0} : X z 214 1420 = XI mT z (X z) (.iload 4, 2, 4, 0, 0, [], 0, 0) 214 1420 := X_at (r := mi214) rfl rfl
set_option maxRecDepth 20000 in
theorem x214_1422 {z : P0} : X z 214 1422 = XI mT z (X z) (.iconst 3, 1, 0, 0, 0, [], nI 3, 0) 214 1422 := X_at (r := mi214) rfl rfl
set_option maxRecDepth 20000 in
theorem x214_1423 {z : P0} : X z 214 1423 = XI mT z (X z) (.iadd, 1, 0, 0, 0, [], 0, 0) 214 1423 := X_at (r := mi214) rfl rfl
set_option maxRecDepth 20000 in
theorem x214_1424 {z : P0} : X z 214 1424 = XI mT z (X z) (.iaload, 1, 0, 0, 0, [], 0, 0) 214 1424 := X_at (r := mi214) rfl rfl
set_option maxRecDepth 20000 in
theorem x214_1425 {z : P0} : X z 214 1425 = XI mT z (X z) (.invokevirtual 166, 3, 3, 169, 0, [232], 0, 0) 214 1425 := X_at (r := mi214) rfl rfl
set_option maxRecDepth 20000 in
theorem x214_1428 {z : P0} : X z 214 1428 = XI mT z (X z) (.istore 6, 2, 6, 0, 0, [], 0, 0) 214 1428 := X_at (r := mi214) rfl rfl
set_option maxRecDepth 20000 in
theorem x214_1430 {z : P0} : X z 214 1430 = XI mT z (X z) (.aload_n 2, 1, 2, 0, 0, [], 0, 0) 214 1430 := X_at (r := mi214) rfl rfl
set_option maxRecDepth 20000 in
theorem x214_1431 {z : P0} : X z 214 1431 = XI mT z (X z) (.invokevirtual 96, 3, 0, 105, 0, [190], 0, 0) 214 1431 := X_at (r := mi214) rfl rfl
set_option maxRecDepth 20000 in
theorem x214_1434 {z : P0} : X z 214 1434 = XI mT z (X z) (.iload 5, 2, 5, 0, 0, [], 0, 0) 214 1434 := X_at (r := mi214) rfl rfl
set_option maxRecDepth 20000 in
theorem x214_1436 {z : P0} : X z 214 1436 = XI mT z (X z) (.if_icmp .eq 5, 3, 1441, 0, 0, [], 0, 0) 214 1436 := X_at (r := mi214) rfl rfl
set_option maxRecDepth 20000 in
theorem x214_1439 {z : P0} : X z 214 1439 = XI mT z (X z) (.iconst 0, 1, 0, 0, 0, [], nI 0, 0) 214 1439 := X_at (r := mi214) rfl rfl
set_option maxRecDepth 20000 in
theorem x214_1440 {z : P0} : X z 214 1440 = XI mT z (X z) (.ireturn, 1, 0, 0, 0, [], 0, 0) 214 1440 := X_at (r := mi214) rfl rfl
set_option maxRecDepth 20000 in
theorem x214_1441 {z : P0} : X z 214 1441 = XI mT z (X z) (.iload 5, 2, 5, 0, 0, [], 0, 0) 214 1441 := X_at (r := mi214) rfl rfl
set_option maxRecDepth 20000 in
theorem x214_1443 {z : P0} : X z 214 1443 = XI mT z (X z) (.ifCond .ne 15, 3, 1458, 0, 0, [], 0, 0) 214 1443 := X_at (r := mi214) rfl rfl
set_option maxRecDepth 20000 in
theorem x214_1446 {z : P0} : X z 214 1446 = XI mT z (X z) (.aload_n 3, 1, 3, 0, 0, [], 0, 0) 214 1446 := X_at (r := mi214) rfl rfl
set_option maxRecDepth 20000 in
theorem x214_1447 {z : P0} : X z 214 1447 = XI mT z (X z) (.iconst 0, 1, 0, 0, 0, [], nI 0, 0) 214 1447 := X_at (r := mi214) rfl rfl
set_option maxRecDepth 20000 in
theorem x214_1448 {z : P0} : X z 214 1448 = XI mT z (X z) (.laload, 1, 0, 0, 0, [], 0, 0) 214 1448 := X_at (r := mi214) rfl rfl
set_option maxRecDepth 20000 in
theorem x214_1449 {z : P0} : X z 214 1449 = XI mT z (X z) (.iload 6, 2, 6, 0, 0, [], 0, 0) 214 1449 := X_at (r := mi214) rfl rfl
set_option maxRecDepth 20000 in
theorem x214_1451 {z : P0} : X z 214 1451 = XI mT z (X z) (.i2l, 1, 0, 0, 0, [], 0, 0) 214 1451 := X_at (r := mi214) rfl rfl
set_option maxRecDepth 20000 in
theorem x214_1452 {z : P0} : X z 214 1452 = XI mT z (X z) (.lcmp, 1, 0, 0, 0, [], 0, 0) 214 1452 := X_at (r := mi214) rfl rfl
set_option maxRecDepth 20000 in
theorem x214_1453 {z : P0} : X z 214 1453 = XI mT z (X z) (.ifCond .eq 5, 3, 1458, 0, 0, [], 0, 0) 214 1453 := X_at (r := mi214) rfl rfl
set_option maxRecDepth 20000 in
theorem x214_1456 {z : P0} : X z 214 1456 = XI mT z (X z) (.iconst 0, 1, 0, 0, 0, [], nI 0, 0) 214 1456 := X_at (r := mi214) rfl rfl
set_option maxRecDepth 20000 in
theorem x214_1457 {z : P0} : X z 214 1457 = XI mT z (X z) (.ireturn, 1, 0, 0, 0, [], 0, 0) 214 1457 := X_at (r := mi214) rfl rfl
set_option maxRecDepth 20000 in
theorem x214_1458 {z : P0} : X z 214 1458 = XI mT z (X z) (.goto 140, 3, 1598, 0, 0, [], 0, 0) 214 1458 := X_at (r := mi214) rfl rfl
set_option maxRecDepth 20000 in
theorem x214_1461 {z : P0} : X z 214 1461 = XI mT z (X z) (.aload_n 1, 1, 1, 0, 0, [], 0, 0) 214 1461 := X_at (r := mi214) rfl rfl
set_option maxRecDepth 20000 in
theorem x214_1462 {z : P0} : X z 214 1462 = XI mT z (X z) (.invokevirtual 167, 3, 0, 80, 0, [233], 0, 0) 214 1462 := X_at (r := mi214) rfl rfl
set_option maxRecDepth 20000 in
theorem x214_1465 {z : P0} : X z 214 1465 = XI mT z (X z) (.aload_n 2, 1, 2, 0, 0, [], 0, 0) 214 1465 := X_at (r := mi214) rfl rfl
set_option maxRecDepth 20000 in
theorem x214_1466 {z : P0} : X z 214 1466 = XI mT z (X z) (.invokevirtual 170, 3, 0, 171, 0, [234], 0, 0) 214 1466 := X_at (r := mi214) rfl rfl
set_option maxRecDepth 20000 in
theorem x214_1469 {z : P0} : X z 214 1469 = XI mT z (X z) (.if_icmp .eq 129, 3, 1598, 0, 0, [], 0, 0) 214 1469 := X_at (r := mi214) rfl rfl
set_option maxRecDepth 20000 in
theorem x214_1472 {z : P0} : X z 214 1472 = XI mT z (X z) (.iconst 0, 1, 0, 0, 0, [], nI 0, 0) 214 1472 := X_at (r := mi214) rfl rfl
set_option maxRecDepth 20000 in
theorem x214_1473 {z : P0} : X z 214 1473 = XI mT z (X z) (.ireturn, 1, 0, 0, 0, [], 0, 0) 214 1473 := X_at (r := mi214) rfl rfl
set_option maxRecDepth 20000 in
theorem x214_1474 {z : P0} : X z 214 1474 = XI mT z (X z) (.aload_n 1, 1, 1, 0, 0, [], 0, 0) 214 1474 := X_at (r := mi214) rfl rfl
set_option maxRecDepth 20000 in
theorem x214_1475 {z : P0} : X z 214 1475 = XI mT z (X z) (.invokevirtual 171, 3, 0, 81, 0, [235], 0, 0) 214 1475 := X_at (r := mi214) rfl rfl
set_option maxRecDepth 20000 in
theorem x214_1478 {z : P0} : X z 214 1478 = XI mT z (X z) (.aload_n 2, 1, 2, 0, 0, [], 0, 0) 214 1478 := X_at (r := mi214) rfl rfl
set_option maxRecDepth 20000 in
theorem x214_1479 {z : P0} : X z 214 1479 = XI mT z (X z) (.invokevirtual 174, 3, 0, 173, 0, [236], 0, 0) 214 1479 := X_at (r := mi214) rfl rfl
set_option maxRecDepth 20000 in
theorem x214_1482 {z : P0} : X z 214 1482 = XI mT z (X z) (.if_icmp .eq 116, 3, 1598, 0, 0, [], 0, 0) 214 1482 := X_at (r := mi214) rfl rfl
set_option maxRecDepth 20000 in
theorem x214_1485 {z : P0} : X z 214 1485 = XI mT z (X z) (.iconst 0, 1, 0, 0, 0, [], nI 0, 0) 214 1485 := X_at (r := mi214) rfl rfl
set_option maxRecDepth 20000 in
theorem x214_1486 {z : P0} : X z 214 1486 = XI mT z (X z) (.ireturn, 1, 0, 0, 0, [], 0, 0) 214 1486 := X_at (r := mi214) rfl rfl
set_option maxRecDepth 20000 in
theorem x214_1487 {z : P0} : X z 214 1487 = XI mT z (X z) (.aload_n 1, 1, 1, 0, 0, [], 0, 0) 214 1487 := X_at (r := mi214) rfl rfl
set_option maxRecDepth 20000 in
theorem x214_1488 {z : P0} : X z 214 1488 = XI mT z (X z) (.aload_n 0, 1, 0, 0, 0, [], 0, 0) 214 1488 := X_at (r := mi214) rfl rfl
set_option maxRecDepth 20000 in
theorem x214_1489 {z : P0} : X z 214 1489 = XI mT z (X z) (.iload 4, 2, 4, 0, 0, [], 0, 0) 214 1489 := X_at (r := mi214) rfl rfl
set_option maxRecDepth 20000 in
theorem x214_1491 {z : P0} : X z 214 1491 = XI mT z (X z) (.iconst 1, 1, 0, 0, 0, [], nI 1, 0) 214 1491 := X_at (r := mi214) rfl rfl
set_option maxRecDepth 20000 in
theorem x214_1492 {z : P0} : X z 214 1492 = XI mT z (X z) (.iadd, 1, 0, 0, 0, [], 0, 0) 214 1492 := X_at (r := mi214) rfl rfl
set_option maxRecDepth 20000 in
theorem x214_1493 {z : P0} : X z 214 1493 = XI mT z (X z) (.iaload, 1, 0, 0, 0, [], 0, 0) 214 1493 := X_at (r := mi214) rfl rfl
set_option maxRecDepth 20000 in
theorem x214_1494 {z : P0} : X z 214 1494 = XI mT z (X z) (.aload_n 3, 1, 3, 0, 0, [], 0, 0) 214 1494 := X_at (r := mi214) rfl rfl
set_option maxRecDepth 20000 in
theorem x214_1495 {z : P0} : X z 214 1495 = XI mT z (X z) (.invokestatic 175, 3, 3, 213, 0, [237], 0, 0) 214 1495 := X_at (r := mi214) rfl rfl
set_option maxRecDepth 20000 in
theorem x214_1498 {z : P0} : X z 214 1498 = XI mT z (X z) (.istore 5, 2, 5, 0, 0, [], 0, 0) 214 1498 := X_at (r := mi214) rfl rfl
set_option maxRecDepth 20000 in
theorem x214_1500 {z : P0} : X z 214 1500 = XI mT z (X z) (.aload_n 2, 1, 2, 0, 0, [], 0, 0) 214 1500 := X_at (r := mi214) rfl rfl
set_option maxRecDepth 20000 in
theorem x214_1501 {z : P0} : X z 214 1501 = XI mT z (X z) (.aload_n 0, 1, 0, 0, 0, [], 0, 0) 214 1501 := X_at (r := mi214) rfl rfl
set_option maxRecDepth 20000 in
theorem x214_1502 {z : P0} : X z 214 1502 = XI mT z (X z) (.iload 4, 2, 4, 0, 0, [], 0, 0) 214 1502 := X_at (r := mi214) rfl rfl
set_option maxRecDepth 20000 in
theorem x214_1504 {z : P0} : X z 214 1504 = XI mT z (X z) (.iconst 1, 1, 0, 0, 0, [], nI 1, 0) 214 1504 := X_at (r := mi214) rfl rfl
set_option maxRecDepth 20000 in
theorem x214_1505 {z : P0} : X z 214 1505 = XI mT z (X z) (.iadd, 1, 0, 0, 0, [], 0, 0) 214 1505 := X_at (r := mi214) rfl rfl
set_option maxRecDepth 20000 in
theorem x214_1506 {z : P0} : X z 214 1506 = XI mT z (X z) (.iaload, 1, 0, 0, 0, [], 0, 0) 214 1506 := X_at (r := mi214) rfl rfl
set_option maxRecDepth 20000 in
theorem x214_1507 {z : P0} : X z 214 1507 = XI mT z (X z) (.invokevirtual 177, 3, 1, 175, 0, [238], 0, 0) 214 1507 := X_at (r := mi214) rfl rfl
set_option maxRecDepth 20000 in
theorem x214_1510 {z : P0} : X z 214 1510 = XI mT z (X z) (.istore 6, 2, 6, 0, 0, [], 0, 0) 214 1510 := X_at (r := mi214) rfl rfl
set_option maxRecDepth 20000 in
theorem x214_1512 {z : P0} : X z 214 1512 = XI mT z (X z) (.aload_n 2, 1, 2, 0, 0, [], 0, 0) 214 1512 := X_at (r := mi214) rfl rfl
set_option maxRecDepth 20000 in
theorem x214_1513 {z : P0} : X z 214 1513 = XI mT z (X z) (.invokevirtual 96, 3, 0, 105, 0, [190], 0, 0) 214 1513 := X_at (r := mi214) rfl rfl
set_option maxRecDepth 20000 in
theorem x214_1516 {z : P0} : X z 214 1516 = XI mT z (X z) (.iload 5, 2, 5, 0, 0, [], 0, 0) 214 1516 := X_at (r := mi214) rfl rfl
set_option maxRecDepth 20000 in
theorem x214_1518 {z : P0} : X z 214 1518 = XI mT z (X z) (.if_icmp .eq 5, 3, 1523, 0, 0, [], 0, 0) 214 1518 := X_at (r := mi214) rfl rfl
set_option maxRecDepth 20000 in
theorem x214_1521 {z : P0} : X z 214 1521 = XI mT z (X z) (.iconst 0, 1, 0, 0, 0, [], nI 0, 0) 214 1521 := X_at (r := mi214) rfl rfl
set_option maxRecDepth 20000 in
theorem x214_1522 {z : P0} : X z 214 1522 = XI mT z (X z) (.ireturn, 1, 0, 0, 0, [], 0, 0) 214 1522 := X_at (r := mi214) rfl rfl
set_option maxRecDepth 20000 in
theorem x214_1523 {z : P0} : X z 214 1523 = XI mT z (X z) (.iload 5, 2, 5, 0, 0, [], 0, 0) 214 1523 := X_at (r := mi214) rfl rfl
set_option maxRecDepth 20000 in
theorem x214_1525 {z : P0} : X z 214 1525 = XI mT z (X z) (.ifCond .ne 15, 3, 1540, 0, 0, [], 0, 0) 214 1525 := X_at (r := mi214) rfl rfl
set_option maxRecDepth 20000 in
theorem x214_1528 {z : P0} : X z 214 1528 = XI mT z (X z) (.aload_n 3, 1, 3, 0, 0, [], 0, 0) 214 1528 := X_at (r := mi214) rfl rfl
set_option maxRecDepth 20000 in
theorem x214_1529 {z : P0} : X z 214 1529 = XI mT z (X z) (.iconst 0, 1, 0, 0, 0, [], nI 0, 0) 214 1529 := X_at (r := mi214) rfl rfl
set_option maxRecDepth 20000 in
theorem x214_1530 {z : P0} : X z 214 1530 = XI mT z (X z) (.laload, 1, 0, 0, 0, [], 0, 0) 214 1530 := X_at (r := mi214) rfl rfl
set_option maxRecDepth 20000 in
theorem x214_1531 {z : P0} : X z 214 1531 = XI mT z (X z) (.iload 6, 2, 6, 0, 0, [], 0, 0) 214 1531 := X_at (r := mi214) rfl rfl
set_option maxRecDepth 20000 in
theorem x214_1533 {z : P0} : X z 214 1533 = XI mT z (X z) (.i2l, 1, 0, 0, 0, [], 0, 0) 214 1533 := X_at (r := mi214) rfl rfl
set_option maxRecDepth 20000 in
theorem x214_1534 {z : P0} : X z 214 1534 = XI mT z (X z) (.lcmp, 1, 0, 0, 0, [], 0, 0) 214 1534 := X_at (r := mi214) rfl rfl
set_option maxRecDepth 20000 in
theorem x214_1535 {z : P0} : X z 214 1535 = XI mT z (X z) (.ifCond .eq 5, 3, 1540, 0, 0, [], 0, 0) 214 1535 := X_at (r := mi214) rfl rfl
set_option maxRecDepth 20000 in
theorem x214_1538 {z : P0} : X z 214 1538 = XI mT z (X z) (.iconst 0, 1, 0, 0, 0, [], nI 0, 0) 214 1538 := X_at (r := mi214) rfl rfl
set_option maxRecDepth 20000 in
theorem x214_1539 {z : P0} : X z 214 1539 = XI mT z (X z) (.ireturn, 1, 0, 0, 0, [], 0, 0) 214 1539 := X_at (r := mi214) rfl rfl
set_option maxRecDepth 20000 in
theorem x214_1540 {z : P0} : X z 214 1540 = XI mT z (X z) (.goto 58, 3, 1598, 0, 0, [], 0, 0) 214 1540 := X_at (r := mi214) rfl rfl
set_option maxRecDepth 20000 in
theorem x214_1543 {z : P0} : X z 214 1543 = XI mT z (X z) (.aload_n 1, 1, 1, 0, 0, [], 0, 0) 214 1543 := X_at (r := mi214) rfl rfl
set_option maxRecDepth 20000 in
theorem x214_1544 {z : P0} : X z 214 1544 = XI mT z (X z) (.invokevirtual 178, 3, 0, 83, 0, [239], 0, 0) 214 1544 := X_at (r := mi214) rfl rfl
set_option maxRecDepth 20000 in
theorem x214_1547 {z : P0} : X z 214 1547 = XI mT z (X z) (.dstore 5, 2, 5, 0, 0, [], 0, 0) 214 1547 := X_at (r := mi214) rfl rfl
set_option maxRecDepth 20000 in
theorem x214_1549 {z : P0} : X z 214 1549 = XI mT z (X z) (.aload_n 2, 1, 2, 0, 0, [], 0, 0) 214 1549 := X_at (r := mi214) rfl rfl
set_option maxRecDepth 20000 in
theorem x214_1550 {z : P0} : X z 214 1550 = XI mT z (X z) (.invokevirtual 182, 3, 0, 177, 0, [240], 0, 0) 214 1550 := X_at (r := mi214) rfl rfl
set_option maxRecDepth 20000 in
theorem x214_1553 {z : P0} : X z 214 1553 = XI mT z (X z) (.dstore 7, 2, 7, 0, 0, [], 0, 0) 214 1553 := X_at (r := mi214) rfl rfl
set_option maxRecDepth 20000 in
theorem x214_1555 {z : P0} : X z 214 1555 = XI mT z (X z) (.dload 5, 2, 5, 0, 0, [], 0, 0) 214 1555 := X_at (r := mi214) rfl rfl
set_option maxRecDepth 20000 in
theorem x214_1557 {z : P0} : X z 214 1557 = XI mT z (X z) (.dload 7, 2, 7, 0, 0, [], 0, 0) 214 1557 := X_at (r := mi214) rfl rfl
set_option maxRecDepth 20000 in
theorem x214_1559 {z : P0} : X z 214 1559 = XI mT z (X z) (.dcmp .l, 1, 0, 0, 0, [], 0, 0) 214 1559 := X_at (r := mi214) rfl rfl
set_option maxRecDepth 20000 in
theorem x214_1560 {z : P0} : X z 214 1560 = XI mT z (X z) (.ifCond .eq 21, 3, 1581, 0, 0, [], 0, 0) 214 1560 := X_at (r := mi214) rfl rfl
set_option maxRecDepth 20000 in
theorem x214_1563 {z : P0} : X z 214 1563 = XI mT z (X z) (.dload 5, 2, 5, 0, 0, [], 0, 0) 214 1563 := X_at (r := mi214) rfl rfl
set_option maxRecDepth 20000 in
theorem x214_1565 {z : P0} : X z 214 1565 = XI mT z (X z) (.dload 5, 2, 5, 0, 0, [], 0, 0) 214 1565 := X_at (r := mi214) rfl rfl
set_option maxRecDepth 20000 in
theorem x214_1567 {z : P0} : X z 214 1567 = XI mT z (X z) (.dcmp .l, 1, 0, 0, 0, [], 0, 0) 214 1567 := X_at (r := mi214) rfl rfl
set_option maxRecDepth 20000 in
theorem x214_1568 {z : P0} : X z 214 1568 = XI mT z (X z) (.ifCond .eq 11, 3, 1579, 0, 0, [], 0, 0) 214 1568 := X_at (r := mi214) rfl rfl
set_option maxRecDepth 20000 in
theorem x214_1571 {z : P0} : X z 214 1571 = XI mT z (X z) (.dload 7, 2, 7, 0, 0, [], 0, 0) 214 1571 := X_at (r := mi214) rfl rfl
set_option maxRecDepth 20000 in
theorem x214_1573 {z : P0} : X z 214 1573 = XI mT z (X z) (.dload 7, 2, 7, 0, 0, [], 0, 0) 214 1573 := X_at (r := mi214) rfl rfl
set_option maxRecDepth 20000 in
theorem x214_1575 {z : P0} : X z 214 1575 = XI mT z (X z) (.dcmp .l, 1, 0, 0, 0, [], 0, 0) 214 1575 := X_at (r := mi214) rfl rfl
set_option maxRecDepth 20000 in
theorem x214_1576 {z : P0} : X z 214 1576 = XI mT z (X z) (.ifCond .ne 5, 3, 1581, 0, 0, [], 0, 0) 214 1576 := X_at (r := mi214) rfl rfl
set_option maxRecDepth 20000 in
theorem x214_1579 {z : P0} : X z 214 1579 = XI mT z (X z) (.iconst 0, 1, 0, 0, 0, [], nI 0, 0) 214 1579 := X_at (r := mi214) rfl rfl
set_option maxRecDepth 20000 in
theorem x214_1580 {z : P0} : X z 214 1580 = XI mT z (X z) (.ireturn, 1, 0, 0, 0, [], 0, 0) 214 1580 := X_at (r := mi214) rfl rfl
set_option maxRecDepth 20000 in
theorem x214_1581 {z : P0} : X z 214 1581 = XI mT z (X z) (.goto 17, 3, 1598, 0, 0, [], 0, 0) 214 1581 := X_at (r := mi214) rfl rfl
set_option maxRecDepth 20000 in
theorem x214_1584 {z : P0} : X z 214 1584 = XI mT z (X z) (.aload_n 1, 1, 1, 0, 0, [], 0, 0) 214 1584 := X_at (r := mi214) rfl rfl
set_option maxRecDepth 20000 in
theorem x214_1585 {z : P0} : X z 214 1585 = XI mT z (X z) (.invokevirtual 183, 3, 0, 84, 0, [241], 0, 0) 214 1585 := X_at (r := mi214) rfl rfl
set_option maxRecDepth 20000 in
theorem x214_1588 {z : P0} : X z 214 1588 = XI mT z (X z) (.aload_n 2, 1, 2, 0, 0, [], 0, 0) 214 1588 := X_at (r := mi214) rfl rfl
set_option maxRecDepth 20000 in
theorem x214_1589 {z : P0} : X z 214 1589 = XI mT z (X z) (.invokevirtual 187, 3, 0, 181, 0, [242], 0, 0) 214 1589 := X_at (r := mi214) rfl rfl
set_option maxRecDepth 20000 in
theorem x214_1592 {z : P0} : X z 214 1592 = XI mT z (X z) (.lcmp, 1, 0, 0, 0, [], 0, 0) 214 1592 := X_at (r := mi214) rfl rfl
set_option maxRecDepth 20000 in
theorem x214_1593 {z : P0} : X z 214 1593 = XI mT z (X z) (.ifCond .eq 5, 3, 1598, 0, 0, [], 0, 0) 214 1593 := X_at (r := mi214) rfl rfl
set_option maxRecDepth 20000 in
theorem x214_1596 {z : P0} : X z 214 1596 = XI mT z (X z) (.iconst 0, 1, 0, 0, 0, [], nI 0, 0) 214 1596 := X_at (r := mi214) rfl rfl
set_option maxRecDepth 20000 in
theorem x214_1597 {z : P0} : X z 214 1597 = XI mT z (X z) (.ireturn, 1, 0, 0, 0, [], 0, 0) 214 1597 := X_at (r := mi214) rfl rfl
set_option maxRecDepth 20000 in
theorem x214_1598 {z : P0} : X z 214 1598 = XI mT z (X z) (.iinc 4 4, 3, 4, 0, 0, [], nI 4, 0) 214 1598 := X_at (r := mi214) rfl rfl
set_option maxRecDepth 20000 in
theorem x214_1601 {z : P0} : X z 214 1601 = XI mT z (X z) (.goto (-1578), 3, 23, 0, 0, [], 0, 0) 214 1601 := X_at (r := mi214) rfl rfl
set_option maxRecDepth 20000 in
theorem x214_1604 {z : P0} : X z 214 1604 = XI mT z (X z) (.iconst 1, 1, 0, 0, 0, [], nI 1, 0) 214 1604 := X_at (r := mi214) rfl rfl
set_option maxRecDepth 20000 in
theorem x214_1605 {z : P0} : X z 214 1605 = XI mT z (X z) (.ireturn, 1, 0, 0, 0, [], 0, 0) 214 1605 := X_at (r := mi214) rfl rfl
