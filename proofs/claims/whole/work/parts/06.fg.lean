theorem pf_178_0 : pd_fetch 178 0 = some (.aload 2, 1) := by decide +kernel
theorem pf_178_1 : pd_fetch 178 1 = some (.iconst 0, 2) := by decide +kernel
theorem pf_178_2 : pd_fetch 178 2 = some (.aload 0, 3) := by decide +kernel
theorem pf_178_3 : pd_fetch 178 3 = some (.iload 1, 4) := by decide +kernel
theorem pf_178_4 : pd_fetch 178 4 = some (.invokevirtual 63, 7) := by decide +kernel
theorem pf_178_7 : pd_fetch 178 7 = some (.i2l, 8) := by decide +kernel
theorem pf_178_8 : pd_fetch 178 8 = some (.lastore, 9) := by decide +kernel
theorem pf_178_9 : pd_fetch 178 9 = some (.goto (Int.ofNat 18), 12) := by decide +kernel
theorem pf_178_12 : pd_fetch 178 12 = some (.astore 3, 13) := by decide +kernel
theorem pf_178_13 : pd_fetch 178 13 = some (.iconst 1, 14) := by decide +kernel
theorem pf_178_14 : pd_fetch 178 14 = some (.ireturn, 15) := by decide +kernel
theorem pf_178_15 : pd_fetch 178 15 = some (.astore 3, 16) := by decide +kernel
theorem pf_178_16 : pd_fetch 178 16 = some (.iconst 2, 17) := by decide +kernel
theorem pf_178_17 : pd_fetch 178 17 = some (.ireturn, 18) := by decide +kernel
theorem pf_178_18 : pd_fetch 178 18 = some (.iconst 0, 19) := by decide +kernel
theorem pf_178_19 : pd_fetch 178 19 = some (.ireturn, 20) := by decide +kernel
theorem pf_179_0 : pd_fetch 179 0 = some (.aload 1, 1) := by decide +kernel
theorem pf_179_1 : pd_fetch 179 1 = some (.iconst 0, 2) := by decide +kernel
theorem pf_179_2 : pd_fetch 179 2 = some (.aload 0, 3) := by decide +kernel
theorem pf_179_3 : pd_fetch 179 3 = some (.invokevirtual 66, 6) := by decide +kernel
theorem pf_179_6 : pd_fetch 179 6 = some (.i2l, 7) := by decide +kernel
theorem pf_179_7 : pd_fetch 179 7 = some (.lastore, 8) := by decide +kernel
theorem pf_179_8 : pd_fetch 179 8 = some (.goto (Int.ofNat 14), 11) := by decide +kernel
theorem pf_179_11 : pd_fetch 179 11 = some (.astore 2, 12) := by decide +kernel
theorem pf_179_12 : pd_fetch 179 12 = some (.iconst 1, 13) := by decide +kernel
theorem pf_179_13 : pd_fetch 179 13 = some (.ireturn, 14) := by decide +kernel
theorem pf_179_14 : pd_fetch 179 14 = some (.iconst 0, 15) := by decide +kernel
theorem pf_179_15 : pd_fetch 179 15 = some (.ireturn, 16) := by decide +kernel
theorem pf_180_0 : pd_fetch 180 0 = some (.aload 2, 1) := by decide +kernel
theorem pf_180_1 : pd_fetch 180 1 = some (.iconst 0, 2) := by decide +kernel
theorem pf_180_2 : pd_fetch 180 2 = some (.aload 0, 3) := by decide +kernel
theorem pf_180_3 : pd_fetch 180 3 = some (.iload 1, 4) := by decide +kernel
theorem pf_180_4 : pd_fetch 180 4 = some (.invokevirtual 67, 7) := by decide +kernel
theorem pf_180_7 : pd_fetch 180 7 = some (.i2l, 8) := by decide +kernel
theorem pf_180_8 : pd_fetch 180 8 = some (.lastore, 9) := by decide +kernel
theorem pf_180_9 : pd_fetch 180 9 = some (.goto (Int.ofNat 15), 12) := by decide +kernel
theorem pf_180_12 : pd_fetch 180 12 = some (.astore 3, 13) := by decide +kernel
theorem pf_180_13 : pd_fetch 180 13 = some (.iconst 1, 14) := by decide +kernel
theorem pf_180_14 : pd_fetch 180 14 = some (.ireturn, 15) := by decide +kernel
theorem pf_180_15 : pd_fetch 180 15 = some (.iconst 0, 16) := by decide +kernel
theorem pf_180_16 : pd_fetch 180 16 = some (.ireturn, 17) := by decide +kernel
theorem pf_181_0 : pd_fetch 181 0 = some (.aload 3, 1) := by decide +kernel
theorem pf_181_1 : pd_fetch 181 1 = some (.iconst 0, 2) := by decide +kernel
theorem pf_181_2 : pd_fetch 181 2 = some (.aload 0, 3) := by decide +kernel
theorem pf_181_3 : pd_fetch 181 3 = some (.iload 1, 4) := by decide +kernel
theorem pf_181_4 : pd_fetch 181 4 = some (.iload 2, 5) := by decide +kernel
theorem pf_181_5 : pd_fetch 181 5 = some (.invokevirtual 68, 8) := by decide +kernel
theorem pf_181_8 : pd_fetch 181 8 = some (.i2l, 9) := by decide +kernel
theorem pf_181_9 : pd_fetch 181 9 = some (.lastore, 10) := by decide +kernel
theorem pf_181_10 : pd_fetch 181 10 = some (.goto (Int.ofNat 17), 13) := by decide +kernel
theorem pf_181_13 : pd_fetch 181 13 = some (.astore 4, 15) := by decide +kernel
theorem pf_181_15 : pd_fetch 181 15 = some (.iconst 1, 16) := by decide +kernel
theorem pf_181_16 : pd_fetch 181 16 = some (.ireturn, 17) := by decide +kernel
theorem pf_181_17 : pd_fetch 181 17 = some (.iconst 0, 18) := by decide +kernel
theorem pf_181_18 : pd_fetch 181 18 = some (.ireturn, 19) := by decide +kernel
theorem pf_182_0 : pd_fetch 182 0 = some (.aload 3, 1) := by decide +kernel
theorem pf_182_1 : pd_fetch 182 1 = some (.iconst 0, 2) := by decide +kernel
theorem pf_182_2 : pd_fetch 182 2 = some (.aload 0, 3) := by decide +kernel
theorem pf_182_3 : pd_fetch 182 3 = some (.iload 1, 4) := by decide +kernel
theorem pf_182_4 : pd_fetch 182 4 = some (.iload 2, 5) := by decide +kernel
theorem pf_182_5 : pd_fetch 182 5 = some (.invokevirtual 69, 8) := by decide +kernel
theorem pf_182_8 : pd_fetch 182 8 = some (.i2l, 9) := by decide +kernel
theorem pf_182_9 : pd_fetch 182 9 = some (.lastore, 10) := by decide +kernel
theorem pf_182_10 : pd_fetch 182 10 = some (.goto (Int.ofNat 17), 13) := by decide +kernel
theorem pf_182_13 : pd_fetch 182 13 = some (.astore 4, 15) := by decide +kernel
theorem pf_182_15 : pd_fetch 182 15 = some (.iconst 1, 16) := by decide +kernel
theorem pf_182_16 : pd_fetch 182 16 = some (.ireturn, 17) := by decide +kernel
theorem pf_182_17 : pd_fetch 182 17 = some (.iconst 0, 18) := by decide +kernel
theorem pf_182_18 : pd_fetch 182 18 = some (.ireturn, 19) := by decide +kernel
theorem pf_183_0 : pd_fetch 183 0 = some (.aload 3, 1) := by decide +kernel
theorem pf_183_1 : pd_fetch 183 1 = some (.iconst 0, 2) := by decide +kernel
theorem pf_183_2 : pd_fetch 183 2 = some (.aload 0, 3) := by decide +kernel
theorem pf_183_3 : pd_fetch 183 3 = some (.iload 1, 4) := by decide +kernel
theorem pf_183_4 : pd_fetch 183 4 = some (.iload 2, 5) := by decide +kernel
theorem pf_183_5 : pd_fetch 183 5 = some (.invokevirtual 70, 8) := by decide +kernel
theorem pf_183_8 : pd_fetch 183 8 = some (.i2l, 9) := by decide +kernel
theorem pf_183_9 : pd_fetch 183 9 = some (.lastore, 10) := by decide +kernel
theorem pf_183_10 : pd_fetch 183 10 = some (.goto (Int.ofNat 21), 13) := by decide +kernel
theorem pf_183_13 : pd_fetch 183 13 = some (.astore 4, 15) := by decide +kernel
theorem pf_183_15 : pd_fetch 183 15 = some (.iconst 1, 16) := by decide +kernel
theorem pf_183_16 : pd_fetch 183 16 = some (.ireturn, 17) := by decide +kernel
theorem pf_183_17 : pd_fetch 183 17 = some (.astore 4, 19) := by decide +kernel
theorem pf_183_19 : pd_fetch 183 19 = some (.iconst 2, 20) := by decide +kernel
theorem pf_183_20 : pd_fetch 183 20 = some (.ireturn, 21) := by decide +kernel
theorem pf_183_21 : pd_fetch 183 21 = some (.iconst 0, 22) := by decide +kernel
theorem pf_183_22 : pd_fetch 183 22 = some (.ireturn, 23) := by decide +kernel
theorem pf_184_0 : pd_fetch 184 0 = some (.aload 2, 1) := by decide +kernel
theorem pf_184_1 : pd_fetch 184 1 = some (.iconst 0, 2) := by decide +kernel
theorem pf_184_2 : pd_fetch 184 2 = some (.aload 0, 3) := by decide +kernel
theorem pf_184_3 : pd_fetch 184 3 = some (.iload 1, 4) := by decide +kernel
theorem pf_184_4 : pd_fetch 184 4 = some (.invokevirtual 72, 7) := by decide +kernel
theorem pf_184_7 : pd_fetch 184 7 = some (.i2l, 8) := by decide +kernel
theorem pf_184_8 : pd_fetch 184 8 = some (.lastore, 9) := by decide +kernel
theorem pf_184_9 : pd_fetch 184 9 = some (.goto (Int.ofNat 18), 12) := by decide +kernel
theorem pf_184_12 : pd_fetch 184 12 = some (.astore 3, 13) := by decide +kernel
theorem pf_184_13 : pd_fetch 184 13 = some (.iconst 1, 14) := by decide +kernel
theorem pf_184_14 : pd_fetch 184 14 = some (.ireturn, 15) := by decide +kernel
theorem pf_184_15 : pd_fetch 184 15 = some (.astore 3, 16) := by decide +kernel
theorem pf_184_16 : pd_fetch 184 16 = some (.iconst 2, 17) := by decide +kernel
theorem pf_184_17 : pd_fetch 184 17 = some (.ireturn, 18) := by decide +kernel
theorem pf_184_18 : pd_fetch 184 18 = some (.iconst 0, 19) := by decide +kernel
theorem pf_184_19 : pd_fetch 184 19 = some (.ireturn, 20) := by decide +kernel
theorem pf_185_0 : pd_fetch 185 0 = some (.aload 3, 1) := by decide +kernel
theorem pf_185_1 : pd_fetch 185 1 = some (.iconst 0, 2) := by decide +kernel
theorem pf_185_2 : pd_fetch 185 2 = some (.aload 0, 3) := by decide +kernel
theorem pf_185_3 : pd_fetch 185 3 = some (.iload 1, 4) := by decide +kernel
theorem pf_185_4 : pd_fetch 185 4 = some (.iload 2, 5) := by decide +kernel
theorem pf_185_5 : pd_fetch 185 5 = some (.invokevirtual 73, 8) := by decide +kernel
theorem pf_185_8 : pd_fetch 185 8 = some (.i2l, 9) := by decide +kernel
theorem pf_185_9 : pd_fetch 185 9 = some (.lastore, 10) := by decide +kernel
theorem pf_185_10 : pd_fetch 185 10 = some (.goto (Int.ofNat 17), 13) := by decide +kernel
theorem pf_185_13 : pd_fetch 185 13 = some (.astore 4, 15) := by decide +kernel
theorem pf_185_15 : pd_fetch 185 15 = some (.iconst 1, 16) := by decide +kernel
theorem pf_185_16 : pd_fetch 185 16 = some (.ireturn, 17) := by decide +kernel
theorem pf_185_17 : pd_fetch 185 17 = some (.iconst 0, 18) := by decide +kernel
theorem pf_185_18 : pd_fetch 185 18 = some (.ireturn, 19) := by decide +kernel
theorem pf_186_0 : pd_fetch 186 0 = some (.aload 4, 2) := by decide +kernel
theorem pf_186_2 : pd_fetch 186 2 = some (.iconst 0, 3) := by decide +kernel
theorem pf_186_3 : pd_fetch 186 3 = some (.aload 0, 4) := by decide +kernel
theorem pf_186_4 : pd_fetch 186 4 = some (.iload 1, 5) := by decide +kernel
theorem pf_186_5 : pd_fetch 186 5 = some (.iload 2, 6) := by decide +kernel
theorem pf_186_6 : pd_fetch 186 6 = some (.iload 3, 7) := by decide +kernel
theorem pf_186_7 : pd_fetch 186 7 = some (.invokevirtual 74, 10) := by decide +kernel
theorem pf_186_10 : pd_fetch 186 10 = some (.i2l, 11) := by decide +kernel
theorem pf_186_11 : pd_fetch 186 11 = some (.lastore, 12) := by decide +kernel
theorem pf_186_12 : pd_fetch 186 12 = some (.goto (Int.ofNat 23), 15) := by decide +kernel
theorem pf_186_15 : pd_fetch 186 15 = some (.astore 5, 17) := by decide +kernel
theorem pf_186_17 : pd_fetch 186 17 = some (.iconst 1, 18) := by decide +kernel
theorem pf_186_18 : pd_fetch 186 18 = some (.ireturn, 19) := by decide +kernel
theorem pf_186_19 : pd_fetch 186 19 = some (.astore 5, 21) := by decide +kernel
theorem pf_186_21 : pd_fetch 186 21 = some (.iconst 2, 22) := by decide +kernel
theorem pf_186_22 : pd_fetch 186 22 = some (.ireturn, 23) := by decide +kernel
theorem pf_186_23 : pd_fetch 186 23 = some (.iconst 0, 24) := by decide +kernel
theorem pf_186_24 : pd_fetch 186 24 = some (.ireturn, 25) := by decide +kernel
theorem pf_187_0 : pd_fetch 187 0 = some (.aload 2, 1) := by decide +kernel
theorem pf_187_1 : pd_fetch 187 1 = some (.iconst 0, 2) := by decide +kernel
theorem pf_187_2 : pd_fetch 187 2 = some (.aload 0, 3) := by decide +kernel
theorem pf_187_3 : pd_fetch 187 3 = some (.iload 1, 4) := by decide +kernel
theorem pf_187_4 : pd_fetch 187 4 = some (.invokevirtual 75, 7) := by decide +kernel
theorem pf_187_7 : pd_fetch 187 7 = some (.i2l, 8) := by decide +kernel
theorem pf_187_8 : pd_fetch 187 8 = some (.lastore, 9) := by decide +kernel
theorem pf_187_9 : pd_fetch 187 9 = some (.goto (Int.ofNat 15), 12) := by decide +kernel
theorem pf_187_12 : pd_fetch 187 12 = some (.astore 3, 13) := by decide +kernel
theorem pf_187_13 : pd_fetch 187 13 = some (.iconst 1, 14) := by decide +kernel
theorem pf_187_14 : pd_fetch 187 14 = some (.ireturn, 15) := by decide +kernel
theorem pf_187_15 : pd_fetch 187 15 = some (.iconst 0, 16) := by decide +kernel
theorem pf_187_16 : pd_fetch 187 16 = some (.ireturn, 17) := by decide +kernel
theorem pf_188_0 : pd_fetch 188 0 = some (.aload 4, 2) := by decide +kernel
theorem pf_188_2 : pd_fetch 188 2 = some (.iconst 0, 3) := by decide +kernel
theorem pf_188_3 : pd_fetch 188 3 = some (.aload 0, 4) := by decide +kernel
theorem pf_188_4 : pd_fetch 188 4 = some (.iload 1, 5) := by decide +kernel
theorem pf_188_5 : pd_fetch 188 5 = some (.iload 2, 6) := by decide +kernel
theorem pf_188_6 : pd_fetch 188 6 = some (.iload 3, 7) := by decide +kernel
theorem pf_188_7 : pd_fetch 188 7 = some (.invokevirtual 76, 10) := by decide +kernel
theorem pf_188_10 : pd_fetch 188 10 = some (.i2l, 11) := by decide +kernel
theorem pf_188_11 : pd_fetch 188 11 = some (.lastore, 12) := by decide +kernel
theorem pf_188_12 : pd_fetch 188 12 = some (.goto (Int.ofNat 23), 15) := by decide +kernel
theorem pf_188_15 : pd_fetch 188 15 = some (.astore 5, 17) := by decide +kernel
theorem pf_188_17 : pd_fetch 188 17 = some (.iconst 1, 18) := by decide +kernel
theorem pf_188_18 : pd_fetch 188 18 = some (.ireturn, 19) := by decide +kernel
theorem pf_188_19 : pd_fetch 188 19 = some (.astore 5, 21) := by decide +kernel
theorem pf_188_21 : pd_fetch 188 21 = some (.iconst 2, 22) := by decide +kernel
theorem pf_188_22 : pd_fetch 188 22 = some (.ireturn, 23) := by decide +kernel
theorem pf_188_23 : pd_fetch 188 23 = some (.iconst 0, 24) := by decide +kernel
theorem pf_188_24 : pd_fetch 188 24 = some (.ireturn, 25) := by decide +kernel
theorem pf_189_0 : pd_fetch 189 0 = some (.aload 1, 1) := by decide +kernel
theorem pf_189_1 : pd_fetch 189 1 = some (.iconst 0, 2) := by decide +kernel
theorem pf_189_2 : pd_fetch 189 2 = some (.aload 0, 3) := by decide +kernel
theorem pf_189_3 : pd_fetch 189 3 = some (.invokevirtual 77, 6) := by decide +kernel
theorem pf_189_6 : pd_fetch 189 6 = some (.i2l, 7) := by decide +kernel
theorem pf_189_7 : pd_fetch 189 7 = some (.lastore, 8) := by decide +kernel
theorem pf_189_8 : pd_fetch 189 8 = some (.goto (Int.ofNat 14), 11) := by decide +kernel
theorem pf_189_11 : pd_fetch 189 11 = some (.astore 2, 12) := by decide +kernel
theorem pf_189_12 : pd_fetch 189 12 = some (.iconst 1, 13) := by decide +kernel
theorem pf_189_13 : pd_fetch 189 13 = some (.ireturn, 14) := by decide +kernel
theorem pf_189_14 : pd_fetch 189 14 = some (.iconst 0, 15) := by decide +kernel
theorem pf_189_15 : pd_fetch 189 15 = some (.ireturn, 16) := by decide +kernel
theorem pf_190_0 : pd_fetch 190 0 = some (.aload 2, 1) := by decide +kernel
theorem pf_190_1 : pd_fetch 190 1 = some (.iconst 0, 2) := by decide +kernel
theorem pf_190_2 : pd_fetch 190 2 = some (.aload 0, 3) := by decide +kernel
theorem pf_190_3 : pd_fetch 190 3 = some (.iload 1, 4) := by decide +kernel
theorem pf_190_4 : pd_fetch 190 4 = some (.invokevirtual 78, 7) := by decide +kernel
theorem pf_190_7 : pd_fetch 190 7 = some (.i2l, 8) := by decide +kernel
theorem pf_190_8 : pd_fetch 190 8 = some (.lastore, 9) := by decide +kernel
theorem pf_190_9 : pd_fetch 190 9 = some (.goto (Int.ofNat 15), 12) := by decide +kernel
theorem pf_190_12 : pd_fetch 190 12 = some (.astore 3, 13) := by decide +kernel
theorem pf_190_13 : pd_fetch 190 13 = some (.iconst 1, 14) := by decide +kernel
theorem pf_190_14 : pd_fetch 190 14 = some (.ireturn, 15) := by decide +kernel
theorem pf_190_15 : pd_fetch 190 15 = some (.iconst 0, 16) := by decide +kernel
theorem pf_190_16 : pd_fetch 190 16 = some (.ireturn, 17) := by decide +kernel
theorem pf_191_0 : pd_fetch 191 0 = some (.aload 2, 1) := by decide +kernel
theorem pf_191_1 : pd_fetch 191 1 = some (.iconst 0, 2) := by decide +kernel
theorem pf_191_2 : pd_fetch 191 2 = some (.aload 0, 3) := by decide +kernel
theorem pf_191_3 : pd_fetch 191 3 = some (.iload 1, 4) := by decide +kernel
theorem pf_191_4 : pd_fetch 191 4 = some (.invokevirtual 79, 7) := by decide +kernel
theorem pf_191_7 : pd_fetch 191 7 = some (.i2l, 8) := by decide +kernel
theorem pf_191_8 : pd_fetch 191 8 = some (.lastore, 9) := by decide +kernel
theorem pf_191_9 : pd_fetch 191 9 = some (.goto (Int.ofNat 15), 12) := by decide +kernel
theorem pf_191_12 : pd_fetch 191 12 = some (.astore 3, 13) := by decide +kernel
theorem pf_191_13 : pd_fetch 191 13 = some (.iconst 1, 14) := by decide +kernel
theorem pf_191_14 : pd_fetch 191 14 = some (.ireturn, 15) := by decide +kernel
theorem pf_191_15 : pd_fetch 191 15 = some (.iconst 0, 16) := by decide +kernel
theorem pf_191_16 : pd_fetch 191 16 = some (.ireturn, 17) := by decide +kernel
theorem pf_192_0 : pd_fetch 192 0 = some (.aload 3, 1) := by decide +kernel
theorem pf_192_1 : pd_fetch 192 1 = some (.iconst 0, 2) := by decide +kernel
theorem pf_192_2 : pd_fetch 192 2 = some (.aload 0, 3) := by decide +kernel
theorem pf_192_3 : pd_fetch 192 3 = some (.iload 1, 4) := by decide +kernel
theorem pf_192_4 : pd_fetch 192 4 = some (.iload 2, 5) := by decide +kernel
theorem pf_192_5 : pd_fetch 192 5 = some (.invokevirtual 80, 8) := by decide +kernel
theorem pf_192_8 : pd_fetch 192 8 = some (.lastore, 9) := by decide +kernel
theorem pf_192_9 : pd_fetch 192 9 = some (.goto (Int.ofNat 16), 12) := by decide +kernel
theorem pf_192_12 : pd_fetch 192 12 = some (.astore 4, 14) := by decide +kernel
theorem pf_192_14 : pd_fetch 192 14 = some (.iconst 1, 15) := by decide +kernel
theorem pf_192_15 : pd_fetch 192 15 = some (.ireturn, 16) := by decide +kernel
theorem pf_192_16 : pd_fetch 192 16 = some (.iconst 0, 17) := by decide +kernel
theorem pf_192_17 : pd_fetch 192 17 = some (.ireturn, 18) := by decide +kernel
theorem pf_193_0 : pd_fetch 193 0 = some (.aload 5, 2) := by decide +kernel
theorem pf_193_2 : pd_fetch 193 2 = some (.iconst 0, 3) := by decide +kernel
theorem pf_193_3 : pd_fetch 193 3 = some (.aload 0, 4) := by decide +kernel
theorem pf_193_4 : pd_fetch 193 4 = some (.iload 1, 5) := by decide +kernel
theorem pf_193_5 : pd_fetch 193 5 = some (.iload 2, 6) := by decide +kernel
theorem pf_193_6 : pd_fetch 193 6 = some (.iload 3, 7) := by decide +kernel
theorem pf_193_7 : pd_fetch 193 7 = some (.iload 4, 9) := by decide +kernel
theorem pf_193_9 : pd_fetch 193 9 = some (.invokevirtual 86, 12) := by decide +kernel
theorem pf_193_12 : pd_fetch 193 12 = some (.i2l, 13) := by decide +kernel
theorem pf_193_13 : pd_fetch 193 13 = some (.lastore, 14) := by decide +kernel
theorem pf_193_14 : pd_fetch 193 14 = some (.goto (Int.ofNat 21), 17) := by decide +kernel
theorem pf_193_17 : pd_fetch 193 17 = some (.astore 6, 19) := by decide +kernel
theorem pf_193_19 : pd_fetch 193 19 = some (.iconst 1, 20) := by decide +kernel
theorem pf_193_20 : pd_fetch 193 20 = some (.ireturn, 21) := by decide +kernel
theorem pf_193_21 : pd_fetch 193 21 = some (.iconst 0, 22) := by decide +kernel
theorem pf_193_22 : pd_fetch 193 22 = some (.ireturn, 23) := by decide +kernel
theorem pf_194_0 : pd_fetch 194 0 = some (.aload 4, 2) := by decide +kernel
theorem pf_194_2 : pd_fetch 194 2 = some (.iconst 0, 3) := by decide +kernel
theorem pf_194_3 : pd_fetch 194 3 = some (.aload 0, 4) := by decide +kernel
theorem pf_194_4 : pd_fetch 194 4 = some (.iload 1, 5) := by decide +kernel
theorem pf_194_5 : pd_fetch 194 5 = some (.iload 2, 6) := by decide +kernel
theorem pf_194_6 : pd_fetch 194 6 = some (.iload 3, 7) := by decide +kernel
theorem pf_194_7 : pd_fetch 194 7 = some (.invokevirtual 88, 10) := by decide +kernel
theorem pf_194_10 : pd_fetch 194 10 = some (.lastore, 11) := by decide +kernel
theorem pf_194_11 : pd_fetch 194 11 = some (.goto (Int.ofNat 18), 14) := by decide +kernel
theorem pf_194_14 : pd_fetch 194 14 = some (.astore 5, 16) := by decide +kernel
theorem pf_194_16 : pd_fetch 194 16 = some (.iconst 1, 17) := by decide +kernel
theorem pf_194_17 : pd_fetch 194 17 = some (.ireturn, 18) := by decide +kernel
theorem pf_194_18 : pd_fetch 194 18 = some (.iconst 0, 19) := by decide +kernel
theorem pf_194_19 : pd_fetch 194 19 = some (.ireturn, 20) := by decide +kernel
theorem pf_195_0 : pd_fetch 195 0 = some (.aload 3, 1) := by decide +kernel
theorem pf_195_1 : pd_fetch 195 1 = some (.iconst 0, 2) := by decide +kernel
theorem pf_195_2 : pd_fetch 195 2 = some (.aload 0, 3) := by decide +kernel
theorem pf_195_3 : pd_fetch 195 3 = some (.iload 1, 4) := by decide +kernel
theorem pf_195_4 : pd_fetch 195 4 = some (.iload 2, 5) := by decide +kernel
theorem pf_195_5 : pd_fetch 195 5 = some (.invokevirtual 89, 8) := by decide +kernel
theorem pf_195_8 : pd_fetch 195 8 = some (.lastore, 9) := by decide +kernel
theorem pf_195_9 : pd_fetch 195 9 = some (.goto (Int.ofNat 16), 12) := by decide +kernel
theorem pf_195_12 : pd_fetch 195 12 = some (.astore 4, 14) := by decide +kernel
theorem pf_195_14 : pd_fetch 195 14 = some (.iconst 1, 15) := by decide +kernel
theorem pf_195_15 : pd_fetch 195 15 = some (.ireturn, 16) := by decide +kernel
theorem pf_195_16 : pd_fetch 195 16 = some (.iconst 0, 17) := by decide +kernel
theorem pf_195_17 : pd_fetch 195 17 = some (.ireturn, 18) := by decide +kernel
theorem pf_196_0 : pd_fetch 196 0 = some (.aload 4, 2) := by decide +kernel
theorem pf_196_2 : pd_fetch 196 2 = some (.iconst 0, 3) := by decide +kernel
theorem pf_196_3 : pd_fetch 196 3 = some (.aload 0, 4) := by decide +kernel
theorem pf_196_4 : pd_fetch 196 4 = some (.iload 1, 5) := by decide +kernel
theorem pf_196_5 : pd_fetch 196 5 = some (.lload 2, 6) := by decide +kernel
theorem pf_196_6 : pd_fetch 196 6 = some (.invokevirtual 90, 9) := by decide +kernel
theorem pf_196_9 : pd_fetch 196 9 = some (.i2l, 10) := by decide +kernel
theorem pf_196_10 : pd_fetch 196 10 = some (.lastore, 11) := by decide +kernel
theorem pf_196_11 : pd_fetch 196 11 = some (.goto (Int.ofNat 18), 14) := by decide +kernel
theorem pf_196_14 : pd_fetch 196 14 = some (.astore 5, 16) := by decide +kernel
theorem pf_196_16 : pd_fetch 196 16 = some (.iconst 1, 17) := by decide +kernel
theorem pf_196_17 : pd_fetch 196 17 = some (.ireturn, 18) := by decide +kernel
theorem pf_196_18 : pd_fetch 196 18 = some (.iconst 0, 19) := by decide +kernel
theorem pf_196_19 : pd_fetch 196 19 = some (.ireturn, 20) := by decide +kernel
theorem pf_197_0 : pd_fetch 197 0 = some (.aload 4, 2) := by decide +kernel
theorem pf_197_2 : pd_fetch 197 2 = some (.iconst 0, 3) := by decide +kernel
theorem pf_197_3 : pd_fetch 197 3 = some (.aload 0, 4) := by decide +kernel
theorem pf_197_4 : pd_fetch 197 4 = some (.iload 1, 5) := by decide +kernel
theorem pf_197_5 : pd_fetch 197 5 = some (.lload 2, 6) := by decide +kernel
theorem pf_197_6 : pd_fetch 197 6 = some (.invokevirtual 91, 9) := by decide +kernel
theorem pf_197_9 : pd_fetch 197 9 = some (.i2l, 10) := by decide +kernel
theorem pf_197_10 : pd_fetch 197 10 = some (.lastore, 11) := by decide +kernel
theorem pf_197_11 : pd_fetch 197 11 = some (.goto (Int.ofNat 18), 14) := by decide +kernel
theorem pf_197_14 : pd_fetch 197 14 = some (.astore 5, 16) := by decide +kernel
theorem pf_197_16 : pd_fetch 197 16 = some (.iconst 1, 17) := by decide +kernel
theorem pf_197_17 : pd_fetch 197 17 = some (.ireturn, 18) := by decide +kernel
theorem pf_197_18 : pd_fetch 197 18 = some (.iconst 0, 19) := by decide +kernel
theorem pf_197_19 : pd_fetch 197 19 = some (.ireturn, 20) := by decide +kernel
theorem pf_198_0 : pd_fetch 198 0 = some (.aload 4, 2) := by decide +kernel
theorem pf_198_2 : pd_fetch 198 2 = some (.iconst 0, 3) := by decide +kernel
theorem pf_198_3 : pd_fetch 198 3 = some (.aload 0, 4) := by decide +kernel
theorem pf_198_4 : pd_fetch 198 4 = some (.lload 1, 5) := by decide +kernel
theorem pf_198_5 : pd_fetch 198 5 = some (.iload 3, 6) := by decide +kernel
theorem pf_198_6 : pd_fetch 198 6 = some (.invokevirtual 92, 9) := by decide +kernel
theorem pf_198_9 : pd_fetch 198 9 = some (.lastore, 10) := by decide +kernel
theorem pf_198_10 : pd_fetch 198 10 = some (.goto (Int.ofNat 17), 13) := by decide +kernel
theorem pf_198_13 : pd_fetch 198 13 = some (.astore 5, 15) := by decide +kernel
theorem pf_198_15 : pd_fetch 198 15 = some (.iconst 1, 16) := by decide +kernel
theorem pf_198_16 : pd_fetch 198 16 = some (.ireturn, 17) := by decide +kernel
theorem pf_198_17 : pd_fetch 198 17 = some (.iconst 0, 18) := by decide +kernel
theorem pf_198_18 : pd_fetch 198 18 = some (.ireturn, 19) := by decide +kernel
theorem pf_199_0 : pd_fetch 199 0 = some (.aload 2, 1) := by decide +kernel
theorem pf_199_1 : pd_fetch 199 1 = some (.iconst 0, 2) := by decide +kernel
theorem pf_199_2 : pd_fetch 199 2 = some (.aload 0, 3) := by decide +kernel
theorem pf_199_3 : pd_fetch 199 3 = some (.iload 1, 4) := by decide +kernel
theorem pf_199_4 : pd_fetch 199 4 = some (.invokevirtual 93, 7) := by decide +kernel
theorem pf_199_7 : pd_fetch 199 7 = some (.i2l, 8) := by decide +kernel
theorem pf_199_8 : pd_fetch 199 8 = some (.lastore, 9) := by decide +kernel
theorem pf_199_9 : pd_fetch 199 9 = some (.goto (Int.ofNat 15), 12) := by decide +kernel
theorem pf_199_12 : pd_fetch 199 12 = some (.astore 3, 13) := by decide +kernel
theorem pf_199_13 : pd_fetch 199 13 = some (.iconst 1, 14) := by decide +kernel
theorem pf_199_14 : pd_fetch 199 14 = some (.ireturn, 15) := by decide +kernel
theorem pf_199_15 : pd_fetch 199 15 = some (.iconst 0, 16) := by decide +kernel
theorem pf_199_16 : pd_fetch 199 16 = some (.ireturn, 17) := by decide +kernel
theorem pf_200_0 : pd_fetch 200 0 = some (.aload 2, 1) := by decide +kernel
theorem pf_200_1 : pd_fetch 200 1 = some (.iconst 0, 2) := by decide +kernel
theorem pf_200_2 : pd_fetch 200 2 = some (.aload 0, 3) := by decide +kernel
theorem pf_200_3 : pd_fetch 200 3 = some (.iload 1, 4) := by decide +kernel
theorem pf_200_4 : pd_fetch 200 4 = some (.invokevirtual 94, 7) := by decide +kernel
theorem pf_200_7 : pd_fetch 200 7 = some (.i2l, 8) := by decide +kernel
theorem pf_200_8 : pd_fetch 200 8 = some (.lastore, 9) := by decide +kernel
theorem pf_200_9 : pd_fetch 200 9 = some (.goto (Int.ofNat 18), 12) := by decide +kernel
theorem pf_200_12 : pd_fetch 200 12 = some (.astore 3, 13) := by decide +kernel
theorem pf_200_13 : pd_fetch 200 13 = some (.iconst 1, 14) := by decide +kernel
theorem pf_200_14 : pd_fetch 200 14 = some (.ireturn, 15) := by decide +kernel
theorem pf_200_15 : pd_fetch 200 15 = some (.astore 3, 16) := by decide +kernel
theorem pf_200_16 : pd_fetch 200 16 = some (.iconst 2, 17) := by decide +kernel
theorem pf_200_17 : pd_fetch 200 17 = some (.ireturn, 18) := by decide +kernel
theorem pf_200_18 : pd_fetch 200 18 = some (.iconst 0, 19) := by decide +kernel
theorem pf_200_19 : pd_fetch 200 19 = some (.ireturn, 20) := by decide +kernel
