theorem pf_107_0 : pd_fetch 107 0 = some (.aload 0, 1) := by decide +kernel
theorem pf_107_1 : pd_fetch 107 1 = some (.getfield 600, 4) := by decide +kernel
theorem pf_107_4 : pd_fetch 107 4 = some (.ireturn, 5) := by decide +kernel
theorem pf_109_0 : pd_fetch 109 0 = some (.lload 0, 1) := by decide +kernel
theorem pf_109_1 : pd_fetch 109 1 = some (.lload 2, 2) := by decide +kernel
theorem pf_109_2 : pd_fetch 109 2 = some (.lcmp, 3) := by decide +kernel
theorem pf_109_3 : pd_fetch 109 3 = some (.ifCond .lt (Int.ofNat 17), 6) := by decide +kernel
theorem pf_109_6 : pd_fetch 109 6 = some (.lload 0, 7) := by decide +kernel
theorem pf_109_7 : pd_fetch 109 7 = some (.lload 4, 9) := by decide +kernel
theorem pf_109_9 : pd_fetch 109 9 = some (.lcmp, 10) := by decide +kernel
theorem pf_109_10 : pd_fetch 109 10 = some (.ifCond .gt (Int.ofNat 17), 13) := by decide +kernel
theorem pf_109_13 : pd_fetch 109 13 = some (.iconst 1, 14) := by decide +kernel
theorem pf_109_14 : pd_fetch 109 14 = some (.goto (Int.ofNat 18), 17) := by decide +kernel
theorem pf_109_17 : pd_fetch 109 17 = some (.iconst 0, 18) := by decide +kernel
theorem pf_109_18 : pd_fetch 109 18 = some (.ireturn, 19) := by decide +kernel
theorem pf_111_0 : pd_fetch 111 0 = some (.iload 1, 1) := by decide +kernel
theorem pf_111_1 : pd_fetch 111 1 = some (.i2l, 2) := by decide +kernel
theorem pf_111_2 : pd_fetch 111 2 = some (.jsr (0), 3) := by decide +kernel
theorem pf_111_3 : pd_fetch 111 3 = some (.aload 0, 4) := by decide +kernel
theorem pf_111_4 : pd_fetch 111 4 = some (.getfield 606, 7) := by decide +kernel
theorem pf_111_7 : pd_fetch 111 7 = some (.iconst 1, 8) := by decide +kernel
theorem pf_111_8 : pd_fetch 111 8 = some (.isub, 9) := by decide +kernel
theorem pf_111_9 : pd_fetch 111 9 = some (.i2l, 10) := by decide +kernel
theorem pf_111_10 : pd_fetch 111 10 = some (.invokestatic 109, 13) := by decide +kernel
theorem pf_111_13 : pd_fetch 111 13 = some (.ireturn, 14) := by decide +kernel
theorem pf_113_0 : pd_fetch 113 0 = some (.iconst (-100), 2) := by decide +kernel
theorem pf_113_2 : pd_fetch 113 2 = some (.aload 1, 3) := by decide +kernel
theorem pf_113_3 : pd_fetch 113 3 = some (.iconst 5, 4) := by decide +kernel
theorem pf_113_4 : pd_fetch 113 4 = some (.iload 2, 5) := by decide +kernel
theorem pf_113_5 : pd_fetch 113 5 = some (.imul, 6) := by decide +kernel
theorem pf_113_6 : pd_fetch 113 6 = some (.iconst 4, 7) := by decide +kernel
theorem pf_113_7 : pd_fetch 113 7 = some (.iadd, 8) := by decide +kernel
theorem pf_113_8 : pd_fetch 113 8 = some (.iaload, 9) := by decide +kernel
theorem pf_113_9 : pd_fetch 113 9 = some (.imul, 10) := by decide +kernel
theorem pf_113_10 : pd_fetch 113 10 = some (.istore 3, 11) := by decide +kernel
theorem pf_113_11 : pd_fetch 113 11 = some (.iconst 0, 12) := by decide +kernel
theorem pf_113_12 : pd_fetch 113 12 = some (.istore 4, 14) := by decide +kernel
theorem pf_113_14 : pd_fetch 113 14 = some (.iload 4, 16) := by decide +kernel
theorem pf_113_16 : pd_fetch 113 16 = some (.aload 0, 17) := by decide +kernel
theorem pf_113_17 : pd_fetch 113 17 = some (.getfield 604, 20) := by decide +kernel
theorem pf_113_20 : pd_fetch 113 20 = some (.if_icmp .ge (Int.ofNat 48), 23) := by decide +kernel
theorem pf_113_23 : pd_fetch 113 23 = some (.iload 3, 24) := by decide +kernel
theorem pf_113_24 : pd_fetch 113 24 = some (.aload 1, 25) := by decide +kernel
theorem pf_113_25 : pd_fetch 113 25 = some (.iconst 5, 26) := by decide +kernel
theorem pf_113_26 : pd_fetch 113 26 = some (.iload 2, 27) := by decide +kernel
theorem pf_113_27 : pd_fetch 113 27 = some (.imul, 28) := by decide +kernel
theorem pf_113_28 : pd_fetch 113 28 = some (.iload 4, 30) := by decide +kernel
theorem pf_113_30 : pd_fetch 113 30 = some (.iadd, 31) := by decide +kernel
theorem pf_113_31 : pd_fetch 113 31 = some (.iaload, 32) := by decide +kernel
theorem pf_113_32 : pd_fetch 113 32 = some (.aload 0, 33) := by decide +kernel
theorem pf_113_33 : pd_fetch 113 33 = some (.aload 1, 34) := by decide +kernel
theorem pf_113_34 : pd_fetch 113 34 = some (.iload 4, 36) := by decide +kernel
theorem pf_113_36 : pd_fetch 113 36 = some (.invokevirtual 112, 39) := by decide +kernel
theorem pf_113_39 : pd_fetch 113 39 = some (.imul, 40) := by decide +kernel
theorem pf_113_40 : pd_fetch 113 40 = some (.iadd, 41) := by decide +kernel
theorem pf_113_41 : pd_fetch 113 41 = some (.istore 3, 42) := by decide +kernel
theorem pf_113_42 : pd_fetch 113 42 = some (.iinc 4 1, 45) := by decide +kernel
theorem pf_113_45 : pd_fetch 113 45 = some (.goto (Int.ofNat 14), 48) := by decide +kernel
theorem pf_113_48 : pd_fetch 113 48 = some (.iload 3, 49) := by decide +kernel
theorem pf_113_49 : pd_fetch 113 49 = some (.ireturn, 50) := by decide +kernel
theorem pf_115_0 : pd_fetch 115 0 = some (.jsr (0), 1) := by decide +kernel
theorem pf_115_1 : pd_fetch 115 1 = some (.lstore 2, 2) := by decide +kernel
theorem pf_115_2 : pd_fetch 115 2 = some (.iconst 0, 3) := by decide +kernel
theorem pf_115_3 : pd_fetch 115 3 = some (.istore 4, 5) := by decide +kernel
theorem pf_115_5 : pd_fetch 115 5 = some (.iload 4, 7) := by decide +kernel
theorem pf_115_7 : pd_fetch 115 7 = some (.aload 0, 8) := by decide +kernel
theorem pf_115_8 : pd_fetch 115 8 = some (.getfield 607, 11) := by decide +kernel
theorem pf_115_11 : pd_fetch 115 11 = some (.if_icmp .ge (Int.ofNat 38), 14) := by decide +kernel
theorem pf_115_14 : pd_fetch 115 14 = some (.aload 0, 15) := by decide +kernel
theorem pf_115_15 : pd_fetch 115 15 = some (.aload 1, 16) := by decide +kernel
theorem pf_115_16 : pd_fetch 115 16 = some (.iload 4, 18) := by decide +kernel
theorem pf_115_18 : pd_fetch 115 18 = some (.invokevirtual 113, 21) := by decide +kernel
theorem pf_115_21 : pd_fetch 115 21 = some (.i2l, 22) := by decide +kernel
theorem pf_115_22 : pd_fetch 115 22 = some (.lstore 5, 24) := by decide +kernel
theorem pf_115_24 : pd_fetch 115 24 = some (.lload 2, 25) := by decide +kernel
theorem pf_115_25 : pd_fetch 115 25 = some (.lload 5, 27) := by decide +kernel
theorem pf_115_27 : pd_fetch 115 27 = some (.lload 5, 29) := by decide +kernel
theorem pf_115_29 : pd_fetch 115 29 = some (.lmul, 30) := by decide +kernel
theorem pf_115_30 : pd_fetch 115 30 = some (.ladd, 31) := by decide +kernel
theorem pf_115_31 : pd_fetch 115 31 = some (.lstore 2, 32) := by decide +kernel
theorem pf_115_32 : pd_fetch 115 32 = some (.iinc 4 1, 35) := by decide +kernel
theorem pf_115_35 : pd_fetch 115 35 = some (.goto (Int.ofNat 5), 38) := by decide +kernel
theorem pf_115_38 : pd_fetch 115 38 = some (.lload 2, 39) := by decide +kernel
theorem pf_115_39 : pd_fetch 115 39 = some (.lreturn, 40) := by decide +kernel
theorem pf_117_0 : pd_fetch 117 0 = some (.jsr (0), 1) := by decide +kernel
theorem pf_117_1 : pd_fetch 117 1 = some (.lstore 3, 2) := by decide +kernel
theorem pf_117_2 : pd_fetch 117 2 = some (.iconst 0, 3) := by decide +kernel
theorem pf_117_3 : pd_fetch 117 3 = some (.istore 5, 5) := by decide +kernel
theorem pf_117_5 : pd_fetch 117 5 = some (.iload 5, 7) := by decide +kernel
theorem pf_117_7 : pd_fetch 117 7 = some (.aload 0, 8) := by decide +kernel
theorem pf_117_8 : pd_fetch 117 8 = some (.getfield 604, 11) := by decide +kernel
theorem pf_117_11 : pd_fetch 117 11 = some (.if_icmp .ge (Int.ofNat 43), 14) := by decide +kernel
theorem pf_117_14 : pd_fetch 117 14 = some (.lload 3, 15) := by decide +kernel
theorem pf_117_15 : pd_fetch 117 15 = some (.aload 0, 16) := by decide +kernel
theorem pf_117_16 : pd_fetch 117 16 = some (.getfield 608, 19) := by decide +kernel
theorem pf_117_19 : pd_fetch 117 19 = some (.iconst 4, 20) := by decide +kernel
theorem pf_117_20 : pd_fetch 117 20 = some (.iload 2, 21) := by decide +kernel
theorem pf_117_21 : pd_fetch 117 21 = some (.imul, 22) := by decide +kernel
theorem pf_117_22 : pd_fetch 117 22 = some (.iload 5, 24) := by decide +kernel
theorem pf_117_24 : pd_fetch 117 24 = some (.iadd, 25) := by decide +kernel
theorem pf_117_25 : pd_fetch 117 25 = some (.iaload, 26) := by decide +kernel
theorem pf_117_26 : pd_fetch 117 26 = some (.i2l, 27) := by decide +kernel
theorem pf_117_27 : pd_fetch 117 27 = some (.aload 0, 28) := by decide +kernel
theorem pf_117_28 : pd_fetch 117 28 = some (.aload 1, 29) := by decide +kernel
theorem pf_117_29 : pd_fetch 117 29 = some (.iload 5, 31) := by decide +kernel
theorem pf_117_31 : pd_fetch 117 31 = some (.invokevirtual 116, 34) := by decide +kernel
theorem pf_117_34 : pd_fetch 117 34 = some (.lmul, 35) := by decide +kernel
theorem pf_117_35 : pd_fetch 117 35 = some (.ladd, 36) := by decide +kernel
theorem pf_117_36 : pd_fetch 117 36 = some (.lstore 3, 37) := by decide +kernel
theorem pf_117_37 : pd_fetch 117 37 = some (.iinc 5 1, 40) := by decide +kernel
theorem pf_117_40 : pd_fetch 117 40 = some (.goto (Int.ofNat 5), 43) := by decide +kernel
theorem pf_117_43 : pd_fetch 117 43 = some (.lload 3, 44) := by decide +kernel
theorem pf_117_44 : pd_fetch 117 44 = some (.lreturn, 45) := by decide +kernel
theorem pf_119_0 : pd_fetch 119 0 = some (.iconst 0, 1) := by decide +kernel
theorem pf_119_1 : pd_fetch 119 1 = some (.istore 2, 2) := by decide +kernel
theorem pf_119_2 : pd_fetch 119 2 = some (.iconst 1, 3) := by decide +kernel
theorem pf_119_3 : pd_fetch 119 3 = some (.istore 3, 4) := by decide +kernel
theorem pf_119_4 : pd_fetch 119 4 = some (.iload 3, 5) := by decide +kernel
theorem pf_119_5 : pd_fetch 119 5 = some (.aload 1, 6) := by decide +kernel
theorem pf_119_6 : pd_fetch 119 6 = some (.iconst 68, 8) := by decide +kernel
theorem pf_119_8 : pd_fetch 119 8 = some (.iaload, 9) := by decide +kernel
theorem pf_119_9 : pd_fetch 119 9 = some (.if_icmp .ge (Int.ofNat 50), 12) := by decide +kernel
theorem pf_119_12 : pd_fetch 119 12 = some (.aload 0, 13) := by decide +kernel
theorem pf_119_13 : pd_fetch 119 13 = some (.aload 1, 14) := by decide +kernel
theorem pf_119_14 : pd_fetch 119 14 = some (.aload 1, 15) := by decide +kernel
theorem pf_119_15 : pd_fetch 119 15 = some (.iconst 20, 17) := by decide +kernel
theorem pf_119_17 : pd_fetch 119 17 = some (.iload 3, 18) := by decide +kernel
theorem pf_119_18 : pd_fetch 119 18 = some (.iadd, 19) := by decide +kernel
theorem pf_119_19 : pd_fetch 119 19 = some (.iaload, 20) := by decide +kernel
theorem pf_119_20 : pd_fetch 119 20 = some (.invokevirtual 117, 23) := by decide +kernel
theorem pf_119_23 : pd_fetch 119 23 = some (.aload 0, 24) := by decide +kernel
theorem pf_119_24 : pd_fetch 119 24 = some (.aload 1, 25) := by decide +kernel
theorem pf_119_25 : pd_fetch 119 25 = some (.aload 1, 26) := by decide +kernel
theorem pf_119_26 : pd_fetch 119 26 = some (.iconst 20, 28) := by decide +kernel
theorem pf_119_28 : pd_fetch 119 28 = some (.iload 2, 29) := by decide +kernel
theorem pf_119_29 : pd_fetch 119 29 = some (.iadd, 30) := by decide +kernel
theorem pf_119_30 : pd_fetch 119 30 = some (.iaload, 31) := by decide +kernel
theorem pf_119_31 : pd_fetch 119 31 = some (.invokevirtual 117, 34) := by decide +kernel
theorem pf_119_34 : pd_fetch 119 34 = some (.lcmp, 35) := by decide +kernel
theorem pf_119_35 : pd_fetch 119 35 = some (.ifCond .le (Int.ofNat 42), 38) := by decide +kernel
theorem pf_119_38 : pd_fetch 119 38 = some (.iload 3, 39) := by decide +kernel
theorem pf_119_39 : pd_fetch 119 39 = some (.goto (Int.ofNat 43), 42) := by decide +kernel
theorem pf_119_42 : pd_fetch 119 42 = some (.iload 2, 43) := by decide +kernel
theorem pf_119_43 : pd_fetch 119 43 = some (.istore 2, 44) := by decide +kernel
theorem pf_119_44 : pd_fetch 119 44 = some (.iinc 3 1, 47) := by decide +kernel
theorem pf_119_47 : pd_fetch 119 47 = some (.goto (Int.ofNat 4), 50) := by decide +kernel
theorem pf_119_50 : pd_fetch 119 50 = some (.iload 2, 51) := by decide +kernel
theorem pf_119_51 : pd_fetch 119 51 = some (.ireturn, 52) := by decide +kernel
theorem pf_121_0 : pd_fetch 121 0 = some (.iload 2, 1) := by decide +kernel
theorem pf_121_1 : pd_fetch 121 1 = some (.ifCond .ne (Int.ofNat 5), 4) := by decide +kernel
theorem pf_121_4 : pd_fetch 121 4 = some (.return_, 5) := by decide +kernel
theorem pf_121_5 : pd_fetch 121 5 = some (.iconst 0, 6) := by decide +kernel
theorem pf_121_6 : pd_fetch 121 6 = some (.istore 3, 7) := by decide +kernel
theorem pf_121_7 : pd_fetch 121 7 = some (.iload 3, 8) := by decide +kernel
theorem pf_121_8 : pd_fetch 121 8 = some (.aload 0, 9) := by decide +kernel
theorem pf_121_9 : pd_fetch 121 9 = some (.iconst 68, 11) := by decide +kernel
theorem pf_121_11 : pd_fetch 121 11 = some (.iaload, 12) := by decide +kernel
theorem pf_121_12 : pd_fetch 121 12 = some (.if_icmp .ge (Int.ofNat 42), 15) := by decide +kernel
theorem pf_121_15 : pd_fetch 121 15 = some (.aload 0, 16) := by decide +kernel
theorem pf_121_16 : pd_fetch 121 16 = some (.iconst 20, 18) := by decide +kernel
theorem pf_121_18 : pd_fetch 121 18 = some (.iload 3, 19) := by decide +kernel
theorem pf_121_19 : pd_fetch 121 19 = some (.iadd, 20) := by decide +kernel
theorem pf_121_20 : pd_fetch 121 20 = some (.iaload, 21) := by decide +kernel
theorem pf_121_21 : pd_fetch 121 21 = some (.iload 1, 22) := by decide +kernel
theorem pf_121_22 : pd_fetch 121 22 = some (.if_icmp .ne (Int.ofNat 36), 25) := by decide +kernel
theorem pf_121_25 : pd_fetch 121 25 = some (.aload 0, 26) := by decide +kernel
theorem pf_121_26 : pd_fetch 121 26 = some (.iconst 44, 28) := by decide +kernel
theorem pf_121_28 : pd_fetch 121 28 = some (.iload 3, 29) := by decide +kernel
theorem pf_121_29 : pd_fetch 121 29 = some (.iadd, 30) := by decide +kernel
theorem pf_121_30 : pd_fetch 121 30 = some (.dup2, 31) := by decide +kernel
theorem pf_121_31 : pd_fetch 121 31 = some (.iaload, 32) := by decide +kernel
theorem pf_121_32 : pd_fetch 121 32 = some (.iload 2, 33) := by decide +kernel
theorem pf_121_33 : pd_fetch 121 33 = some (.iadd, 34) := by decide +kernel
theorem pf_121_34 : pd_fetch 121 34 = some (.iastore, 35) := by decide +kernel
theorem pf_121_35 : pd_fetch 121 35 = some (.return_, 36) := by decide +kernel
theorem pf_121_36 : pd_fetch 121 36 = some (.iinc 3 1, 39) := by decide +kernel
theorem pf_121_39 : pd_fetch 121 39 = some (.goto (Int.ofNat 7), 42) := by decide +kernel
theorem pf_121_42 : pd_fetch 121 42 = some (.aload 0, 43) := by decide +kernel
theorem pf_121_43 : pd_fetch 121 43 = some (.iconst 20, 45) := by decide +kernel
theorem pf_121_45 : pd_fetch 121 45 = some (.aload 0, 46) := by decide +kernel
theorem pf_121_46 : pd_fetch 121 46 = some (.iconst 68, 48) := by decide +kernel
theorem pf_121_48 : pd_fetch 121 48 = some (.iaload, 49) := by decide +kernel
theorem pf_121_49 : pd_fetch 121 49 = some (.iadd, 50) := by decide +kernel
theorem pf_121_50 : pd_fetch 121 50 = some (.iload 1, 51) := by decide +kernel
theorem pf_121_51 : pd_fetch 121 51 = some (.iastore, 52) := by decide +kernel
theorem pf_121_52 : pd_fetch 121 52 = some (.aload 0, 53) := by decide +kernel
theorem pf_121_53 : pd_fetch 121 53 = some (.iconst 44, 55) := by decide +kernel
theorem pf_121_55 : pd_fetch 121 55 = some (.aload 0, 56) := by decide +kernel
theorem pf_121_56 : pd_fetch 121 56 = some (.iconst 68, 58) := by decide +kernel
theorem pf_121_58 : pd_fetch 121 58 = some (.iaload, 59) := by decide +kernel
theorem pf_121_59 : pd_fetch 121 59 = some (.iadd, 60) := by decide +kernel
theorem pf_121_60 : pd_fetch 121 60 = some (.iload 2, 61) := by decide +kernel
theorem pf_121_61 : pd_fetch 121 61 = some (.iastore, 62) := by decide +kernel
theorem pf_121_62 : pd_fetch 121 62 = some (.aload 0, 63) := by decide +kernel
theorem pf_121_63 : pd_fetch 121 63 = some (.iconst 68, 65) := by decide +kernel
theorem pf_121_65 : pd_fetch 121 65 = some (.dup2, 66) := by decide +kernel
theorem pf_121_66 : pd_fetch 121 66 = some (.iaload, 67) := by decide +kernel
theorem pf_121_67 : pd_fetch 121 67 = some (.iconst 1, 68) := by decide +kernel
theorem pf_121_68 : pd_fetch 121 68 = some (.iadd, 69) := by decide +kernel
theorem pf_121_69 : pd_fetch 121 69 = some (.iastore, 70) := by decide +kernel
theorem pf_121_70 : pd_fetch 121 70 = some (.return_, 71) := by decide +kernel
theorem pf_123_0 : pd_fetch 123 0 = some (.iconst 0, 1) := by decide +kernel
theorem pf_123_1 : pd_fetch 123 1 = some (.istore 5, 3) := by decide +kernel
theorem pf_123_3 : pd_fetch 123 3 = some (.iconst 0, 4) := by decide +kernel
theorem pf_123_4 : pd_fetch 123 4 = some (.istore 6, 6) := by decide +kernel
theorem pf_123_6 : pd_fetch 123 6 = some (.iconst 0, 7) := by decide +kernel
theorem pf_123_7 : pd_fetch 123 7 = some (.istore 7, 9) := by decide +kernel
theorem pf_123_9 : pd_fetch 123 9 = some (.iload 7, 11) := by decide +kernel
theorem pf_123_11 : pd_fetch 123 11 = some (.aload 1, 12) := by decide +kernel
theorem pf_123_12 : pd_fetch 123 12 = some (.iconst 68, 14) := by decide +kernel
theorem pf_123_14 : pd_fetch 123 14 = some (.iaload, 15) := by decide +kernel
theorem pf_123_15 : pd_fetch 123 15 = some (.if_icmp .ge (Int.ofNat 99), 18) := by decide +kernel
theorem pf_123_18 : pd_fetch 123 18 = some (.aload 0, 19) := by decide +kernel
theorem pf_123_19 : pd_fetch 123 19 = some (.getfield 621, 22) := by decide +kernel
theorem pf_123_22 : pd_fetch 123 22 = some (.iload 7, 24) := by decide +kernel
theorem pf_123_24 : pd_fetch 123 24 = some (.iconst (-1), 25) := by decide +kernel
theorem pf_123_25 : pd_fetch 123 25 = some (.iastore, 26) := by decide +kernel
theorem pf_123_26 : pd_fetch 123 26 = some (.iload 7, 28) := by decide +kernel
theorem pf_123_28 : pd_fetch 123 28 = some (.iload 4, 30) := by decide +kernel
theorem pf_123_30 : pd_fetch 123 30 = some (.if_icmp .eq (Int.ofNat 93), 33) := by decide +kernel
theorem pf_123_33 : pd_fetch 123 33 = some (.iload 5, 35) := by decide +kernel
theorem pf_123_35 : pd_fetch 123 35 = some (.aload 1, 36) := by decide +kernel
theorem pf_123_36 : pd_fetch 123 36 = some (.iconst 44, 38) := by decide +kernel
theorem pf_123_38 : pd_fetch 123 38 = some (.iload 7, 40) := by decide +kernel
theorem pf_123_40 : pd_fetch 123 40 = some (.iadd, 41) := by decide +kernel
theorem pf_123_41 : pd_fetch 123 41 = some (.iaload, 42) := by decide +kernel
theorem pf_123_42 : pd_fetch 123 42 = some (.iadd, 43) := by decide +kernel
theorem pf_123_43 : pd_fetch 123 43 = some (.istore 5, 45) := by decide +kernel
theorem pf_123_45 : pd_fetch 123 45 = some (.aload 0, 46) := by decide +kernel
theorem pf_123_46 : pd_fetch 123 46 = some (.getfield 621, 49) := by decide +kernel
theorem pf_123_49 : pd_fetch 123 49 = some (.iload 7, 51) := by decide +kernel
theorem pf_123_51 : pd_fetch 123 51 = some (.aload 1, 52) := by decide +kernel
theorem pf_123_52 : pd_fetch 123 52 = some (.iconst 44, 54) := by decide +kernel
theorem pf_123_54 : pd_fetch 123 54 = some (.iload 7, 56) := by decide +kernel
theorem pf_123_56 : pd_fetch 123 56 = some (.iadd, 57) := by decide +kernel
theorem pf_123_57 : pd_fetch 123 57 = some (.iaload, 58) := by decide +kernel
theorem pf_123_58 : pd_fetch 123 58 = some (.iload 2, 59) := by decide +kernel
theorem pf_123_59 : pd_fetch 123 59 = some (.imul, 60) := by decide +kernel
theorem pf_123_60 : pd_fetch 123 60 = some (.iload 3, 61) := by decide +kernel
theorem pf_123_61 : pd_fetch 123 61 = some (.irem, 62) := by decide +kernel
theorem pf_123_62 : pd_fetch 123 62 = some (.iastore, 63) := by decide +kernel
theorem pf_123_63 : pd_fetch 123 63 = some (.aload 1, 64) := by decide +kernel
theorem pf_123_64 : pd_fetch 123 64 = some (.iconst 44, 66) := by decide +kernel
theorem pf_123_66 : pd_fetch 123 66 = some (.iload 7, 68) := by decide +kernel
theorem pf_123_68 : pd_fetch 123 68 = some (.iadd, 69) := by decide +kernel
theorem pf_123_69 : pd_fetch 123 69 = some (.aload 1, 70) := by decide +kernel
theorem pf_123_70 : pd_fetch 123 70 = some (.iconst 44, 72) := by decide +kernel
theorem pf_123_72 : pd_fetch 123 72 = some (.iload 7, 74) := by decide +kernel
theorem pf_123_74 : pd_fetch 123 74 = some (.iadd, 75) := by decide +kernel
theorem pf_123_75 : pd_fetch 123 75 = some (.iaload, 76) := by decide +kernel
theorem pf_123_76 : pd_fetch 123 76 = some (.iload 2, 77) := by decide +kernel
theorem pf_123_77 : pd_fetch 123 77 = some (.imul, 78) := by decide +kernel
theorem pf_123_78 : pd_fetch 123 78 = some (.iload 3, 79) := by decide +kernel
theorem pf_123_79 : pd_fetch 123 79 = some (.idiv, 80) := by decide +kernel
theorem pf_123_80 : pd_fetch 123 80 = some (.iastore, 81) := by decide +kernel
theorem pf_123_81 : pd_fetch 123 81 = some (.iload 6, 83) := by decide +kernel
theorem pf_123_83 : pd_fetch 123 83 = some (.aload 1, 84) := by decide +kernel
theorem pf_123_84 : pd_fetch 123 84 = some (.iconst 44, 86) := by decide +kernel
theorem pf_123_86 : pd_fetch 123 86 = some (.iload 7, 88) := by decide +kernel
theorem pf_123_88 : pd_fetch 123 88 = some (.iadd, 89) := by decide +kernel
theorem pf_123_89 : pd_fetch 123 89 = some (.iaload, 90) := by decide +kernel
theorem pf_123_90 : pd_fetch 123 90 = some (.iadd, 91) := by decide +kernel
theorem pf_123_91 : pd_fetch 123 91 = some (.istore 6, 93) := by decide +kernel
theorem pf_123_93 : pd_fetch 123 93 = some (.iinc 7 1, 96) := by decide +kernel
theorem pf_123_96 : pd_fetch 123 96 = some (.goto (Int.ofNat 9), 99) := by decide +kernel
theorem pf_123_99 : pd_fetch 123 99 = some (.iload 5, 101) := by decide +kernel
theorem pf_123_101 : pd_fetch 123 101 = some (.iload 2, 102) := by decide +kernel
theorem pf_123_102 : pd_fetch 123 102 = some (.imul, 103) := by decide +kernel
theorem pf_123_103 : pd_fetch 123 103 = some (.iload 3, 104) := by decide +kernel
theorem pf_123_104 : pd_fetch 123 104 = some (.idiv, 105) := by decide +kernel
theorem pf_123_105 : pd_fetch 123 105 = some (.iload 6, 107) := by decide +kernel
theorem pf_123_107 : pd_fetch 123 107 = some (.isub, 108) := by decide +kernel
theorem pf_123_108 : pd_fetch 123 108 = some (.istore 7, 110) := by decide +kernel
theorem pf_123_110 : pd_fetch 123 110 = some (.iload 7, 112) := by decide +kernel
theorem pf_123_112 : pd_fetch 123 112 = some (.ifCond .le (Int.ofNat 205), 115) := by decide +kernel
theorem pf_123_115 : pd_fetch 123 115 = some (.iconst (-9), 117) := by decide +kernel
theorem pf_123_117 : pd_fetch 123 117 = some (.istore 8, 119) := by decide +kernel
theorem pf_123_119 : pd_fetch 123 119 = some (.iconst 0, 120) := by decide +kernel
theorem pf_123_120 : pd_fetch 123 120 = some (.istore 9, 122) := by decide +kernel
theorem pf_123_122 : pd_fetch 123 122 = some (.iload 9, 124) := by decide +kernel
theorem pf_123_124 : pd_fetch 123 124 = some (.aload 1, 125) := by decide +kernel
theorem pf_123_125 : pd_fetch 123 125 = some (.iconst 68, 127) := by decide +kernel
theorem pf_123_127 : pd_fetch 123 127 = some (.iaload, 128) := by decide +kernel
theorem pf_123_128 : pd_fetch 123 128 = some (.if_icmp .ge (Int.ofNat 180), 131) := by decide +kernel
theorem pf_123_131 : pd_fetch 123 131 = some (.aload 0, 132) := by decide +kernel
theorem pf_123_132 : pd_fetch 123 132 = some (.getfield 621, 135) := by decide +kernel
theorem pf_123_135 : pd_fetch 123 135 = some (.iload 9, 137) := by decide +kernel
theorem pf_123_137 : pd_fetch 123 137 = some (.iaload, 138) := by decide +kernel
theorem pf_123_138 : pd_fetch 123 138 = some (.ifCond .lt (Int.ofNat 170), 141) := by decide +kernel
theorem pf_123_141 : pd_fetch 123 141 = some (.iload 8, 143) := by decide +kernel
theorem pf_123_143 : pd_fetch 123 143 = some (.iconst (-9), 145) := by decide +kernel
theorem pf_123_145 : pd_fetch 123 145 = some (.if_icmp .eq (Int.ofNat 165), 148) := by decide +kernel
theorem pf_123_148 : pd_fetch 123 148 = some (.aload 0, 149) := by decide +kernel
theorem pf_123_149 : pd_fetch 123 149 = some (.getfield 621, 152) := by decide +kernel
theorem pf_123_152 : pd_fetch 123 152 = some (.iload 9, 154) := by decide +kernel
theorem pf_123_154 : pd_fetch 123 154 = some (.iaload, 155) := by decide +kernel
theorem pf_123_155 : pd_fetch 123 155 = some (.aload 0, 156) := by decide +kernel
theorem pf_123_156 : pd_fetch 123 156 = some (.getfield 621, 159) := by decide +kernel
theorem pf_123_159 : pd_fetch 123 159 = some (.iload 8, 161) := by decide +kernel
theorem pf_123_161 : pd_fetch 123 161 = some (.iaload, 162) := by decide +kernel
theorem pf_123_162 : pd_fetch 123 162 = some (.if_icmp .le (Int.ofNat 170), 165) := by decide +kernel
theorem pf_123_165 : pd_fetch 123 165 = some (.iload 9, 167) := by decide +kernel
theorem pf_123_167 : pd_fetch 123 167 = some (.goto (Int.ofNat 172), 170) := by decide +kernel
theorem pf_123_170 : pd_fetch 123 170 = some (.iload 8, 172) := by decide +kernel
theorem pf_123_172 : pd_fetch 123 172 = some (.istore 8, 174) := by decide +kernel
theorem pf_123_174 : pd_fetch 123 174 = some (.iinc 9 1, 177) := by decide +kernel
theorem pf_123_177 : pd_fetch 123 177 = some (.goto (Int.ofNat 122), 180) := by decide +kernel
theorem pf_123_180 : pd_fetch 123 180 = some (.aload 1, 181) := by decide +kernel
theorem pf_123_181 : pd_fetch 123 181 = some (.iconst 44, 183) := by decide +kernel
theorem pf_123_183 : pd_fetch 123 183 = some (.iload 8, 185) := by decide +kernel
theorem pf_123_185 : pd_fetch 123 185 = some (.iadd, 186) := by decide +kernel
theorem pf_123_186 : pd_fetch 123 186 = some (.dup2, 187) := by decide +kernel
theorem pf_123_187 : pd_fetch 123 187 = some (.iaload, 188) := by decide +kernel
theorem pf_123_188 : pd_fetch 123 188 = some (.iconst 1, 189) := by decide +kernel
theorem pf_123_189 : pd_fetch 123 189 = some (.iadd, 190) := by decide +kernel
theorem pf_123_190 : pd_fetch 123 190 = some (.iastore, 191) := by decide +kernel
theorem pf_123_191 : pd_fetch 123 191 = some (.aload 0, 192) := by decide +kernel
theorem pf_123_192 : pd_fetch 123 192 = some (.getfield 621, 195) := by decide +kernel
theorem pf_123_195 : pd_fetch 123 195 = some (.iload 8, 197) := by decide +kernel
theorem pf_123_197 : pd_fetch 123 197 = some (.iconst (-1), 198) := by decide +kernel
theorem pf_123_198 : pd_fetch 123 198 = some (.iastore, 199) := by decide +kernel
theorem pf_123_199 : pd_fetch 123 199 = some (.iinc 7 (-1), 202) := by decide +kernel
theorem pf_123_202 : pd_fetch 123 202 = some (.goto (Int.ofNat 110), 205) := by decide +kernel
theorem pf_123_205 : pd_fetch 123 205 = some (.return_, 206) := by decide +kernel
theorem pf_125_0 : pd_fetch 125 0 = some (.aload 0, 1) := by decide +kernel
theorem pf_125_1 : pd_fetch 125 1 = some (.iconst 20, 3) := by decide +kernel
theorem pf_125_3 : pd_fetch 125 3 = some (.iload 1, 4) := by decide +kernel
theorem pf_125_4 : pd_fetch 125 4 = some (.iadd, 5) := by decide +kernel
theorem pf_125_5 : pd_fetch 125 5 = some (.iaload, 6) := by decide +kernel
theorem pf_125_6 : pd_fetch 125 6 = some (.iload 2, 7) := by decide +kernel
theorem pf_125_7 : pd_fetch 125 7 = some (.if_icmp .eq (Int.ofNat 31), 10) := by decide +kernel
theorem pf_125_10 : pd_fetch 125 10 = some (.aload 0, 11) := by decide +kernel
theorem pf_125_11 : pd_fetch 125 11 = some (.iload 2, 12) := by decide +kernel
theorem pf_125_12 : pd_fetch 125 12 = some (.iload 3, 13) := by decide +kernel
theorem pf_125_13 : pd_fetch 125 13 = some (.invokestatic 121, 16) := by decide +kernel
theorem pf_125_16 : pd_fetch 125 16 = some (.aload 0, 17) := by decide +kernel
theorem pf_125_17 : pd_fetch 125 17 = some (.iconst 44, 19) := by decide +kernel
theorem pf_125_19 : pd_fetch 125 19 = some (.iload 1, 20) := by decide +kernel
theorem pf_125_20 : pd_fetch 125 20 = some (.iadd, 21) := by decide +kernel
theorem pf_125_21 : pd_fetch 125 21 = some (.dup2, 22) := by decide +kernel
theorem pf_125_22 : pd_fetch 125 22 = some (.iaload, 23) := by decide +kernel
theorem pf_125_23 : pd_fetch 125 23 = some (.iload 3, 24) := by decide +kernel
theorem pf_125_24 : pd_fetch 125 24 = some (.isub, 25) := by decide +kernel
theorem pf_125_25 : pd_fetch 125 25 = some (.iastore, 26) := by decide +kernel
theorem pf_125_26 : pd_fetch 125 26 = some (.aload 0, 27) := by decide +kernel
theorem pf_125_27 : pd_fetch 125 27 = some (.invokestatic 122, 30) := by decide +kernel
theorem pf_125_30 : pd_fetch 125 30 = some (.pop, 31) := by decide +kernel
theorem pf_125_31 : pd_fetch 125 31 = some (.return_, 32) := by decide +kernel
theorem pf_127_0 : pd_fetch 127 0 = some (.aload 0, 1) := by decide +kernel
theorem pf_127_1 : pd_fetch 127 1 = some (.iload 1, 2) := by decide +kernel
theorem pf_127_2 : pd_fetch 127 2 = some (.i2l, 3) := by decide +kernel
theorem pf_127_3 : pd_fetch 127 3 = some (.jsr (0), 4) := by decide +kernel
theorem pf_127_4 : pd_fetch 127 4 = some (.jsr (255), 7) := by decide +kernel
theorem pf_127_7 : pd_fetch 127 7 = some (.invokestatic 109, 10) := by decide +kernel
theorem pf_127_10 : pd_fetch 127 10 = some (.ifCond .ne (Int.ofNat 17), 13) := by decide +kernel
theorem pf_127_13 : pd_fetch 127 13 = some (.iconst 1, 14) := by decide +kernel
theorem pf_127_14 : pd_fetch 127 14 = some (.goto (Int.ofNat 31), 17) := by decide +kernel
theorem pf_127_17 : pd_fetch 127 17 = some (.aload 0, 18) := by decide +kernel
theorem pf_127_18 : pd_fetch 127 18 = some (.getfield 602, 21) := by decide +kernel
theorem pf_127_21 : pd_fetch 127 21 = some (.iconst 90, 23) := by decide +kernel
theorem pf_127_23 : pd_fetch 127 23 = some (.if_icmp .ne (Int.ofNat 30), 26) := by decide +kernel
theorem pf_127_26 : pd_fetch 127 26 = some (.iconst 2, 27) := by decide +kernel
theorem pf_127_27 : pd_fetch 127 27 = some (.goto (Int.ofNat 31), 30) := by decide +kernel
theorem pf_127_30 : pd_fetch 127 30 = some (.iconst 0, 31) := by decide +kernel
theorem pf_127_31 : pd_fetch 127 31 = some (.invokevirtual 108, 34) := by decide +kernel
theorem pf_127_34 : pd_fetch 127 34 = some (.ifCond .eq (Int.ofNat 39), 37) := by decide +kernel
theorem pf_127_37 : pd_fetch 127 37 = some (.iconst 0, 38) := by decide +kernel
theorem pf_127_38 : pd_fetch 127 38 = some (.ireturn, 39) := by decide +kernel
theorem pf_127_39 : pd_fetch 127 39 = some (.aload 0, 40) := by decide +kernel
theorem pf_127_40 : pd_fetch 127 40 = some (.getfield 601, 43) := by decide +kernel
theorem pf_127_43 : pd_fetch 127 43 = some (.aload 0, 44) := by decide +kernel
theorem pf_127_44 : pd_fetch 127 44 = some (.getfield 602, 47) := by decide +kernel
theorem pf_127_47 : pd_fetch 127 47 = some (.iload 1, 48) := by decide +kernel
theorem pf_127_48 : pd_fetch 127 48 = some (.iastore, 49) := by decide +kernel
theorem pf_127_49 : pd_fetch 127 49 = some (.aload 0, 50) := by decide +kernel
theorem pf_127_50 : pd_fetch 127 50 = some (.dup, 51) := by decide +kernel
theorem pf_127_51 : pd_fetch 127 51 = some (.getfield 602, 54) := by decide +kernel
theorem pf_127_54 : pd_fetch 127 54 = some (.iconst 1, 55) := by decide +kernel
theorem pf_127_55 : pd_fetch 127 55 = some (.iadd, 56) := by decide +kernel
theorem pf_127_56 : pd_fetch 127 56 = some (.putfield 602, 59) := by decide +kernel
theorem pf_127_59 : pd_fetch 127 59 = some (.aload 0, 60) := by decide +kernel
theorem pf_127_60 : pd_fetch 127 60 = some (.getfield 602, 63) := by decide +kernel
theorem pf_127_63 : pd_fetch 127 63 = some (.ireturn, 64) := by decide +kernel
theorem pf_129_0 : pd_fetch 129 0 = some (.aload 0, 1) := by decide +kernel
theorem pf_129_1 : pd_fetch 129 1 = some (.getfield 603, 4) := by decide +kernel
theorem pf_129_4 : pd_fetch 129 4 = some (.aload 0, 5) := by decide +kernel
theorem pf_129_5 : pd_fetch 129 5 = some (.getfield 602, 8) := by decide +kernel
theorem pf_129_8 : pd_fetch 129 8 = some (.if_icmp .ge (Int.ofNat 28), 11) := by decide +kernel
theorem pf_129_11 : pd_fetch 129 11 = some (.aload 0, 12) := by decide +kernel
theorem pf_129_12 : pd_fetch 129 12 = some (.getfield 601, 15) := by decide +kernel
theorem pf_129_15 : pd_fetch 129 15 = some (.aload 0, 16) := by decide +kernel
theorem pf_129_16 : pd_fetch 129 16 = some (.getfield 603, 19) := by decide +kernel
theorem pf_129_19 : pd_fetch 129 19 = some (.iaload, 20) := by decide +kernel
theorem pf_129_20 : pd_fetch 129 20 = some (.iload 1, 21) := by decide +kernel
theorem pf_129_21 : pd_fetch 129 21 = some (.if_icmp .ne (Int.ofNat 28), 24) := by decide +kernel
theorem pf_129_24 : pd_fetch 129 24 = some (.iconst 1, 25) := by decide +kernel
theorem pf_129_25 : pd_fetch 129 25 = some (.goto (Int.ofNat 29), 28) := by decide +kernel
theorem pf_129_28 : pd_fetch 129 28 = some (.iconst 0, 29) := by decide +kernel
theorem pf_129_29 : pd_fetch 129 29 = some (.istore 2, 30) := by decide +kernel
theorem pf_129_30 : pd_fetch 129 30 = some (.aload 0, 31) := by decide +kernel
theorem pf_129_31 : pd_fetch 129 31 = some (.dup, 32) := by decide +kernel
theorem pf_129_32 : pd_fetch 129 32 = some (.getfield 603, 35) := by decide +kernel
theorem pf_129_35 : pd_fetch 129 35 = some (.iload 2, 36) := by decide +kernel
theorem pf_129_36 : pd_fetch 129 36 = some (.ifCond .eq (Int.ofNat 43), 39) := by decide +kernel
theorem pf_129_39 : pd_fetch 129 39 = some (.iconst 1, 40) := by decide +kernel
theorem pf_129_40 : pd_fetch 129 40 = some (.goto (Int.ofNat 44), 43) := by decide +kernel
theorem pf_129_43 : pd_fetch 129 43 = some (.iconst 0, 44) := by decide +kernel
theorem pf_129_44 : pd_fetch 129 44 = some (.iadd, 45) := by decide +kernel
theorem pf_129_45 : pd_fetch 129 45 = some (.putfield 603, 48) := by decide +kernel
theorem pf_129_48 : pd_fetch 129 48 = some (.iload 2, 49) := by decide +kernel
theorem pf_129_49 : pd_fetch 129 49 = some (.ireturn, 50) := by decide +kernel
theorem pf_131_0 : pd_fetch 131 0 = some (.iconst 0, 1) := by decide +kernel
theorem pf_131_1 : pd_fetch 131 1 = some (.istore 3, 2) := by decide +kernel
theorem pf_131_2 : pd_fetch 131 2 = some (.iload 3, 3) := by decide +kernel
theorem pf_131_3 : pd_fetch 131 3 = some (.iconst 4, 4) := by decide +kernel
theorem pf_131_4 : pd_fetch 131 4 = some (.if_icmp .ge (Int.ofNat 53), 7) := by decide +kernel
theorem pf_131_7 : pd_fetch 131 7 = some (.aload 0, 8) := by decide +kernel
theorem pf_131_8 : pd_fetch 131 8 = some (.iconst 4, 9) := by decide +kernel
theorem pf_131_9 : pd_fetch 131 9 = some (.iload 1, 10) := by decide +kernel
theorem pf_131_10 : pd_fetch 131 10 = some (.imul, 11) := by decide +kernel
theorem pf_131_11 : pd_fetch 131 11 = some (.iload 3, 12) := by decide +kernel
theorem pf_131_12 : pd_fetch 131 12 = some (.iadd, 13) := by decide +kernel
theorem pf_131_13 : pd_fetch 131 13 = some (.iaload, 14) := by decide +kernel
theorem pf_131_14 : pd_fetch 131 14 = some (.aload 0, 15) := by decide +kernel
theorem pf_131_15 : pd_fetch 131 15 = some (.iconst 4, 16) := by decide +kernel
theorem pf_131_16 : pd_fetch 131 16 = some (.iload 2, 17) := by decide +kernel
theorem pf_131_17 : pd_fetch 131 17 = some (.imul, 18) := by decide +kernel
theorem pf_131_18 : pd_fetch 131 18 = some (.iload 3, 19) := by decide +kernel
theorem pf_131_19 : pd_fetch 131 19 = some (.iadd, 20) := by decide +kernel
theorem pf_131_20 : pd_fetch 131 20 = some (.iaload, 21) := by decide +kernel
theorem pf_131_21 : pd_fetch 131 21 = some (.if_icmp .eq (Int.ofNat 47), 24) := by decide +kernel
theorem pf_131_24 : pd_fetch 131 24 = some (.aload 0, 25) := by decide +kernel
theorem pf_131_25 : pd_fetch 131 25 = some (.iconst 4, 26) := by decide +kernel
theorem pf_131_26 : pd_fetch 131 26 = some (.iload 1, 27) := by decide +kernel
theorem pf_131_27 : pd_fetch 131 27 = some (.imul, 28) := by decide +kernel
theorem pf_131_28 : pd_fetch 131 28 = some (.iload 3, 29) := by decide +kernel
theorem pf_131_29 : pd_fetch 131 29 = some (.iadd, 30) := by decide +kernel
theorem pf_131_30 : pd_fetch 131 30 = some (.iaload, 31) := by decide +kernel
theorem pf_131_31 : pd_fetch 131 31 = some (.aload 0, 32) := by decide +kernel
theorem pf_131_32 : pd_fetch 131 32 = some (.iconst 4, 33) := by decide +kernel
theorem pf_131_33 : pd_fetch 131 33 = some (.iload 2, 34) := by decide +kernel
theorem pf_131_34 : pd_fetch 131 34 = some (.imul, 35) := by decide +kernel
theorem pf_131_35 : pd_fetch 131 35 = some (.iload 3, 36) := by decide +kernel
theorem pf_131_36 : pd_fetch 131 36 = some (.iadd, 37) := by decide +kernel
theorem pf_131_37 : pd_fetch 131 37 = some (.iaload, 38) := by decide +kernel
theorem pf_131_38 : pd_fetch 131 38 = some (.if_icmp .ge (Int.ofNat 45), 41) := by decide +kernel
theorem pf_131_41 : pd_fetch 131 41 = some (.iconst (-1), 42) := by decide +kernel
theorem pf_131_42 : pd_fetch 131 42 = some (.goto (Int.ofNat 46), 45) := by decide +kernel
theorem pf_131_45 : pd_fetch 131 45 = some (.iconst 1, 46) := by decide +kernel
theorem pf_131_46 : pd_fetch 131 46 = some (.ireturn, 47) := by decide +kernel
theorem pf_131_47 : pd_fetch 131 47 = some (.iinc 3 1, 50) := by decide +kernel
theorem pf_131_50 : pd_fetch 131 50 = some (.goto (Int.ofNat 2), 53) := by decide +kernel
theorem pf_131_53 : pd_fetch 131 53 = some (.iconst 0, 54) := by decide +kernel
theorem pf_131_54 : pd_fetch 131 54 = some (.ireturn, 55) := by decide +kernel
theorem pf_133_0 : pd_fetch 133 0 = some (.iconst 0, 1) := by decide +kernel
theorem pf_133_1 : pd_fetch 133 1 = some (.istore 1, 2) := by decide +kernel
theorem pf_133_2 : pd_fetch 133 2 = some (.iload 1, 3) := by decide +kernel
theorem pf_133_3 : pd_fetch 133 3 = some (.iconst 4, 4) := by decide +kernel
theorem pf_133_4 : pd_fetch 133 4 = some (.if_icmp .ge (Int.ofNat 27), 7) := by decide +kernel
theorem pf_133_7 : pd_fetch 133 7 = some (.aload 0, 8) := by decide +kernel
theorem pf_133_8 : pd_fetch 133 8 = some (.getfield 613, 11) := by decide +kernel
theorem pf_133_11 : pd_fetch 133 11 = some (.iconst 4, 12) := by decide +kernel
theorem pf_133_12 : pd_fetch 133 12 = some (.aload 0, 13) := by decide +kernel
theorem pf_133_13 : pd_fetch 133 13 = some (.getfield 611, 16) := by decide +kernel
theorem pf_133_16 : pd_fetch 133 16 = some (.imul, 17) := by decide +kernel
theorem pf_133_17 : pd_fetch 133 17 = some (.iload 1, 18) := by decide +kernel
theorem pf_133_18 : pd_fetch 133 18 = some (.iadd, 19) := by decide +kernel
theorem pf_133_19 : pd_fetch 133 19 = some (.iconst 0, 20) := by decide +kernel
theorem pf_133_20 : pd_fetch 133 20 = some (.iastore, 21) := by decide +kernel
theorem pf_133_21 : pd_fetch 133 21 = some (.iinc 1 1, 24) := by decide +kernel
theorem pf_133_24 : pd_fetch 133 24 = some (.goto (Int.ofNat 2), 27) := by decide +kernel
theorem pf_133_27 : pd_fetch 133 27 = some (.return_, 28) := by decide +kernel
theorem pf_135_0 : pd_fetch 135 0 = some (.aload 0, 1) := by decide +kernel
theorem pf_135_1 : pd_fetch 135 1 = some (.getfield 609, 4) := by decide +kernel
theorem pf_135_4 : pd_fetch 135 4 = some (.istore 2, 5) := by decide +kernel
theorem pf_135_5 : pd_fetch 135 5 = some (.aload 0, 6) := by decide +kernel
theorem pf_135_6 : pd_fetch 135 6 = some (.getfield 610, 9) := by decide +kernel
theorem pf_135_9 : pd_fetch 135 9 = some (.iconst 1, 10) := by decide +kernel
theorem pf_135_10 : pd_fetch 135 10 = some (.if_icmp .ne (Int.ofNat 85), 13) := by decide +kernel
theorem pf_135_13 : pd_fetch 135 13 = some (.iconst 0, 14) := by decide +kernel
theorem pf_135_14 : pd_fetch 135 14 = some (.istore 3, 15) := by decide +kernel
theorem pf_135_15 : pd_fetch 135 15 = some (.iload 3, 16) := by decide +kernel
theorem pf_135_16 : pd_fetch 135 16 = some (.iconst 1, 17) := by decide +kernel
theorem pf_135_17 : pd_fetch 135 17 = some (.iload 2, 18) := by decide +kernel
theorem pf_135_18 : pd_fetch 135 18 = some (.ishl, 19) := by decide +kernel
theorem pf_135_19 : pd_fetch 135 19 = some (.if_icmp .ge (Int.ofNat 84), 22) := by decide +kernel
theorem pf_135_22 : pd_fetch 135 22 = some (.aload 0, 23) := by decide +kernel
theorem pf_135_23 : pd_fetch 135 23 = some (.invokevirtual 133, 26) := by decide +kernel
theorem pf_135_26 : pd_fetch 135 26 = some (.iconst 0, 27) := by decide +kernel
theorem pf_135_27 : pd_fetch 135 27 = some (.istore 4, 29) := by decide +kernel
theorem pf_135_29 : pd_fetch 135 29 = some (.iload 4, 31) := by decide +kernel
theorem pf_135_31 : pd_fetch 135 31 = some (.iload 2, 32) := by decide +kernel
theorem pf_135_32 : pd_fetch 135 32 = some (.if_icmp .ge (Int.ofNat 73), 35) := by decide +kernel
theorem pf_135_35 : pd_fetch 135 35 = some (.aload 0, 36) := by decide +kernel
theorem pf_135_36 : pd_fetch 135 36 = some (.getfield 613, 39) := by decide +kernel
theorem pf_135_39 : pd_fetch 135 39 = some (.iconst 4, 40) := by decide +kernel
theorem pf_135_40 : pd_fetch 135 40 = some (.aload 0, 41) := by decide +kernel
theorem pf_135_41 : pd_fetch 135 41 = some (.getfield 611, 44) := by decide +kernel
theorem pf_135_44 : pd_fetch 135 44 = some (.imul, 45) := by decide +kernel
theorem pf_135_45 : pd_fetch 135 45 = some (.iload 4, 47) := by decide +kernel
theorem pf_135_47 : pd_fetch 135 47 = some (.iadd, 48) := by decide +kernel
theorem pf_135_48 : pd_fetch 135 48 = some (.iload 3, 49) := by decide +kernel
theorem pf_135_49 : pd_fetch 135 49 = some (.iload 4, 51) := by decide +kernel
theorem pf_135_51 : pd_fetch 135 51 = some (.ishr, 52) := by decide +kernel
theorem pf_135_52 : pd_fetch 135 52 = some (.iconst 1, 53) := by decide +kernel
theorem pf_135_53 : pd_fetch 135 53 = some (.iand, 54) := by decide +kernel
theorem pf_135_54 : pd_fetch 135 54 = some (.iconst 1, 55) := by decide +kernel
theorem pf_135_55 : pd_fetch 135 55 = some (.if_icmp .ne (Int.ofNat 65), 58) := by decide +kernel
theorem pf_135_58 : pd_fetch 135 58 = some (.aload 1, 59) := by decide +kernel
theorem pf_135_59 : pd_fetch 135 59 = some (.iload 4, 61) := by decide +kernel
theorem pf_135_61 : pd_fetch 135 61 = some (.iaload, 62) := by decide +kernel
theorem pf_135_62 : pd_fetch 135 62 = some (.goto (Int.ofNat 66), 65) := by decide +kernel
theorem pf_135_65 : pd_fetch 135 65 = some (.iconst 0, 66) := by decide +kernel
theorem pf_135_66 : pd_fetch 135 66 = some (.iastore, 67) := by decide +kernel
theorem pf_135_67 : pd_fetch 135 67 = some (.iinc 4 1, 70) := by decide +kernel
theorem pf_135_70 : pd_fetch 135 70 = some (.goto (Int.ofNat 29), 73) := by decide +kernel
theorem pf_135_73 : pd_fetch 135 73 = some (.aload 0, 74) := by decide +kernel
theorem pf_135_74 : pd_fetch 135 74 = some (.invokevirtual 132, 77) := by decide +kernel
theorem pf_135_77 : pd_fetch 135 77 = some (.pop, 78) := by decide +kernel
theorem pf_135_78 : pd_fetch 135 78 = some (.iinc 3 1, 81) := by decide +kernel
theorem pf_135_81 : pd_fetch 135 81 = some (.goto (Int.ofNat 15), 84) := by decide +kernel
theorem pf_135_84 : pd_fetch 135 84 = some (.return_, 85) := by decide +kernel
theorem pf_135_85 : pd_fetch 135 85 = some (.iconst 0, 86) := by decide +kernel
theorem pf_135_86 : pd_fetch 135 86 = some (.istore 3, 87) := by decide +kernel
theorem pf_135_87 : pd_fetch 135 87 = some (.iload 3, 88) := by decide +kernel
theorem pf_135_88 : pd_fetch 135 88 = some (.iconst 256, 91) := by decide +kernel
theorem pf_135_91 : pd_fetch 135 91 = some (.if_icmp .ge (Int.ofNat 183), 94) := by decide +kernel
theorem pf_135_94 : pd_fetch 135 94 = some (.iconst 0, 95) := by decide +kernel
theorem pf_135_95 : pd_fetch 135 95 = some (.istore 4, 97) := by decide +kernel
theorem pf_135_97 : pd_fetch 135 97 = some (.aload 0, 98) := by decide +kernel
theorem pf_135_98 : pd_fetch 135 98 = some (.invokevirtual 133, 101) := by decide +kernel
theorem pf_135_101 : pd_fetch 135 101 = some (.iconst 0, 102) := by decide +kernel
theorem pf_135_102 : pd_fetch 135 102 = some (.istore 5, 104) := by decide +kernel
theorem pf_135_104 : pd_fetch 135 104 = some (.iload 5, 106) := by decide +kernel
theorem pf_135_106 : pd_fetch 135 106 = some (.iload 2, 107) := by decide +kernel
theorem pf_135_107 : pd_fetch 135 107 = some (.if_icmp .ge (Int.ofNat 153), 110) := by decide +kernel
theorem pf_135_110 : pd_fetch 135 110 = some (.iload 3, 111) := by decide +kernel
theorem pf_135_111 : pd_fetch 135 111 = some (.iconst 2, 112) := by decide +kernel
theorem pf_135_112 : pd_fetch 135 112 = some (.iload 5, 114) := by decide +kernel
theorem pf_135_114 : pd_fetch 135 114 = some (.imul, 115) := by decide +kernel
theorem pf_135_115 : pd_fetch 135 115 = some (.ishr, 116) := by decide +kernel
theorem pf_135_116 : pd_fetch 135 116 = some (.iconst 3, 117) := by decide +kernel
theorem pf_135_117 : pd_fetch 135 117 = some (.iand, 118) := by decide +kernel
theorem pf_135_118 : pd_fetch 135 118 = some (.istore 6, 120) := by decide +kernel
theorem pf_135_120 : pd_fetch 135 120 = some (.iload 4, 122) := by decide +kernel
theorem pf_135_122 : pd_fetch 135 122 = some (.iconst 1, 123) := by decide +kernel
theorem pf_135_123 : pd_fetch 135 123 = some (.iload 6, 125) := by decide +kernel
theorem pf_135_125 : pd_fetch 135 125 = some (.ishl, 126) := by decide +kernel
theorem pf_135_126 : pd_fetch 135 126 = some (.ior, 127) := by decide +kernel
theorem pf_135_127 : pd_fetch 135 127 = some (.istore 4, 129) := by decide +kernel
theorem pf_135_129 : pd_fetch 135 129 = some (.aload 0, 130) := by decide +kernel
theorem pf_135_130 : pd_fetch 135 130 = some (.getfield 613, 133) := by decide +kernel
theorem pf_135_133 : pd_fetch 135 133 = some (.iconst 4, 134) := by decide +kernel
theorem pf_135_134 : pd_fetch 135 134 = some (.aload 0, 135) := by decide +kernel
theorem pf_135_135 : pd_fetch 135 135 = some (.getfield 611, 138) := by decide +kernel
theorem pf_135_138 : pd_fetch 135 138 = some (.imul, 139) := by decide +kernel
theorem pf_135_139 : pd_fetch 135 139 = some (.iload 5, 141) := by decide +kernel
theorem pf_135_141 : pd_fetch 135 141 = some (.iadd, 142) := by decide +kernel
theorem pf_135_142 : pd_fetch 135 142 = some (.aload 1, 143) := by decide +kernel
theorem pf_135_143 : pd_fetch 135 143 = some (.iload 6, 145) := by decide +kernel
theorem pf_135_145 : pd_fetch 135 145 = some (.iaload, 146) := by decide +kernel
theorem pf_135_146 : pd_fetch 135 146 = some (.iastore, 147) := by decide +kernel
theorem pf_135_147 : pd_fetch 135 147 = some (.iinc 5 1, 150) := by decide +kernel
theorem pf_135_150 : pd_fetch 135 150 = some (.goto (Int.ofNat 104), 153) := by decide +kernel
theorem pf_135_153 : pd_fetch 135 153 = some (.iload 4, 155) := by decide +kernel
theorem pf_135_155 : pd_fetch 135 155 = some (.iconst 1, 156) := by decide +kernel
theorem pf_135_156 : pd_fetch 135 156 = some (.iload 2, 157) := by decide +kernel
theorem pf_135_157 : pd_fetch 135 157 = some (.ishl, 158) := by decide +kernel
theorem pf_135_158 : pd_fetch 135 158 = some (.iconst 1, 159) := by decide +kernel
theorem pf_135_159 : pd_fetch 135 159 = some (.isub, 160) := by decide +kernel
theorem pf_135_160 : pd_fetch 135 160 = some (.if_icmp .ne (Int.ofNat 177), 163) := by decide +kernel
theorem pf_135_163 : pd_fetch 135 163 = some (.iload 3, 164) := by decide +kernel
theorem pf_135_164 : pd_fetch 135 164 = some (.iconst 1, 165) := by decide +kernel
theorem pf_135_165 : pd_fetch 135 165 = some (.iconst 2, 166) := by decide +kernel
theorem pf_135_166 : pd_fetch 135 166 = some (.iload 2, 167) := by decide +kernel
theorem pf_135_167 : pd_fetch 135 167 = some (.imul, 168) := by decide +kernel
theorem pf_135_168 : pd_fetch 135 168 = some (.ishl, 169) := by decide +kernel
theorem pf_135_169 : pd_fetch 135 169 = some (.if_icmp .ge (Int.ofNat 177), 172) := by decide +kernel
theorem pf_135_172 : pd_fetch 135 172 = some (.aload 0, 173) := by decide +kernel
theorem pf_135_173 : pd_fetch 135 173 = some (.invokevirtual 132, 176) := by decide +kernel
theorem pf_135_176 : pd_fetch 135 176 = some (.pop, 177) := by decide +kernel
theorem pf_135_177 : pd_fetch 135 177 = some (.iinc 3 1, 180) := by decide +kernel
theorem pf_135_180 : pd_fetch 135 180 = some (.goto (Int.ofNat 87), 183) := by decide +kernel
theorem pf_135_183 : pd_fetch 135 183 = some (.return_, 184) := by decide +kernel
theorem pf_137_0 : pd_fetch 137 0 = some (.aload 0, 1) := by decide +kernel
theorem pf_137_1 : pd_fetch 137 1 = some (.getfield 603, 4) := by decide +kernel
theorem pf_137_4 : pd_fetch 137 4 = some (.aload 0, 5) := by decide +kernel
theorem pf_137_5 : pd_fetch 137 5 = some (.getfield 602, 8) := by decide +kernel
theorem pf_137_8 : pd_fetch 137 8 = some (.if_icmp .ge (Int.ofNat 23), 11) := by decide +kernel
theorem pf_137_11 : pd_fetch 137 11 = some (.aload 0, 12) := by decide +kernel
theorem pf_137_12 : pd_fetch 137 12 = some (.getfield 601, 15) := by decide +kernel
theorem pf_137_15 : pd_fetch 137 15 = some (.aload 0, 16) := by decide +kernel
theorem pf_137_16 : pd_fetch 137 16 = some (.getfield 603, 19) := by decide +kernel
theorem pf_137_19 : pd_fetch 137 19 = some (.iaload, 20) := by decide +kernel
theorem pf_137_20 : pd_fetch 137 20 = some (.goto (Int.ofNat 25), 23) := by decide +kernel
theorem pf_137_23 : pd_fetch 137 23 = some (.iconst (-9), 25) := by decide +kernel
theorem pf_137_25 : pd_fetch 137 25 = some (.istore 1, 26) := by decide +kernel
theorem pf_137_26 : pd_fetch 137 26 = some (.aload 0, 27) := by decide +kernel
theorem pf_137_27 : pd_fetch 137 27 = some (.iload 1, 28) := by decide +kernel
theorem pf_137_28 : pd_fetch 137 28 = some (.iconst 115, 30) := by decide +kernel
theorem pf_137_30 : pd_fetch 137 30 = some (.if_icmp .ne (Int.ofNat 37), 33) := by decide +kernel
theorem pf_137_33 : pd_fetch 137 33 = some (.iconst 0, 34) := by decide +kernel
theorem pf_137_34 : pd_fetch 137 34 = some (.goto (Int.ofNat 79), 37) := by decide +kernel
theorem pf_137_37 : pd_fetch 137 37 = some (.iload 1, 38) := by decide +kernel
theorem pf_137_38 : pd_fetch 137 38 = some (.iconst 98, 40) := by decide +kernel
theorem pf_137_40 : pd_fetch 137 40 = some (.if_icmp .ne (Int.ofNat 47), 43) := by decide +kernel
theorem pf_137_43 : pd_fetch 137 43 = some (.iconst 1, 44) := by decide +kernel
theorem pf_137_44 : pd_fetch 137 44 = some (.goto (Int.ofNat 79), 47) := by decide +kernel
theorem pf_137_47 : pd_fetch 137 47 = some (.iload 1, 48) := by decide +kernel
theorem pf_137_48 : pd_fetch 137 48 = some (.iconst 99, 50) := by decide +kernel
theorem pf_137_50 : pd_fetch 137 50 = some (.if_icmp .ne (Int.ofNat 57), 53) := by decide +kernel
theorem pf_137_53 : pd_fetch 137 53 = some (.iconst 2, 54) := by decide +kernel
theorem pf_137_54 : pd_fetch 137 54 = some (.goto (Int.ofNat 79), 57) := by decide +kernel
theorem pf_137_57 : pd_fetch 137 57 = some (.iload 1, 58) := by decide +kernel
theorem pf_137_58 : pd_fetch 137 58 = some (.iconst 112, 60) := by decide +kernel
theorem pf_137_60 : pd_fetch 137 60 = some (.if_icmp .ne (Int.ofNat 67), 63) := by decide +kernel
theorem pf_137_63 : pd_fetch 137 63 = some (.iconst 3, 64) := by decide +kernel
theorem pf_137_64 : pd_fetch 137 64 = some (.goto (Int.ofNat 79), 67) := by decide +kernel
theorem pf_137_67 : pd_fetch 137 67 = some (.iload 1, 68) := by decide +kernel
theorem pf_137_68 : pd_fetch 137 68 = some (.iconst 108, 70) := by decide +kernel
theorem pf_137_70 : pd_fetch 137 70 = some (.if_icmp .ne (Int.ofNat 77), 73) := by decide +kernel
theorem pf_137_73 : pd_fetch 137 73 = some (.iconst 4, 74) := by decide +kernel
theorem pf_137_74 : pd_fetch 137 74 = some (.goto (Int.ofNat 79), 77) := by decide +kernel
theorem pf_137_77 : pd_fetch 137 77 = some (.iconst (-9), 79) := by decide +kernel
theorem pf_137_79 : pd_fetch 137 79 = some (.putfield 610, 82) := by decide +kernel
theorem pf_137_82 : pd_fetch 137 82 = some (.aload 0, 83) := by decide +kernel
theorem pf_137_83 : pd_fetch 137 83 = some (.getfield 610, 86) := by decide +kernel
theorem pf_137_86 : pd_fetch 137 86 = some (.iconst (-9), 88) := by decide +kernel
theorem pf_137_88 : pd_fetch 137 88 = some (.if_icmp .ne (Int.ofNat 93), 91) := by decide +kernel
theorem pf_137_91 : pd_fetch 137 91 = some (.iconst 0, 92) := by decide +kernel
theorem pf_137_92 : pd_fetch 137 92 = some (.ireturn, 93) := by decide +kernel
theorem pf_137_93 : pd_fetch 137 93 = some (.aload 0, 94) := by decide +kernel
theorem pf_137_94 : pd_fetch 137 94 = some (.dup, 95) := by decide +kernel
theorem pf_137_95 : pd_fetch 137 95 = some (.getfield 603, 98) := by decide +kernel
theorem pf_137_98 : pd_fetch 137 98 = some (.iconst 1, 99) := by decide +kernel
theorem pf_137_99 : pd_fetch 137 99 = some (.iadd, 100) := by decide +kernel
theorem pf_137_100 : pd_fetch 137 100 = some (.putfield 603, 103) := by decide +kernel
theorem pf_137_103 : pd_fetch 137 103 = some (.aload 0, 104) := by decide +kernel
theorem pf_137_104 : pd_fetch 137 104 = some (.getfield 610, 107) := by decide +kernel
theorem pf_137_107 : pd_fetch 137 107 = some (.iconst 4, 108) := by decide +kernel
theorem pf_137_108 : pd_fetch 137 108 = some (.if_icmp .ne (Int.ofNat 116), 111) := by decide +kernel
theorem pf_137_111 : pd_fetch 137 111 = some (.aload 0, 112) := by decide +kernel
theorem pf_137_112 : pd_fetch 137 112 = some (.invokevirtual 136, 115) := by decide +kernel
theorem pf_137_115 : pd_fetch 137 115 = some (.ireturn, 116) := by decide +kernel
theorem pf_137_116 : pd_fetch 137 116 = some (.aload 0, 117) := by decide +kernel
theorem pf_137_117 : pd_fetch 137 117 = some (.getfield 610, 120) := by decide +kernel
theorem pf_137_120 : pd_fetch 137 120 = some (.iconst 2, 121) := by decide +kernel
theorem pf_137_121 : pd_fetch 137 121 = some (.irem, 122) := by decide +kernel
theorem pf_137_122 : pd_fetch 137 122 = some (.iconst 1, 123) := by decide +kernel
theorem pf_137_123 : pd_fetch 137 123 = some (.if_icmp .ne (Int.ofNat 130), 126) := by decide +kernel
theorem pf_137_126 : pd_fetch 137 126 = some (.iconst 1, 127) := by decide +kernel
theorem pf_137_127 : pd_fetch 137 127 = some (.goto (Int.ofNat 131), 130) := by decide +kernel
theorem pf_137_130 : pd_fetch 137 130 = some (.iconst 0, 131) := by decide +kernel
theorem pf_137_131 : pd_fetch 137 131 = some (.istore 2, 132) := by decide +kernel
theorem pf_137_132 : pd_fetch 137 132 = some (.iconst 0, 133) := by decide +kernel
theorem pf_137_133 : pd_fetch 137 133 = some (.istore 3, 134) := by decide +kernel
theorem pf_137_134 : pd_fetch 137 134 = some (.iload 3, 135) := by decide +kernel
theorem pf_137_135 : pd_fetch 137 135 = some (.iload 2, 136) := by decide +kernel
theorem pf_137_136 : pd_fetch 137 136 = some (.ifCond .eq (Int.ofNat 146), 139) := by decide +kernel
theorem pf_137_139 : pd_fetch 137 139 = some (.aload 0, 140) := by decide +kernel
theorem pf_137_140 : pd_fetch 137 140 = some (.getfield 609, 143) := by decide +kernel
theorem pf_137_143 : pd_fetch 137 143 = some (.goto (Int.ofNat 147), 146) := by decide +kernel
theorem pf_137_146 : pd_fetch 137 146 = some (.iconst 1, 147) := by decide +kernel
theorem pf_137_147 : pd_fetch 137 147 = some (.if_icmp .ge (Int.ofNat 194), 150) := by decide +kernel
theorem pf_137_150 : pd_fetch 137 150 = some (.aload 0, 151) := by decide +kernel
theorem pf_137_151 : pd_fetch 137 151 = some (.getfield 624, 154) := by decide +kernel
theorem pf_137_154 : pd_fetch 137 154 = some (.iload 3, 155) := by decide +kernel
theorem pf_137_155 : pd_fetch 137 155 = some (.aload 0, 156) := by decide +kernel
theorem pf_137_156 : pd_fetch 137 156 = some (.aload 0, 157) := by decide +kernel
theorem pf_137_157 : pd_fetch 137 157 = some (.getfield 610, 160) := by decide +kernel
theorem pf_137_160 : pd_fetch 137 160 = some (.iconst 3, 161) := by decide +kernel
theorem pf_137_161 : pd_fetch 137 161 = some (.if_icmp .ne (Int.ofNat 168), 164) := by decide +kernel
theorem pf_137_164 : pd_fetch 137 164 = some (.iconst 0, 165) := by decide +kernel
theorem pf_137_165 : pd_fetch 137 165 = some (.goto (Int.ofNat 169), 168) := by decide +kernel
theorem pf_137_168 : pd_fetch 137 168 = some (.iconst 1, 169) := by decide +kernel
theorem pf_137_169 : pd_fetch 137 169 = some (.iconst 9, 171) := by decide +kernel
theorem pf_137_171 : pd_fetch 137 171 = some (.invokevirtual 130, 174) := by decide +kernel
theorem pf_137_174 : pd_fetch 137 174 = some (.iastore, 175) := by decide +kernel
theorem pf_137_175 : pd_fetch 137 175 = some (.aload 0, 176) := by decide +kernel
theorem pf_137_176 : pd_fetch 137 176 = some (.getfield 624, 179) := by decide +kernel
theorem pf_137_179 : pd_fetch 137 179 = some (.iload 3, 180) := by decide +kernel
theorem pf_137_180 : pd_fetch 137 180 = some (.iaload, 181) := by decide +kernel
theorem pf_137_181 : pd_fetch 137 181 = some (.iconst (-9), 183) := by decide +kernel
theorem pf_137_183 : pd_fetch 137 183 = some (.if_icmp .ne (Int.ofNat 188), 186) := by decide +kernel
theorem pf_137_186 : pd_fetch 137 186 = some (.iconst 0, 187) := by decide +kernel
theorem pf_137_187 : pd_fetch 137 187 = some (.ireturn, 188) := by decide +kernel
theorem pf_137_188 : pd_fetch 137 188 = some (.iinc 3 1, 191) := by decide +kernel
theorem pf_137_191 : pd_fetch 137 191 = some (.goto (Int.ofNat 134), 194) := by decide +kernel
theorem pf_137_194 : pd_fetch 137 194 = some (.iload 2, 195) := by decide +kernel
theorem pf_137_195 : pd_fetch 137 195 = some (.ifCond .eq (Int.ofNat 208), 198) := by decide +kernel
theorem pf_137_198 : pd_fetch 137 198 = some (.aload 0, 199) := by decide +kernel
theorem pf_137_199 : pd_fetch 137 199 = some (.aload 0, 200) := by decide +kernel
theorem pf_137_200 : pd_fetch 137 200 = some (.getfield 624, 203) := by decide +kernel
theorem pf_137_203 : pd_fetch 137 203 = some (.invokevirtual 135, 206) := by decide +kernel
theorem pf_137_206 : pd_fetch 137 206 = some (.iconst 1, 207) := by decide +kernel
theorem pf_137_207 : pd_fetch 137 207 = some (.ireturn, 208) := by decide +kernel
theorem pf_137_208 : pd_fetch 137 208 = some (.aload 0, 209) := by decide +kernel
theorem pf_137_209 : pd_fetch 137 209 = some (.getfield 610, 212) := by decide +kernel
theorem pf_137_212 : pd_fetch 137 212 = some (.ifCond .ne (Int.ofNat 222), 215) := by decide +kernel
theorem pf_137_215 : pd_fetch 137 215 = some (.aload 0, 216) := by decide +kernel
theorem pf_137_216 : pd_fetch 137 216 = some (.iconst (-9), 218) := by decide +kernel
theorem pf_137_218 : pd_fetch 137 218 = some (.iconst 0, 219) := by decide +kernel
theorem pf_137_219 : pd_fetch 137 219 = some (.invokevirtual 134, 222) := by decide +kernel
theorem pf_137_222 : pd_fetch 137 222 = some (.iconst 0, 223) := by decide +kernel
theorem pf_137_223 : pd_fetch 137 223 = some (.istore 3, 224) := by decide +kernel
theorem pf_137_224 : pd_fetch 137 224 = some (.iload 3, 225) := by decide +kernel
theorem pf_137_225 : pd_fetch 137 225 = some (.aload 0, 226) := by decide +kernel
theorem pf_137_226 : pd_fetch 137 226 = some (.getfield 609, 229) := by decide +kernel
theorem pf_137_229 : pd_fetch 137 229 = some (.if_icmp .ge (Int.ofNat 269), 232) := by decide +kernel
theorem pf_137_232 : pd_fetch 137 232 = some (.aload 0, 233) := by decide +kernel
theorem pf_137_233 : pd_fetch 137 233 = some (.iload 3, 234) := by decide +kernel
theorem pf_137_234 : pd_fetch 137 234 = some (.aload 0, 235) := by decide +kernel
theorem pf_137_235 : pd_fetch 137 235 = some (.getfield 624, 238) := by decide +kernel
theorem pf_137_238 : pd_fetch 137 238 = some (.iconst 0, 239) := by decide +kernel
theorem pf_137_239 : pd_fetch 137 239 = some (.iaload, 240) := by decide +kernel
theorem pf_137_240 : pd_fetch 137 240 = some (.invokevirtual 134, 243) := by decide +kernel
theorem pf_137_243 : pd_fetch 137 243 = some (.aload 0, 244) := by decide +kernel
theorem pf_137_244 : pd_fetch 137 244 = some (.getfield 610, 247) := by decide +kernel
theorem pf_137_247 : pd_fetch 137 247 = some (.iconst 2, 248) := by decide +kernel
theorem pf_137_248 : pd_fetch 137 248 = some (.if_icmp .ne (Int.ofNat 263), 251) := by decide +kernel
theorem pf_137_251 : pd_fetch 137 251 = some (.aload 0, 252) := by decide +kernel
theorem pf_137_252 : pd_fetch 137 252 = some (.iload 3, 253) := by decide +kernel
theorem pf_137_253 : pd_fetch 137 253 = some (.aload 0, 254) := by decide +kernel
theorem pf_137_254 : pd_fetch 137 254 = some (.getfield 624, 257) := by decide +kernel
theorem pf_137_257 : pd_fetch 137 257 = some (.iconst 0, 258) := by decide +kernel
theorem pf_137_258 : pd_fetch 137 258 = some (.iaload, 259) := by decide +kernel
theorem pf_137_259 : pd_fetch 137 259 = some (.ineg, 260) := by decide +kernel
theorem pf_137_260 : pd_fetch 137 260 = some (.invokevirtual 134, 263) := by decide +kernel
theorem pf_137_263 : pd_fetch 137 263 = some (.iinc 3 1, 266) := by decide +kernel
theorem pf_137_266 : pd_fetch 137 266 = some (.goto (Int.ofNat 224), 269) := by decide +kernel
theorem pf_137_269 : pd_fetch 137 269 = some (.iconst 1, 270) := by decide +kernel
theorem pf_137_270 : pd_fetch 137 270 = some (.ireturn, 271) := by decide +kernel
theorem pf_139_0 : pd_fetch 139 0 = some (.aload 0, 1) := by decide +kernel
theorem pf_139_1 : pd_fetch 139 1 = some (.iconst 114, 3) := by decide +kernel
theorem pf_139_3 : pd_fetch 139 3 = some (.invokevirtual 129, 6) := by decide +kernel
theorem pf_139_6 : pd_fetch 139 6 = some (.ifCond .ne (Int.ofNat 11), 9) := by decide +kernel
theorem pf_139_9 : pd_fetch 139 9 = some (.iconst 0, 10) := by decide +kernel
theorem pf_139_10 : pd_fetch 139 10 = some (.ireturn, 11) := by decide +kernel
theorem pf_139_11 : pd_fetch 139 11 = some (.iconst 0, 12) := by decide +kernel
theorem pf_139_12 : pd_fetch 139 12 = some (.istore 1, 13) := by decide +kernel
theorem pf_139_13 : pd_fetch 139 13 = some (.iload 1, 14) := by decide +kernel
theorem pf_139_14 : pd_fetch 139 14 = some (.aload 0, 15) := by decide +kernel
theorem pf_139_15 : pd_fetch 139 15 = some (.getfield 609, 18) := by decide +kernel
theorem pf_139_18 : pd_fetch 139 18 = some (.if_icmp .gt (Int.ofNat 80), 21) := by decide +kernel
theorem pf_139_21 : pd_fetch 139 21 = some (.aload 0, 22) := by decide +kernel
theorem pf_139_22 : pd_fetch 139 22 = some (.iload 1, 23) := by decide +kernel
theorem pf_139_23 : pd_fetch 139 23 = some (.aload 0, 24) := by decide +kernel
theorem pf_139_24 : pd_fetch 139 24 = some (.getfield 609, 27) := by decide +kernel
theorem pf_139_27 : pd_fetch 139 27 = some (.if_icmp .ne (Int.ofNat 34), 30) := by decide +kernel
theorem pf_139_30 : pd_fetch 139 30 = some (.iconst 2, 31) := by decide +kernel
theorem pf_139_31 : pd_fetch 139 31 = some (.goto (Int.ofNat 35), 34) := by decide +kernel
theorem pf_139_34 : pd_fetch 139 34 = some (.iconst 1, 35) := by decide +kernel
theorem pf_139_35 : pd_fetch 139 35 = some (.invokevirtual 138, 38) := by decide +kernel
theorem pf_139_38 : pd_fetch 139 38 = some (.istore 2, 39) := by decide +kernel
theorem pf_139_39 : pd_fetch 139 39 = some (.iload 2, 40) := by decide +kernel
theorem pf_139_40 : pd_fetch 139 40 = some (.iconst 1000, 43) := by decide +kernel
theorem pf_139_43 : pd_fetch 139 43 = some (.if_icmp .ne (Int.ofNat 48), 46) := by decide +kernel
theorem pf_139_46 : pd_fetch 139 46 = some (.iconst 0, 47) := by decide +kernel
theorem pf_139_47 : pd_fetch 139 47 = some (.ireturn, 48) := by decide +kernel
theorem pf_139_48 : pd_fetch 139 48 = some (.aload 0, 49) := by decide +kernel
theorem pf_139_49 : pd_fetch 139 49 = some (.getfield 614, 52) := by decide +kernel
theorem pf_139_52 : pd_fetch 139 52 = some (.iconst 5, 53) := by decide +kernel
theorem pf_139_53 : pd_fetch 139 53 = some (.aload 0, 54) := by decide +kernel
theorem pf_139_54 : pd_fetch 139 54 = some (.getfield 612, 57) := by decide +kernel
theorem pf_139_57 : pd_fetch 139 57 = some (.imul, 58) := by decide +kernel
theorem pf_139_58 : pd_fetch 139 58 = some (.iload 1, 59) := by decide +kernel
theorem pf_139_59 : pd_fetch 139 59 = some (.aload 0, 60) := by decide +kernel
theorem pf_139_60 : pd_fetch 139 60 = some (.getfield 609, 63) := by decide +kernel
theorem pf_139_63 : pd_fetch 139 63 = some (.if_icmp .ne (Int.ofNat 70), 66) := by decide +kernel
theorem pf_139_66 : pd_fetch 139 66 = some (.iconst 4, 67) := by decide +kernel
theorem pf_139_67 : pd_fetch 139 67 = some (.goto (Int.ofNat 71), 70) := by decide +kernel
theorem pf_139_70 : pd_fetch 139 70 = some (.iload 1, 71) := by decide +kernel
theorem pf_139_71 : pd_fetch 139 71 = some (.iadd, 72) := by decide +kernel
theorem pf_139_72 : pd_fetch 139 72 = some (.iload 2, 73) := by decide +kernel
theorem pf_139_73 : pd_fetch 139 73 = some (.iastore, 74) := by decide +kernel
theorem pf_139_74 : pd_fetch 139 74 = some (.iinc 1 1, 77) := by decide +kernel
theorem pf_139_77 : pd_fetch 139 77 = some (.goto (Int.ofNat 13), 80) := by decide +kernel
theorem pf_139_80 : pd_fetch 139 80 = some (.aload 0, 81) := by decide +kernel
theorem pf_139_81 : pd_fetch 139 81 = some (.dup, 82) := by decide +kernel
theorem pf_139_82 : pd_fetch 139 82 = some (.getfield 612, 85) := by decide +kernel
theorem pf_139_85 : pd_fetch 139 85 = some (.iconst 1, 86) := by decide +kernel
theorem pf_139_86 : pd_fetch 139 86 = some (.iadd, 87) := by decide +kernel
theorem pf_139_87 : pd_fetch 139 87 = some (.putfield 612, 90) := by decide +kernel
theorem pf_139_90 : pd_fetch 139 90 = some (.iconst 1, 91) := by decide +kernel
theorem pf_139_91 : pd_fetch 139 91 = some (.ireturn, 92) := by decide +kernel
theorem pf_141_0 : pd_fetch 141 0 = some (.aload 0, 1) := by decide +kernel
theorem pf_141_1 : pd_fetch 141 1 = some (.iconst 0, 2) := by decide +kernel
theorem pf_141_2 : pd_fetch 141 2 = some (.putfield 600, 5) := by decide +kernel
theorem pf_141_5 : pd_fetch 141 5 = some (.aload 0, 6) := by decide +kernel
theorem pf_141_6 : pd_fetch 141 6 = some (.invokevirtual 140, 9) := by decide +kernel
theorem pf_141_9 : pd_fetch 141 9 = some (.ifCond .eq (Int.ofNat 17), 12) := by decide +kernel
theorem pf_141_12 : pd_fetch 141 12 = some (.iconst (-9), 14) := by decide +kernel
theorem pf_141_14 : pd_fetch 141 14 = some (.goto (Int.ofNat 21), 17) := by decide +kernel
theorem pf_141_17 : pd_fetch 141 17 = some (.aload 0, 18) := by decide +kernel
theorem pf_141_18 : pd_fetch 141 18 = some (.getfield 603, 21) := by decide +kernel
theorem pf_141_21 : pd_fetch 141 21 = some (.ireturn, 22) := by decide +kernel
theorem pf_143_0 : pd_fetch 143 0 = some (.aload 0, 1) := by decide +kernel
theorem pf_143_1 : pd_fetch 143 1 = some (.iload 1, 2) := by decide +kernel
theorem pf_143_2 : pd_fetch 143 2 = some (.i2l, 3) := by decide +kernel
theorem pf_143_3 : pd_fetch 143 3 = some (.jsr (0), 4) := by decide +kernel
theorem pf_143_4 : pd_fetch 143 4 = some (.jsr (6), 7) := by decide +kernel
theorem pf_143_7 : pd_fetch 143 7 = some (.invokestatic 109, 10) := by decide +kernel
theorem pf_143_10 : pd_fetch 143 10 = some (.ifCond .eq (Int.ofNat 17), 13) := by decide +kernel
theorem pf_143_13 : pd_fetch 143 13 = some (.iconst 0, 14) := by decide +kernel
theorem pf_143_14 : pd_fetch 143 14 = some (.goto (Int.ofNat 18), 17) := by decide +kernel
theorem pf_143_17 : pd_fetch 143 17 = some (.iconst 1, 18) := by decide +kernel
theorem pf_143_18 : pd_fetch 143 18 = some (.invokevirtual 108, 21) := by decide +kernel
theorem pf_143_21 : pd_fetch 143 21 = some (.ifCond .eq (Int.ofNat 26), 24) := by decide +kernel
theorem pf_143_24 : pd_fetch 143 24 = some (.iconst 0, 25) := by decide +kernel
theorem pf_143_25 : pd_fetch 143 25 = some (.ireturn, 26) := by decide +kernel
theorem pf_143_26 : pd_fetch 143 26 = some (.iload 1, 27) := by decide +kernel
theorem pf_143_27 : pd_fetch 143 27 = some (.ifCond .ne (Int.ofNat 37), 30) := by decide +kernel
theorem pf_143_30 : pd_fetch 143 30 = some (.aload 0, 31) := by decide +kernel
theorem pf_143_31 : pd_fetch 143 31 = some (.getfield 604, 34) := by decide +kernel
theorem pf_143_34 : pd_fetch 143 34 = some (.goto (Int.ofNat 84), 37) := by decide +kernel
theorem pf_143_37 : pd_fetch 143 37 = some (.iload 1, 38) := by decide +kernel
theorem pf_143_38 : pd_fetch 143 38 = some (.iconst 1, 39) := by decide +kernel
theorem pf_143_39 : pd_fetch 143 39 = some (.if_icmp .ne (Int.ofNat 49), 42) := by decide +kernel
theorem pf_143_42 : pd_fetch 143 42 = some (.aload 0, 43) := by decide +kernel
theorem pf_143_43 : pd_fetch 143 43 = some (.getfield 605, 46) := by decide +kernel
theorem pf_143_46 : pd_fetch 143 46 = some (.goto (Int.ofNat 84), 49) := by decide +kernel
theorem pf_143_49 : pd_fetch 143 49 = some (.iload 1, 50) := by decide +kernel
theorem pf_143_50 : pd_fetch 143 50 = some (.iconst 2, 51) := by decide +kernel
theorem pf_143_51 : pd_fetch 143 51 = some (.if_icmp .ne (Int.ofNat 61), 54) := by decide +kernel
theorem pf_143_54 : pd_fetch 143 54 = some (.aload 0, 55) := by decide +kernel
theorem pf_143_55 : pd_fetch 143 55 = some (.getfield 606, 58) := by decide +kernel
theorem pf_143_58 : pd_fetch 143 58 = some (.goto (Int.ofNat 84), 61) := by decide +kernel
theorem pf_143_61 : pd_fetch 143 61 = some (.iload 1, 62) := by decide +kernel
theorem pf_143_62 : pd_fetch 143 62 = some (.iconst 3, 63) := by decide +kernel
theorem pf_143_63 : pd_fetch 143 63 = some (.if_icmp .ne (Int.ofNat 73), 66) := by decide +kernel
theorem pf_143_66 : pd_fetch 143 66 = some (.aload 0, 67) := by decide +kernel
theorem pf_143_67 : pd_fetch 143 67 = some (.getfield 607, 70) := by decide +kernel
theorem pf_143_70 : pd_fetch 143 70 = some (.goto (Int.ofNat 84), 73) := by decide +kernel
theorem pf_143_73 : pd_fetch 143 73 = some (.aload 0, 74) := by decide +kernel
theorem pf_143_74 : pd_fetch 143 74 = some (.getfield 615, 77) := by decide +kernel
theorem pf_143_77 : pd_fetch 143 77 = some (.iconst 68, 79) := by decide +kernel
theorem pf_143_79 : pd_fetch 143 79 = some (.iload 1, 80) := by decide +kernel
theorem pf_143_80 : pd_fetch 143 80 = some (.iadd, 81) := by decide +kernel
theorem pf_143_81 : pd_fetch 143 81 = some (.iconst 4, 82) := by decide +kernel
theorem pf_143_82 : pd_fetch 143 82 = some (.isub, 83) := by decide +kernel
theorem pf_143_83 : pd_fetch 143 83 = some (.iaload, 84) := by decide +kernel
theorem pf_143_84 : pd_fetch 143 84 = some (.ireturn, 85) := by decide +kernel
theorem pf_145_0 : pd_fetch 145 0 = some (.iload 1, 1) := by decide +kernel
theorem pf_145_1 : pd_fetch 145 1 = some (.i2l, 2) := by decide +kernel
theorem pf_145_2 : pd_fetch 145 2 = some (.jsr (0), 3) := by decide +kernel
theorem pf_145_3 : pd_fetch 145 3 = some (.aload 0, 4) := by decide +kernel
theorem pf_145_4 : pd_fetch 145 4 = some (.getfield 607, 7) := by decide +kernel
theorem pf_145_7 : pd_fetch 145 7 = some (.iconst 1, 8) := by decide +kernel
theorem pf_145_8 : pd_fetch 145 8 = some (.isub, 9) := by decide +kernel
theorem pf_145_9 : pd_fetch 145 9 = some (.i2l, 10) := by decide +kernel
theorem pf_145_10 : pd_fetch 145 10 = some (.invokestatic 109, 13) := by decide +kernel
theorem pf_145_13 : pd_fetch 145 13 = some (.ifCond .eq (Int.ofNat 34), 16) := by decide +kernel
theorem pf_145_16 : pd_fetch 145 16 = some (.iload 2, 17) := by decide +kernel
theorem pf_145_17 : pd_fetch 145 17 = some (.i2l, 18) := by decide +kernel
theorem pf_145_18 : pd_fetch 145 18 = some (.jsr (0), 19) := by decide +kernel
theorem pf_145_19 : pd_fetch 145 19 = some (.aload 0, 20) := by decide +kernel
theorem pf_145_20 : pd_fetch 145 20 = some (.getfield 604, 23) := by decide +kernel
theorem pf_145_23 : pd_fetch 145 23 = some (.i2l, 24) := by decide +kernel
theorem pf_145_24 : pd_fetch 145 24 = some (.invokestatic 109, 27) := by decide +kernel
theorem pf_145_27 : pd_fetch 145 27 = some (.ifCond .eq (Int.ofNat 34), 30) := by decide +kernel
theorem pf_145_30 : pd_fetch 145 30 = some (.iconst 1, 31) := by decide +kernel
theorem pf_145_31 : pd_fetch 145 31 = some (.goto (Int.ofNat 35), 34) := by decide +kernel
theorem pf_145_34 : pd_fetch 145 34 = some (.iconst 0, 35) := by decide +kernel
theorem pf_145_35 : pd_fetch 145 35 = some (.ireturn, 36) := by decide +kernel
theorem pf_147_0 : pd_fetch 147 0 = some (.aload 0, 1) := by decide +kernel
theorem pf_147_1 : pd_fetch 147 1 = some (.aload 0, 2) := by decide +kernel
theorem pf_147_2 : pd_fetch 147 2 = some (.iload 1, 3) := by decide +kernel
theorem pf_147_3 : pd_fetch 147 3 = some (.iload 2, 4) := by decide +kernel
theorem pf_147_4 : pd_fetch 147 4 = some (.invokevirtual 145, 7) := by decide +kernel
theorem pf_147_7 : pd_fetch 147 7 = some (.ifCond .eq (Int.ofNat 14), 10) := by decide +kernel
theorem pf_147_10 : pd_fetch 147 10 = some (.iconst 0, 11) := by decide +kernel
theorem pf_147_11 : pd_fetch 147 11 = some (.goto (Int.ofNat 15), 14) := by decide +kernel
theorem pf_147_14 : pd_fetch 147 14 = some (.iconst 1, 15) := by decide +kernel
theorem pf_147_15 : pd_fetch 147 15 = some (.invokevirtual 108, 18) := by decide +kernel
theorem pf_147_18 : pd_fetch 147 18 = some (.ifCond .eq (Int.ofNat 25), 21) := by decide +kernel
theorem pf_147_21 : pd_fetch 147 21 = some (.iconst 0, 22) := by decide +kernel
theorem pf_147_22 : pd_fetch 147 22 = some (.goto (Int.ofNat 36), 25) := by decide +kernel
theorem pf_147_25 : pd_fetch 147 25 = some (.aload 0, 26) := by decide +kernel
theorem pf_147_26 : pd_fetch 147 26 = some (.getfield 615, 29) := by decide +kernel
theorem pf_147_29 : pd_fetch 147 29 = some (.aload 0, 30) := by decide +kernel
theorem pf_147_30 : pd_fetch 147 30 = some (.iload 1, 31) := by decide +kernel
theorem pf_147_31 : pd_fetch 147 31 = some (.iload 2, 32) := by decide +kernel
theorem pf_147_32 : pd_fetch 147 32 = some (.invokevirtual 146, 35) := by decide +kernel
theorem pf_147_35 : pd_fetch 147 35 = some (.iaload, 36) := by decide +kernel
theorem pf_147_36 : pd_fetch 147 36 = some (.ireturn, 37) := by decide +kernel
theorem pf_149_0 : pd_fetch 149 0 = some (.aload 0, 1) := by decide +kernel
theorem pf_149_1 : pd_fetch 149 1 = some (.iconst 0, 2) := by decide +kernel
theorem pf_149_2 : pd_fetch 149 2 = some (.putfield 600, 5) := by decide +kernel
theorem pf_149_5 : pd_fetch 149 5 = some (.iconst 0, 6) := by decide +kernel
theorem pf_149_6 : pd_fetch 149 6 = some (.istore 5, 8) := by decide +kernel
theorem pf_149_8 : pd_fetch 149 8 = some (.iload 5, 10) := by decide +kernel
theorem pf_149_10 : pd_fetch 149 10 = some (.aload 0, 11) := by decide +kernel
theorem pf_149_11 : pd_fetch 149 11 = some (.getfield 606, 14) := by decide +kernel
theorem pf_149_14 : pd_fetch 149 14 = some (.if_icmp .ge (Int.ofNat 131), 17) := by decide +kernel
theorem pf_149_17 : pd_fetch 149 17 = some (.iconst 4, 18) := by decide +kernel
theorem pf_149_18 : pd_fetch 149 18 = some (.iload 5, 20) := by decide +kernel
theorem pf_149_20 : pd_fetch 149 20 = some (.imul, 21) := by decide +kernel
theorem pf_149_21 : pd_fetch 149 21 = some (.istore 6, 23) := by decide +kernel
theorem pf_149_23 : pd_fetch 149 23 = some (.aload 0, 24) := by decide +kernel
theorem pf_149_24 : pd_fetch 149 24 = some (.getfield 608, 27) := by decide +kernel
theorem pf_149_27 : pd_fetch 149 27 = some (.iload 6, 29) := by decide +kernel
theorem pf_149_29 : pd_fetch 149 29 = some (.iaload, 30) := by decide +kernel
theorem pf_149_30 : pd_fetch 149 30 = some (.iload 1, 31) := by decide +kernel
theorem pf_149_31 : pd_fetch 149 31 = some (.if_icmp .ne (Int.ofNat 114), 34) := by decide +kernel
theorem pf_149_34 : pd_fetch 149 34 = some (.aload 0, 35) := by decide +kernel
theorem pf_149_35 : pd_fetch 149 35 = some (.getfield 604, 38) := by decide +kernel
theorem pf_149_38 : pd_fetch 149 38 = some (.iconst 1, 39) := by decide +kernel
theorem pf_149_39 : pd_fetch 149 39 = some (.if_icmp .le (Int.ofNat 54), 42) := by decide +kernel
theorem pf_149_42 : pd_fetch 149 42 = some (.aload 0, 43) := by decide +kernel
theorem pf_149_43 : pd_fetch 149 43 = some (.getfield 608, 46) := by decide +kernel
theorem pf_149_46 : pd_fetch 149 46 = some (.iload 6, 48) := by decide +kernel
theorem pf_149_48 : pd_fetch 149 48 = some (.iconst 1, 49) := by decide +kernel
theorem pf_149_49 : pd_fetch 149 49 = some (.iadd, 50) := by decide +kernel
theorem pf_149_50 : pd_fetch 149 50 = some (.iaload, 51) := by decide +kernel
theorem pf_149_51 : pd_fetch 149 51 = some (.goto (Int.ofNat 55), 54) := by decide +kernel
theorem pf_149_54 : pd_fetch 149 54 = some (.iconst 0, 55) := by decide +kernel
theorem pf_149_55 : pd_fetch 149 55 = some (.iload 2, 56) := by decide +kernel
theorem pf_149_56 : pd_fetch 149 56 = some (.if_icmp .ne (Int.ofNat 114), 59) := by decide +kernel
theorem pf_149_59 : pd_fetch 149 59 = some (.aload 0, 60) := by decide +kernel
theorem pf_149_60 : pd_fetch 149 60 = some (.getfield 604, 63) := by decide +kernel
theorem pf_149_63 : pd_fetch 149 63 = some (.iconst 2, 64) := by decide +kernel
theorem pf_149_64 : pd_fetch 149 64 = some (.if_icmp .le (Int.ofNat 79), 67) := by decide +kernel
theorem pf_149_67 : pd_fetch 149 67 = some (.aload 0, 68) := by decide +kernel
theorem pf_149_68 : pd_fetch 149 68 = some (.getfield 608, 71) := by decide +kernel
theorem pf_149_71 : pd_fetch 149 71 = some (.iload 6, 73) := by decide +kernel
theorem pf_149_73 : pd_fetch 149 73 = some (.iconst 2, 74) := by decide +kernel
theorem pf_149_74 : pd_fetch 149 74 = some (.iadd, 75) := by decide +kernel
theorem pf_149_75 : pd_fetch 149 75 = some (.iaload, 76) := by decide +kernel
theorem pf_149_76 : pd_fetch 149 76 = some (.goto (Int.ofNat 80), 79) := by decide +kernel
theorem pf_149_79 : pd_fetch 149 79 = some (.iconst 0, 80) := by decide +kernel
theorem pf_149_80 : pd_fetch 149 80 = some (.iload 3, 81) := by decide +kernel
theorem pf_149_81 : pd_fetch 149 81 = some (.if_icmp .ne (Int.ofNat 114), 84) := by decide +kernel
theorem pf_149_84 : pd_fetch 149 84 = some (.aload 0, 85) := by decide +kernel
theorem pf_149_85 : pd_fetch 149 85 = some (.getfield 604, 88) := by decide +kernel
theorem pf_149_88 : pd_fetch 149 88 = some (.iconst 3, 89) := by decide +kernel
theorem pf_149_89 : pd_fetch 149 89 = some (.if_icmp .le (Int.ofNat 104), 92) := by decide +kernel
theorem pf_149_92 : pd_fetch 149 92 = some (.aload 0, 93) := by decide +kernel
theorem pf_149_93 : pd_fetch 149 93 = some (.getfield 608, 96) := by decide +kernel
theorem pf_149_96 : pd_fetch 149 96 = some (.iload 6, 98) := by decide +kernel
theorem pf_149_98 : pd_fetch 149 98 = some (.iconst 3, 99) := by decide +kernel
theorem pf_149_99 : pd_fetch 149 99 = some (.iadd, 100) := by decide +kernel
theorem pf_149_100 : pd_fetch 149 100 = some (.iaload, 101) := by decide +kernel
theorem pf_149_101 : pd_fetch 149 101 = some (.goto (Int.ofNat 105), 104) := by decide +kernel
theorem pf_149_104 : pd_fetch 149 104 = some (.iconst 0, 105) := by decide +kernel
theorem pf_149_105 : pd_fetch 149 105 = some (.iload 4, 107) := by decide +kernel
theorem pf_149_107 : pd_fetch 149 107 = some (.if_icmp .ne (Int.ofNat 114), 110) := by decide +kernel
theorem pf_149_110 : pd_fetch 149 110 = some (.iconst 1, 111) := by decide +kernel
theorem pf_149_111 : pd_fetch 149 111 = some (.goto (Int.ofNat 115), 114) := by decide +kernel
theorem pf_149_114 : pd_fetch 149 114 = some (.iconst 0, 115) := by decide +kernel
theorem pf_149_115 : pd_fetch 149 115 = some (.istore 7, 117) := by decide +kernel
theorem pf_149_117 : pd_fetch 149 117 = some (.iload 7, 119) := by decide +kernel
theorem pf_149_119 : pd_fetch 149 119 = some (.ifCond .eq (Int.ofNat 125), 122) := by decide +kernel
theorem pf_149_122 : pd_fetch 149 122 = some (.iload 5, 124) := by decide +kernel
theorem pf_149_124 : pd_fetch 149 124 = some (.ireturn, 125) := by decide +kernel
theorem pf_149_125 : pd_fetch 149 125 = some (.iinc 5 1, 128) := by decide +kernel
theorem pf_149_128 : pd_fetch 149 128 = some (.goto (Int.ofNat 8), 131) := by decide +kernel
theorem pf_149_131 : pd_fetch 149 131 = some (.iconst (-9), 133) := by decide +kernel
theorem pf_149_133 : pd_fetch 149 133 = some (.ireturn, 134) := by decide +kernel
theorem pf_151_0 : pd_fetch 151 0 = some (.aload 0, 1) := by decide +kernel
theorem pf_151_1 : pd_fetch 151 1 = some (.iload 1, 2) := by decide +kernel
theorem pf_151_2 : pd_fetch 151 2 = some (.i2l, 3) := by decide +kernel
theorem pf_151_3 : pd_fetch 151 3 = some (.jsr (0), 4) := by decide +kernel
theorem pf_151_4 : pd_fetch 151 4 = some (.jsr (2), 7) := by decide +kernel
theorem pf_151_7 : pd_fetch 151 7 = some (.invokestatic 109, 10) := by decide +kernel
theorem pf_151_10 : pd_fetch 151 10 = some (.ifCond .ne (Int.ofNat 17), 13) := by decide +kernel
theorem pf_151_13 : pd_fetch 151 13 = some (.iconst 1, 14) := by decide +kernel
theorem pf_151_14 : pd_fetch 151 14 = some (.goto (Int.ofNat 38), 17) := by decide +kernel
theorem pf_151_17 : pd_fetch 151 17 = some (.iload 1, 18) := by decide +kernel
theorem pf_151_18 : pd_fetch 151 18 = some (.iconst 1, 19) := by decide +kernel
theorem pf_151_19 : pd_fetch 151 19 = some (.if_icmp .ne (Int.ofNat 37), 22) := by decide +kernel
theorem pf_151_22 : pd_fetch 151 22 = some (.aload 0, 23) := by decide +kernel
theorem pf_151_23 : pd_fetch 151 23 = some (.getfield 615, 26) := by decide +kernel
theorem pf_151_26 : pd_fetch 151 26 = some (.iconst 68, 28) := by decide +kernel
theorem pf_151_28 : pd_fetch 151 28 = some (.iaload, 29) := by decide +kernel
theorem pf_151_29 : pd_fetch 151 29 = some (.iconst 2, 30) := by decide +kernel
theorem pf_151_30 : pd_fetch 151 30 = some (.if_icmp .ge (Int.ofNat 37), 33) := by decide +kernel
theorem pf_151_33 : pd_fetch 151 33 = some (.iconst 2, 34) := by decide +kernel
theorem pf_151_34 : pd_fetch 151 34 = some (.goto (Int.ofNat 38), 37) := by decide +kernel
theorem pf_151_37 : pd_fetch 151 37 = some (.iconst 0, 38) := by decide +kernel
theorem pf_151_38 : pd_fetch 151 38 = some (.invokevirtual 108, 41) := by decide +kernel
theorem pf_151_41 : pd_fetch 151 41 = some (.ifCond .eq (Int.ofNat 46), 44) := by decide +kernel
theorem pf_151_44 : pd_fetch 151 44 = some (.iconst 0, 45) := by decide +kernel
theorem pf_151_45 : pd_fetch 151 45 = some (.ireturn, 46) := by decide +kernel
theorem pf_151_46 : pd_fetch 151 46 = some (.aload 0, 47) := by decide +kernel
theorem pf_151_47 : pd_fetch 151 47 = some (.invokevirtual 150, 50) := by decide +kernel
theorem pf_151_50 : pd_fetch 151 50 = some (.aload 0, 51) := by decide +kernel
theorem pf_151_51 : pd_fetch 151 51 = some (.aload 0, 52) := by decide +kernel
theorem pf_151_52 : pd_fetch 151 52 = some (.getfield 615, 55) := by decide +kernel
theorem pf_151_55 : pd_fetch 151 55 = some (.iload 1, 56) := by decide +kernel
theorem pf_151_56 : pd_fetch 151 56 = some (.invokevirtual 124, 59) := by decide +kernel
theorem pf_151_59 : pd_fetch 151 59 = some (.ireturn, 60) := by decide +kernel
theorem pf_153_0 : pd_fetch 153 0 = some (.aload 0, 1) := by decide +kernel
theorem pf_153_1 : pd_fetch 153 1 = some (.iload 1, 2) := by decide +kernel
theorem pf_153_2 : pd_fetch 153 2 = some (.i2l, 3) := by decide +kernel
theorem pf_153_3 : pd_fetch 153 3 = some (.jsr (0), 4) := by decide +kernel
theorem pf_153_4 : pd_fetch 153 4 = some (.aload 0, 5) := by decide +kernel
theorem pf_153_5 : pd_fetch 153 5 = some (.getfield 615, 8) := by decide +kernel
theorem pf_153_8 : pd_fetch 153 8 = some (.iconst 68, 10) := by decide +kernel
theorem pf_153_10 : pd_fetch 153 10 = some (.iaload, 11) := by decide +kernel
theorem pf_153_11 : pd_fetch 153 11 = some (.iconst 1, 12) := by decide +kernel
theorem pf_153_12 : pd_fetch 153 12 = some (.isub, 13) := by decide +kernel
theorem pf_153_13 : pd_fetch 153 13 = some (.i2l, 14) := by decide +kernel
theorem pf_153_14 : pd_fetch 153 14 = some (.invokestatic 109, 17) := by decide +kernel
theorem pf_153_17 : pd_fetch 153 17 = some (.ifCond .eq (Int.ofNat 28), 20) := by decide +kernel
theorem pf_153_20 : pd_fetch 153 20 = some (.aload 0, 21) := by decide +kernel
theorem pf_153_21 : pd_fetch 153 21 = some (.iload 2, 22) := by decide +kernel
theorem pf_153_22 : pd_fetch 153 22 = some (.invokevirtual 111, 25) := by decide +kernel
theorem pf_153_25 : pd_fetch 153 25 = some (.ifCond .ne (Int.ofNat 32), 28) := by decide +kernel
theorem pf_153_28 : pd_fetch 153 28 = some (.iconst 1, 29) := by decide +kernel
theorem pf_153_29 : pd_fetch 153 29 = some (.goto (Int.ofNat 56), 32) := by decide +kernel
theorem pf_153_32 : pd_fetch 153 32 = some (.iload 3, 33) := by decide +kernel
theorem pf_153_33 : pd_fetch 153 33 = some (.i2l, 34) := by decide +kernel
theorem pf_153_34 : pd_fetch 153 34 = some (.jsr (0), 35) := by decide +kernel
theorem pf_153_35 : pd_fetch 153 35 = some (.aload 0, 36) := by decide +kernel
theorem pf_153_36 : pd_fetch 153 36 = some (.getfield 615, 39) := by decide +kernel
theorem pf_153_39 : pd_fetch 153 39 = some (.iconst 44, 41) := by decide +kernel
theorem pf_153_41 : pd_fetch 153 41 = some (.iload 1, 42) := by decide +kernel
theorem pf_153_42 : pd_fetch 153 42 = some (.iadd, 43) := by decide +kernel
theorem pf_153_43 : pd_fetch 153 43 = some (.iaload, 44) := by decide +kernel
theorem pf_153_44 : pd_fetch 153 44 = some (.i2l, 45) := by decide +kernel
theorem pf_153_45 : pd_fetch 153 45 = some (.invokestatic 109, 48) := by decide +kernel
theorem pf_153_48 : pd_fetch 153 48 = some (.ifCond .ne (Int.ofNat 55), 51) := by decide +kernel
theorem pf_153_51 : pd_fetch 153 51 = some (.iconst 2, 52) := by decide +kernel
theorem pf_153_52 : pd_fetch 153 52 = some (.goto (Int.ofNat 56), 55) := by decide +kernel
theorem pf_153_55 : pd_fetch 153 55 = some (.iconst 0, 56) := by decide +kernel
theorem pf_153_56 : pd_fetch 153 56 = some (.invokevirtual 108, 59) := by decide +kernel
theorem pf_153_59 : pd_fetch 153 59 = some (.ifCond .eq (Int.ofNat 64), 62) := by decide +kernel
theorem pf_153_62 : pd_fetch 153 62 = some (.iconst 0, 63) := by decide +kernel
theorem pf_153_63 : pd_fetch 153 63 = some (.ireturn, 64) := by decide +kernel
theorem pf_153_64 : pd_fetch 153 64 = some (.aload 0, 65) := by decide +kernel
theorem pf_153_65 : pd_fetch 153 65 = some (.invokevirtual 150, 68) := by decide +kernel
theorem pf_153_68 : pd_fetch 153 68 = some (.aload 0, 69) := by decide +kernel
theorem pf_153_69 : pd_fetch 153 69 = some (.getfield 615, 72) := by decide +kernel
theorem pf_153_72 : pd_fetch 153 72 = some (.iload 1, 73) := by decide +kernel
theorem pf_153_73 : pd_fetch 153 73 = some (.iload 2, 74) := by decide +kernel
theorem pf_153_74 : pd_fetch 153 74 = some (.iload 3, 75) := by decide +kernel
theorem pf_153_75 : pd_fetch 153 75 = some (.invokestatic 125, 78) := by decide +kernel
theorem pf_153_78 : pd_fetch 153 78 = some (.aload 0, 79) := by decide +kernel
theorem pf_153_79 : pd_fetch 153 79 = some (.getfield 615, 82) := by decide +kernel
theorem pf_153_82 : pd_fetch 153 82 = some (.iconst 68, 84) := by decide +kernel
theorem pf_153_84 : pd_fetch 153 84 = some (.iaload, 85) := by decide +kernel
theorem pf_153_85 : pd_fetch 153 85 = some (.ireturn, 86) := by decide +kernel
theorem pf_155_0 : pd_fetch 155 0 = some (.aload 0, 1) := by decide +kernel
theorem pf_155_1 : pd_fetch 155 1 = some (.aload 0, 2) := by decide +kernel
theorem pf_155_2 : pd_fetch 155 2 = some (.iload 1, 3) := by decide +kernel
theorem pf_155_3 : pd_fetch 155 3 = some (.iload 2, 4) := by decide +kernel
theorem pf_155_4 : pd_fetch 155 4 = some (.invokevirtual 145, 7) := by decide +kernel
theorem pf_155_7 : pd_fetch 155 7 = some (.ifCond .ne (Int.ofNat 14), 10) := by decide +kernel
theorem pf_155_10 : pd_fetch 155 10 = some (.iconst 1, 11) := by decide +kernel
theorem pf_155_11 : pd_fetch 155 11 = some (.goto (Int.ofNat 58), 14) := by decide +kernel
theorem pf_155_14 : pd_fetch 155 14 = some (.iload 2, 15) := by decide +kernel
theorem pf_155_15 : pd_fetch 155 15 = some (.aload 0, 16) := by decide +kernel
theorem pf_155_16 : pd_fetch 155 16 = some (.getfield 604, 19) := by decide +kernel
theorem pf_155_19 : pd_fetch 155 19 = some (.if_icmp .ne (Int.ofNat 39), 22) := by decide +kernel
theorem pf_155_22 : pd_fetch 155 22 = some (.iload 3, 23) := by decide +kernel
theorem pf_155_23 : pd_fetch 155 23 = some (.i2l, 24) := by decide +kernel
theorem pf_155_24 : pd_fetch 155 24 = some (.jsr (-99), 27) := by decide +kernel
theorem pf_155_27 : pd_fetch 155 27 = some (.jsr (99), 30) := by decide +kernel
theorem pf_155_30 : pd_fetch 155 30 = some (.invokestatic 109, 33) := by decide +kernel
theorem pf_155_33 : pd_fetch 155 33 = some (.ifCond .eq (Int.ofNat 53), 36) := by decide +kernel
theorem pf_155_36 : pd_fetch 155 36 = some (.goto (Int.ofNat 57), 39) := by decide +kernel
theorem pf_155_39 : pd_fetch 155 39 = some (.iload 3, 40) := by decide +kernel
theorem pf_155_40 : pd_fetch 155 40 = some (.i2l, 41) := by decide +kernel
theorem pf_155_41 : pd_fetch 155 41 = some (.jsr (-9), 44) := by decide +kernel
theorem pf_155_44 : pd_fetch 155 44 = some (.jsr (9), 47) := by decide +kernel
theorem pf_155_47 : pd_fetch 155 47 = some (.invokestatic 109, 50) := by decide +kernel
theorem pf_155_50 : pd_fetch 155 50 = some (.ifCond .ne (Int.ofNat 57), 53) := by decide +kernel
theorem pf_155_53 : pd_fetch 155 53 = some (.iconst 2, 54) := by decide +kernel
theorem pf_155_54 : pd_fetch 155 54 = some (.goto (Int.ofNat 58), 57) := by decide +kernel
theorem pf_155_57 : pd_fetch 155 57 = some (.iconst 0, 58) := by decide +kernel
theorem pf_155_58 : pd_fetch 155 58 = some (.invokevirtual 108, 61) := by decide +kernel
theorem pf_155_61 : pd_fetch 155 61 = some (.ifCond .eq (Int.ofNat 66), 64) := by decide +kernel
theorem pf_155_64 : pd_fetch 155 64 = some (.iconst 0, 65) := by decide +kernel
theorem pf_155_65 : pd_fetch 155 65 = some (.ireturn, 66) := by decide +kernel
theorem pf_155_66 : pd_fetch 155 66 = some (.aload 0, 67) := by decide +kernel
theorem pf_155_67 : pd_fetch 155 67 = some (.invokevirtual 150, 70) := by decide +kernel
theorem pf_155_70 : pd_fetch 155 70 = some (.aload 0, 71) := by decide +kernel
theorem pf_155_71 : pd_fetch 155 71 = some (.getfield 615, 74) := by decide +kernel
theorem pf_155_74 : pd_fetch 155 74 = some (.aload 0, 75) := by decide +kernel
theorem pf_155_75 : pd_fetch 155 75 = some (.iload 1, 76) := by decide +kernel
theorem pf_155_76 : pd_fetch 155 76 = some (.iload 2, 77) := by decide +kernel
theorem pf_155_77 : pd_fetch 155 77 = some (.invokevirtual 146, 80) := by decide +kernel
theorem pf_155_80 : pd_fetch 155 80 = some (.iaload, 81) := by decide +kernel
theorem pf_155_81 : pd_fetch 155 81 = some (.istore 4, 83) := by decide +kernel
theorem pf_155_83 : pd_fetch 155 83 = some (.aload 0, 84) := by decide +kernel
theorem pf_155_84 : pd_fetch 155 84 = some (.getfield 615, 87) := by decide +kernel
theorem pf_155_87 : pd_fetch 155 87 = some (.aload 0, 88) := by decide +kernel
theorem pf_155_88 : pd_fetch 155 88 = some (.iload 1, 89) := by decide +kernel
theorem pf_155_89 : pd_fetch 155 89 = some (.iload 2, 90) := by decide +kernel
theorem pf_155_90 : pd_fetch 155 90 = some (.invokevirtual 146, 93) := by decide +kernel
theorem pf_155_93 : pd_fetch 155 93 = some (.iload 3, 94) := by decide +kernel
theorem pf_155_94 : pd_fetch 155 94 = some (.iastore, 95) := by decide +kernel
theorem pf_155_95 : pd_fetch 155 95 = some (.iload 4, 97) := by decide +kernel
theorem pf_155_97 : pd_fetch 155 97 = some (.ireturn, 98) := by decide +kernel
theorem pf_157_0 : pd_fetch 157 0 = some (.aload 0, 1) := by decide +kernel
theorem pf_157_1 : pd_fetch 157 1 = some (.iload 1, 2) := by decide +kernel
theorem pf_157_2 : pd_fetch 157 2 = some (.i2l, 3) := by decide +kernel
theorem pf_157_3 : pd_fetch 157 3 = some (.jsr (0), 4) := by decide +kernel
theorem pf_157_4 : pd_fetch 157 4 = some (.aload 0, 5) := by decide +kernel
theorem pf_157_5 : pd_fetch 157 5 = some (.getfield 604, 8) := by decide +kernel
theorem pf_157_8 : pd_fetch 157 8 = some (.iconst 1, 9) := by decide +kernel
theorem pf_157_9 : pd_fetch 157 9 = some (.isub, 10) := by decide +kernel
theorem pf_157_10 : pd_fetch 157 10 = some (.i2l, 11) := by decide +kernel
theorem pf_157_11 : pd_fetch 157 11 = some (.invokestatic 109, 14) := by decide +kernel
theorem pf_157_14 : pd_fetch 157 14 = some (.ifCond .eq (Int.ofNat 21), 17) := by decide +kernel
theorem pf_157_17 : pd_fetch 157 17 = some (.iconst 0, 18) := by decide +kernel
theorem pf_157_18 : pd_fetch 157 18 = some (.goto (Int.ofNat 22), 21) := by decide +kernel
theorem pf_157_21 : pd_fetch 157 21 = some (.iconst 1, 22) := by decide +kernel
theorem pf_157_22 : pd_fetch 157 22 = some (.invokevirtual 108, 25) := by decide +kernel
theorem pf_157_25 : pd_fetch 157 25 = some (.ifCond .eq (Int.ofNat 32), 28) := by decide +kernel
theorem pf_157_28 : pd_fetch 157 28 = some (.iconst 0, 29) := by decide +kernel
theorem pf_157_29 : pd_fetch 157 29 = some (.goto (Int.ofNat 41), 32) := by decide +kernel
theorem pf_157_32 : pd_fetch 157 32 = some (.aload 0, 33) := by decide +kernel
theorem pf_157_33 : pd_fetch 157 33 = some (.aload 0, 34) := by decide +kernel
theorem pf_157_34 : pd_fetch 157 34 = some (.getfield 615, 37) := by decide +kernel
theorem pf_157_37 : pd_fetch 157 37 = some (.iload 1, 38) := by decide +kernel
theorem pf_157_38 : pd_fetch 157 38 = some (.invokevirtual 112, 41) := by decide +kernel
theorem pf_157_41 : pd_fetch 157 41 = some (.ireturn, 42) := by decide +kernel
theorem pf_159_0 : pd_fetch 159 0 = some (.aload 0, 1) := by decide +kernel
theorem pf_159_1 : pd_fetch 159 1 = some (.iload 2, 2) := by decide +kernel
theorem pf_159_2 : pd_fetch 159 2 = some (.ifCond .eq (Int.ofNat 21), 5) := by decide +kernel
theorem pf_159_5 : pd_fetch 159 5 = some (.aload 0, 6) := by decide +kernel
theorem pf_159_6 : pd_fetch 159 6 = some (.iload 1, 7) := by decide +kernel
theorem pf_159_7 : pd_fetch 159 7 = some (.invokevirtual 111, 10) := by decide +kernel
theorem pf_159_10 : pd_fetch 159 10 = some (.ifCond .eq (Int.ofNat 17), 13) := by decide +kernel
theorem pf_159_13 : pd_fetch 159 13 = some (.iconst 0, 14) := by decide +kernel
theorem pf_159_14 : pd_fetch 159 14 = some (.goto (Int.ofNat 42), 17) := by decide +kernel
theorem pf_159_17 : pd_fetch 159 17 = some (.iconst 1, 18) := by decide +kernel
theorem pf_159_18 : pd_fetch 159 18 = some (.goto (Int.ofNat 42), 21) := by decide +kernel
theorem pf_159_21 : pd_fetch 159 21 = some (.iload 1, 22) := by decide +kernel
theorem pf_159_22 : pd_fetch 159 22 = some (.i2l, 23) := by decide +kernel
theorem pf_159_23 : pd_fetch 159 23 = some (.jsr (0), 24) := by decide +kernel
theorem pf_159_24 : pd_fetch 159 24 = some (.aload 0, 25) := by decide +kernel
theorem pf_159_25 : pd_fetch 159 25 = some (.getfield 604, 28) := by decide +kernel
theorem pf_159_28 : pd_fetch 159 28 = some (.iconst 1, 29) := by decide +kernel
theorem pf_159_29 : pd_fetch 159 29 = some (.isub, 30) := by decide +kernel
theorem pf_159_30 : pd_fetch 159 30 = some (.i2l, 31) := by decide +kernel
theorem pf_159_31 : pd_fetch 159 31 = some (.invokestatic 109, 34) := by decide +kernel
theorem pf_159_34 : pd_fetch 159 34 = some (.ifCond .eq (Int.ofNat 41), 37) := by decide +kernel
theorem pf_159_37 : pd_fetch 159 37 = some (.iconst 0, 38) := by decide +kernel
theorem pf_159_38 : pd_fetch 159 38 = some (.goto (Int.ofNat 42), 41) := by decide +kernel
theorem pf_159_41 : pd_fetch 159 41 = some (.iconst 1, 42) := by decide +kernel
theorem pf_159_42 : pd_fetch 159 42 = some (.invokevirtual 108, 45) := by decide +kernel
theorem pf_159_45 : pd_fetch 159 45 = some (.ifCond .eq (Int.ofNat 50), 48) := by decide +kernel
theorem pf_159_48 : pd_fetch 159 48 = some (.jsr (0), 49) := by decide +kernel
theorem pf_159_49 : pd_fetch 159 49 = some (.lreturn, 50) := by decide +kernel
theorem pf_159_50 : pd_fetch 159 50 = some (.iload 2, 51) := by decide +kernel
theorem pf_159_51 : pd_fetch 159 51 = some (.ifCond .eq (Int.ofNat 66), 54) := by decide +kernel
theorem pf_159_54 : pd_fetch 159 54 = some (.aload 0, 55) := by decide +kernel
theorem pf_159_55 : pd_fetch 159 55 = some (.aload 0, 56) := by decide +kernel
theorem pf_159_56 : pd_fetch 159 56 = some (.getfield 615, 59) := by decide +kernel
theorem pf_159_59 : pd_fetch 159 59 = some (.iload 1, 60) := by decide +kernel
theorem pf_159_60 : pd_fetch 159 60 = some (.invokevirtual 117, 63) := by decide +kernel
theorem pf_159_63 : pd_fetch 159 63 = some (.goto (Int.ofNat 75), 66) := by decide +kernel
theorem pf_159_66 : pd_fetch 159 66 = some (.aload 0, 67) := by decide +kernel
theorem pf_159_67 : pd_fetch 159 67 = some (.aload 0, 68) := by decide +kernel
theorem pf_159_68 : pd_fetch 159 68 = some (.getfield 615, 71) := by decide +kernel
theorem pf_159_71 : pd_fetch 159 71 = some (.iload 1, 72) := by decide +kernel
theorem pf_159_72 : pd_fetch 159 72 = some (.invokevirtual 116, 75) := by decide +kernel
theorem pf_159_75 : pd_fetch 159 75 = some (.lreturn, 76) := by decide +kernel
theorem pf_161_0 : pd_fetch 161 0 = some (.aload 0, 1) := by decide +kernel
theorem pf_161_1 : pd_fetch 161 1 = some (.iconst 0, 2) := by decide +kernel
theorem pf_161_2 : pd_fetch 161 2 = some (.putfield 600, 5) := by decide +kernel
theorem pf_161_5 : pd_fetch 161 5 = some (.aload 0, 6) := by decide +kernel
theorem pf_161_6 : pd_fetch 161 6 = some (.aload 0, 7) := by decide +kernel
theorem pf_161_7 : pd_fetch 161 7 = some (.getfield 615, 10) := by decide +kernel
theorem pf_161_10 : pd_fetch 161 10 = some (.invokevirtual 120, 13) := by decide +kernel
theorem pf_161_13 : pd_fetch 161 13 = some (.lreturn, 14) := by decide +kernel
theorem pf_163_0 : pd_fetch 163 0 = some (.aload 0, 1) := by decide +kernel
theorem pf_163_1 : pd_fetch 163 1 = some (.iconst 0, 2) := by decide +kernel
theorem pf_163_2 : pd_fetch 163 2 = some (.putfield 600, 5) := by decide +kernel
theorem pf_163_5 : pd_fetch 163 5 = some (.aload 0, 6) := by decide +kernel
theorem pf_163_6 : pd_fetch 163 6 = some (.aload 0, 7) := by decide +kernel
theorem pf_163_7 : pd_fetch 163 7 = some (.getfield 615, 10) := by decide +kernel
theorem pf_163_10 : pd_fetch 163 10 = some (.invokevirtual 119, 13) := by decide +kernel
theorem pf_163_13 : pd_fetch 163 13 = some (.ireturn, 14) := by decide +kernel
theorem pf_165_0 : pd_fetch 165 0 = some (.aload 0, 1) := by decide +kernel
theorem pf_165_1 : pd_fetch 165 1 = some (.iload 1, 2) := by decide +kernel
theorem pf_165_2 : pd_fetch 165 2 = some (.i2l, 3) := by decide +kernel
theorem pf_165_3 : pd_fetch 165 3 = some (.jsr (-999), 6) := by decide +kernel
theorem pf_165_6 : pd_fetch 165 6 = some (.jsr (999), 9) := by decide +kernel
theorem pf_165_9 : pd_fetch 165 9 = some (.invokestatic 109, 12) := by decide +kernel
theorem pf_165_12 : pd_fetch 165 12 = some (.ifCond .eq (Int.ofNat 62), 15) := by decide +kernel
theorem pf_165_15 : pd_fetch 165 15 = some (.iload 2, 16) := by decide +kernel
theorem pf_165_16 : pd_fetch 165 16 = some (.i2l, 17) := by decide +kernel
theorem pf_165_17 : pd_fetch 165 17 = some (.jsr (-999), 20) := by decide +kernel
theorem pf_165_20 : pd_fetch 165 20 = some (.jsr (999), 23) := by decide +kernel
theorem pf_165_23 : pd_fetch 165 23 = some (.invokestatic 109, 26) := by decide +kernel
theorem pf_165_26 : pd_fetch 165 26 = some (.ifCond .eq (Int.ofNat 62), 29) := by decide +kernel
theorem pf_165_29 : pd_fetch 165 29 = some (.iload 3, 30) := by decide +kernel
theorem pf_165_30 : pd_fetch 165 30 = some (.i2l, 31) := by decide +kernel
theorem pf_165_31 : pd_fetch 165 31 = some (.jsr (-999), 34) := by decide +kernel
theorem pf_165_34 : pd_fetch 165 34 = some (.jsr (999), 37) := by decide +kernel
theorem pf_165_37 : pd_fetch 165 37 = some (.invokestatic 109, 40) := by decide +kernel
theorem pf_165_40 : pd_fetch 165 40 = some (.ifCond .eq (Int.ofNat 62), 43) := by decide +kernel
theorem pf_165_43 : pd_fetch 165 43 = some (.iload 4, 45) := by decide +kernel
theorem pf_165_45 : pd_fetch 165 45 = some (.i2l, 46) := by decide +kernel
theorem pf_165_46 : pd_fetch 165 46 = some (.jsr (-999), 49) := by decide +kernel
theorem pf_165_49 : pd_fetch 165 49 = some (.jsr (999), 52) := by decide +kernel
theorem pf_165_52 : pd_fetch 165 52 = some (.invokestatic 109, 55) := by decide +kernel
theorem pf_165_55 : pd_fetch 165 55 = some (.ifCond .eq (Int.ofNat 62), 58) := by decide +kernel
theorem pf_165_58 : pd_fetch 165 58 = some (.iconst 0, 59) := by decide +kernel
theorem pf_165_59 : pd_fetch 165 59 = some (.goto (Int.ofNat 63), 62) := by decide +kernel
theorem pf_165_62 : pd_fetch 165 62 = some (.iconst 1, 63) := by decide +kernel
theorem pf_165_63 : pd_fetch 165 63 = some (.invokevirtual 108, 66) := by decide +kernel
theorem pf_165_66 : pd_fetch 165 66 = some (.ifCond .eq (Int.ofNat 71), 69) := by decide +kernel
theorem pf_165_69 : pd_fetch 165 69 = some (.iconst 0, 70) := by decide +kernel
theorem pf_165_70 : pd_fetch 165 70 = some (.ireturn, 71) := by decide +kernel
theorem pf_165_71 : pd_fetch 165 71 = some (.iconst 0, 72) := by decide +kernel
theorem pf_165_72 : pd_fetch 165 72 = some (.istore 5, 74) := by decide +kernel
theorem pf_165_74 : pd_fetch 165 74 = some (.iconst 0, 75) := by decide +kernel
theorem pf_165_75 : pd_fetch 165 75 = some (.istore 6, 77) := by decide +kernel
theorem pf_165_77 : pd_fetch 165 77 = some (.iconst 0, 78) := by decide +kernel
theorem pf_165_78 : pd_fetch 165 78 = some (.istore 7, 80) := by decide +kernel
theorem pf_165_80 : pd_fetch 165 80 = some (.iload 7, 82) := by decide +kernel
theorem pf_165_82 : pd_fetch 165 82 = some (.aload 0, 83) := by decide +kernel
theorem pf_165_83 : pd_fetch 165 83 = some (.getfield 606, 86) := by decide +kernel
theorem pf_165_86 : pd_fetch 165 86 = some (.if_icmp .ge (Int.ofNat 207), 89) := by decide +kernel
theorem pf_165_89 : pd_fetch 165 89 = some (.iconst 0, 90) := by decide +kernel
theorem pf_165_90 : pd_fetch 165 90 = some (.istore 8, 92) := by decide +kernel
theorem pf_165_92 : pd_fetch 165 92 = some (.iconst 0, 93) := by decide +kernel
theorem pf_165_93 : pd_fetch 165 93 = some (.istore 9, 95) := by decide +kernel
theorem pf_165_95 : pd_fetch 165 95 = some (.iload 9, 97) := by decide +kernel
theorem pf_165_97 : pd_fetch 165 97 = some (.aload 0, 98) := by decide +kernel
theorem pf_165_98 : pd_fetch 165 98 = some (.getfield 604, 101) := by decide +kernel
theorem pf_165_101 : pd_fetch 165 101 = some (.if_icmp .ge (Int.ofNat 159), 104) := by decide +kernel
theorem pf_165_104 : pd_fetch 165 104 = some (.iload 8, 106) := by decide +kernel
theorem pf_165_106 : pd_fetch 165 106 = some (.iload 9, 108) := by decide +kernel
theorem pf_165_108 : pd_fetch 165 108 = some (.ifCond .ne (Int.ofNat 115), 111) := by decide +kernel
theorem pf_165_111 : pd_fetch 165 111 = some (.iload 1, 112) := by decide +kernel
theorem pf_165_112 : pd_fetch 165 112 = some (.goto (Int.ofNat 137), 115) := by decide +kernel
theorem pf_165_115 : pd_fetch 165 115 = some (.iload 9, 117) := by decide +kernel
theorem pf_165_117 : pd_fetch 165 117 = some (.iconst 1, 118) := by decide +kernel
theorem pf_165_118 : pd_fetch 165 118 = some (.if_icmp .ne (Int.ofNat 125), 121) := by decide +kernel
theorem pf_165_121 : pd_fetch 165 121 = some (.iload 2, 122) := by decide +kernel
theorem pf_165_122 : pd_fetch 165 122 = some (.goto (Int.ofNat 137), 125) := by decide +kernel
theorem pf_165_125 : pd_fetch 165 125 = some (.iload 9, 127) := by decide +kernel
theorem pf_165_127 : pd_fetch 165 127 = some (.iconst 2, 128) := by decide +kernel
theorem pf_165_128 : pd_fetch 165 128 = some (.if_icmp .ne (Int.ofNat 135), 131) := by decide +kernel
theorem pf_165_131 : pd_fetch 165 131 = some (.iload 3, 132) := by decide +kernel
theorem pf_165_132 : pd_fetch 165 132 = some (.goto (Int.ofNat 137), 135) := by decide +kernel
theorem pf_165_135 : pd_fetch 165 135 = some (.iload 4, 137) := by decide +kernel
theorem pf_165_137 : pd_fetch 165 137 = some (.aload 0, 138) := by decide +kernel
theorem pf_165_138 : pd_fetch 165 138 = some (.getfield 608, 141) := by decide +kernel
theorem pf_165_141 : pd_fetch 165 141 = some (.iconst 4, 142) := by decide +kernel
theorem pf_165_142 : pd_fetch 165 142 = some (.iload 7, 144) := by decide +kernel
theorem pf_165_144 : pd_fetch 165 144 = some (.imul, 145) := by decide +kernel
theorem pf_165_145 : pd_fetch 165 145 = some (.iload 9, 147) := by decide +kernel
theorem pf_165_147 : pd_fetch 165 147 = some (.iadd, 148) := by decide +kernel
theorem pf_165_148 : pd_fetch 165 148 = some (.iaload, 149) := by decide +kernel
theorem pf_165_149 : pd_fetch 165 149 = some (.imul, 150) := by decide +kernel
theorem pf_165_150 : pd_fetch 165 150 = some (.iadd, 151) := by decide +kernel
theorem pf_165_151 : pd_fetch 165 151 = some (.istore 8, 153) := by decide +kernel
theorem pf_165_153 : pd_fetch 165 153 = some (.iinc 9 1, 156) := by decide +kernel
theorem pf_165_156 : pd_fetch 165 156 = some (.goto (Int.ofNat 95), 159) := by decide +kernel
theorem pf_165_159 : pd_fetch 165 159 = some (.iload 7, 161) := by decide +kernel
theorem pf_165_161 : pd_fetch 165 161 = some (.ifCond .eq (Int.ofNat 171), 164) := by decide +kernel
theorem pf_165_164 : pd_fetch 165 164 = some (.iload 8, 166) := by decide +kernel
theorem pf_165_166 : pd_fetch 165 166 = some (.iload 6, 168) := by decide +kernel
theorem pf_165_168 : pd_fetch 165 168 = some (.if_icmp .ge (Int.ofNat 176), 171) := by decide +kernel
theorem pf_165_171 : pd_fetch 165 171 = some (.iload 7, 173) := by decide +kernel
theorem pf_165_173 : pd_fetch 165 173 = some (.goto (Int.ofNat 178), 176) := by decide +kernel
theorem pf_165_176 : pd_fetch 165 176 = some (.iload 5, 178) := by decide +kernel
theorem pf_165_178 : pd_fetch 165 178 = some (.istore 5, 180) := by decide +kernel
theorem pf_165_180 : pd_fetch 165 180 = some (.iload 7, 182) := by decide +kernel
theorem pf_165_182 : pd_fetch 165 182 = some (.ifCond .eq (Int.ofNat 192), 185) := by decide +kernel
theorem pf_165_185 : pd_fetch 165 185 = some (.iload 8, 187) := by decide +kernel
theorem pf_165_187 : pd_fetch 165 187 = some (.iload 6, 189) := by decide +kernel
theorem pf_165_189 : pd_fetch 165 189 = some (.if_icmp .ge (Int.ofNat 197), 192) := by decide +kernel
theorem pf_165_192 : pd_fetch 165 192 = some (.iload 8, 194) := by decide +kernel
theorem pf_165_194 : pd_fetch 165 194 = some (.goto (Int.ofNat 199), 197) := by decide +kernel
theorem pf_165_197 : pd_fetch 165 197 = some (.iload 6, 199) := by decide +kernel
theorem pf_165_199 : pd_fetch 165 199 = some (.istore 6, 201) := by decide +kernel
theorem pf_165_201 : pd_fetch 165 201 = some (.iinc 7 1, 204) := by decide +kernel
theorem pf_165_204 : pd_fetch 165 204 = some (.goto (Int.ofNat 80), 207) := by decide +kernel
theorem pf_165_207 : pd_fetch 165 207 = some (.iload 5, 209) := by decide +kernel
theorem pf_165_209 : pd_fetch 165 209 = some (.ireturn, 210) := by decide +kernel
theorem pf_167_0 : pd_fetch 167 0 = some (.lload 0, 1) := by decide +kernel
theorem pf_167_1 : pd_fetch 167 1 = some (.lstore 4, 3) := by decide +kernel
theorem pf_167_3 : pd_fetch 167 3 = some (.lload 2, 4) := by decide +kernel
theorem pf_167_4 : pd_fetch 167 4 = some (.lstore 6, 6) := by decide +kernel
theorem pf_167_6 : pd_fetch 167 6 = some (.lload 6, 8) := by decide +kernel
theorem pf_167_8 : pd_fetch 167 8 = some (.jsr (0), 9) := by decide +kernel
theorem pf_167_9 : pd_fetch 167 9 = some (.lcmp, 10) := by decide +kernel
theorem pf_167_10 : pd_fetch 167 10 = some (.ifCond .eq (Int.ofNat 31), 13) := by decide +kernel
theorem pf_167_13 : pd_fetch 167 13 = some (.lload 4, 15) := by decide +kernel
theorem pf_167_15 : pd_fetch 167 15 = some (.lload 6, 17) := by decide +kernel
theorem pf_167_17 : pd_fetch 167 17 = some (.lrem, 18) := by decide +kernel
theorem pf_167_18 : pd_fetch 167 18 = some (.lstore 8, 20) := by decide +kernel
theorem pf_167_20 : pd_fetch 167 20 = some (.lload 6, 22) := by decide +kernel
theorem pf_167_22 : pd_fetch 167 22 = some (.lstore 4, 24) := by decide +kernel
theorem pf_167_24 : pd_fetch 167 24 = some (.lload 8, 26) := by decide +kernel
theorem pf_167_26 : pd_fetch 167 26 = some (.lstore 6, 28) := by decide +kernel
theorem pf_167_28 : pd_fetch 167 28 = some (.goto (Int.ofNat 6), 31) := by decide +kernel
theorem pf_167_31 : pd_fetch 167 31 = some (.lload 4, 33) := by decide +kernel
theorem pf_167_33 : pd_fetch 167 33 = some (.lreturn, 34) := by decide +kernel
theorem pf_169_0 : pd_fetch 169 0 = some (.aload 0, 1) := by decide +kernel
theorem pf_169_1 : pd_fetch 169 1 = some (.iload 1, 2) := by decide +kernel
theorem pf_169_2 : pd_fetch 169 2 = some (.i2l, 3) := by decide +kernel
theorem pf_169_3 : pd_fetch 169 3 = some (.jsr (0), 4) := by decide +kernel
theorem pf_169_4 : pd_fetch 169 4 = some (.jsr (2), 7) := by decide +kernel
theorem pf_169_7 : pd_fetch 169 7 = some (.invokestatic 109, 10) := by decide +kernel
theorem pf_169_10 : pd_fetch 169 10 = some (.ifCond .eq (Int.ofNat 29), 13) := by decide +kernel
theorem pf_169_13 : pd_fetch 169 13 = some (.iload 2, 14) := by decide +kernel
theorem pf_169_14 : pd_fetch 169 14 = some (.i2l, 15) := by decide +kernel
theorem pf_169_15 : pd_fetch 169 15 = some (.jsr (0), 16) := by decide +kernel
theorem pf_169_16 : pd_fetch 169 16 = some (.jsr (3), 19) := by decide +kernel
theorem pf_169_19 : pd_fetch 169 19 = some (.invokestatic 109, 22) := by decide +kernel
theorem pf_169_22 : pd_fetch 169 22 = some (.ifCond .eq (Int.ofNat 29), 25) := by decide +kernel
theorem pf_169_25 : pd_fetch 169 25 = some (.iconst 0, 26) := by decide +kernel
theorem pf_169_26 : pd_fetch 169 26 = some (.goto (Int.ofNat 30), 29) := by decide +kernel
theorem pf_169_29 : pd_fetch 169 29 = some (.iconst 1, 30) := by decide +kernel
theorem pf_169_30 : pd_fetch 169 30 = some (.invokevirtual 108, 33) := by decide +kernel
theorem pf_169_33 : pd_fetch 169 33 = some (.ifCond .eq (Int.ofNat 38), 36) := by decide +kernel
theorem pf_169_36 : pd_fetch 169 36 = some (.jsr (0), 37) := by decide +kernel
theorem pf_169_37 : pd_fetch 169 37 = some (.lreturn, 38) := by decide +kernel
theorem pf_169_38 : pd_fetch 169 38 = some (.aload 0, 39) := by decide +kernel
theorem pf_169_39 : pd_fetch 169 39 = some (.getfield 615, 42) := by decide +kernel
theorem pf_169_42 : pd_fetch 169 42 = some (.iconst 0, 43) := by decide +kernel
theorem pf_169_43 : pd_fetch 169 43 = some (.aload 0, 44) := by decide +kernel
theorem pf_169_44 : pd_fetch 169 44 = some (.getfield 616, 47) := by decide +kernel
theorem pf_169_47 : pd_fetch 169 47 = some (.iconst 0, 48) := by decide +kernel
theorem pf_169_48 : pd_fetch 169 48 = some (.invokestatic 110, 51) := by decide +kernel
theorem pf_169_51 : pd_fetch 169 51 = some (.aload 0, 52) := by decide +kernel
theorem pf_169_52 : pd_fetch 169 52 = some (.aload 0, 53) := by decide +kernel
theorem pf_169_53 : pd_fetch 169 53 = some (.getfield 616, 56) := by decide +kernel
theorem pf_169_56 : pd_fetch 169 56 = some (.iload 1, 57) := by decide +kernel
theorem pf_169_57 : pd_fetch 169 57 = some (.invokevirtual 124, 60) := by decide +kernel
theorem pf_169_60 : pd_fetch 169 60 = some (.istore 3, 61) := by decide +kernel
theorem pf_169_61 : pd_fetch 169 61 = some (.iload 3, 62) := by decide +kernel
theorem pf_169_62 : pd_fetch 169 62 = some (.iconst (-9), 64) := by decide +kernel
theorem pf_169_64 : pd_fetch 169 64 = some (.if_icmp .ne (Int.ofNat 71), 67) := by decide +kernel
theorem pf_169_67 : pd_fetch 169 67 = some (.jsr (-9), 70) := by decide +kernel
theorem pf_169_70 : pd_fetch 169 70 = some (.lreturn, 71) := by decide +kernel
theorem pf_169_71 : pd_fetch 169 71 = some (.iload 2, 72) := by decide +kernel
theorem pf_169_72 : pd_fetch 169 72 = some (.ifCond .ne (Int.ofNat 80), 75) := by decide +kernel
theorem pf_169_75 : pd_fetch 169 75 = some (.iload 3, 76) := by decide +kernel
theorem pf_169_76 : pd_fetch 169 76 = some (.i2l, 77) := by decide +kernel
theorem pf_169_77 : pd_fetch 169 77 = some (.goto (Int.ofNat 120), 80) := by decide +kernel
theorem pf_169_80 : pd_fetch 169 80 = some (.iload 2, 81) := by decide +kernel
theorem pf_169_81 : pd_fetch 169 81 = some (.iconst 1, 82) := by decide +kernel
theorem pf_169_82 : pd_fetch 169 82 = some (.if_icmp .ne (Int.ofNat 96), 85) := by decide +kernel
theorem pf_169_85 : pd_fetch 169 85 = some (.aload 0, 86) := by decide +kernel
theorem pf_169_86 : pd_fetch 169 86 = some (.aload 0, 87) := by decide +kernel
theorem pf_169_87 : pd_fetch 169 87 = some (.getfield 616, 90) := by decide +kernel
theorem pf_169_90 : pd_fetch 169 90 = some (.invokevirtual 115, 93) := by decide +kernel
theorem pf_169_93 : pd_fetch 169 93 = some (.goto (Int.ofNat 120), 96) := by decide +kernel
theorem pf_169_96 : pd_fetch 169 96 = some (.iload 2, 97) := by decide +kernel
theorem pf_169_97 : pd_fetch 169 97 = some (.iconst 2, 98) := by decide +kernel
theorem pf_169_98 : pd_fetch 169 98 = some (.if_icmp .ne (Int.ofNat 112), 101) := by decide +kernel
theorem pf_169_101 : pd_fetch 169 101 = some (.aload 0, 102) := by decide +kernel
theorem pf_169_102 : pd_fetch 169 102 = some (.aload 0, 103) := by decide +kernel
theorem pf_169_103 : pd_fetch 169 103 = some (.getfield 616, 106) := by decide +kernel
theorem pf_169_106 : pd_fetch 169 106 = some (.invokevirtual 120, 109) := by decide +kernel
theorem pf_169_109 : pd_fetch 169 109 = some (.goto (Int.ofNat 120), 112) := by decide +kernel
theorem pf_169_112 : pd_fetch 169 112 = some (.aload 0, 113) := by decide +kernel
theorem pf_169_113 : pd_fetch 169 113 = some (.getfield 616, 116) := by decide +kernel
theorem pf_169_116 : pd_fetch 169 116 = some (.iconst 68, 118) := by decide +kernel
theorem pf_169_118 : pd_fetch 169 118 = some (.iaload, 119) := by decide +kernel
theorem pf_169_119 : pd_fetch 169 119 = some (.i2l, 120) := by decide +kernel
theorem pf_169_120 : pd_fetch 169 120 = some (.lreturn, 121) := by decide +kernel
theorem pf_171_0 : pd_fetch 171 0 = some (.iload 1, 1) := by decide +kernel
theorem pf_171_1 : pd_fetch 171 1 = some (.i2l, 2) := by decide +kernel
theorem pf_171_2 : pd_fetch 171 2 = some (.jsr (0), 3) := by decide +kernel
theorem pf_171_3 : pd_fetch 171 3 = some (.jsr (2), 6) := by decide +kernel
theorem pf_171_6 : pd_fetch 171 6 = some (.invokestatic 109, 9) := by decide +kernel
theorem pf_171_9 : pd_fetch 171 9 = some (.ifCond .eq (Int.ofNat 24), 12) := by decide +kernel
theorem pf_171_12 : pd_fetch 171 12 = some (.iload 2, 13) := by decide +kernel
theorem pf_171_13 : pd_fetch 171 13 = some (.i2l, 14) := by decide +kernel
theorem pf_171_14 : pd_fetch 171 14 = some (.jsr (1), 15) := by decide +kernel
theorem pf_171_15 : pd_fetch 171 15 = some (.jsr (50), 18) := by decide +kernel
theorem pf_171_18 : pd_fetch 171 18 = some (.invokestatic 109, 21) := by decide +kernel
theorem pf_171_21 : pd_fetch 171 21 = some (.ifCond .ne (Int.ofNat 26), 24) := by decide +kernel
theorem pf_171_24 : pd_fetch 171 24 = some (.iconst 0, 25) := by decide +kernel
theorem pf_171_25 : pd_fetch 171 25 = some (.ireturn, 26) := by decide +kernel
theorem pf_171_26 : pd_fetch 171 26 = some (.iconst 0, 27) := by decide +kernel
theorem pf_171_27 : pd_fetch 171 27 = some (.istore 3, 28) := by decide +kernel
theorem pf_171_28 : pd_fetch 171 28 = some (.iload 3, 29) := by decide +kernel
theorem pf_171_29 : pd_fetch 171 29 = some (.iload 2, 30) := by decide +kernel
theorem pf_171_30 : pd_fetch 171 30 = some (.if_icmp .ge (Int.ofNat 55), 33) := by decide +kernel
theorem pf_171_33 : pd_fetch 171 33 = some (.aload 0, 34) := by decide +kernel
theorem pf_171_34 : pd_fetch 171 34 = some (.aload 0, 35) := by decide +kernel
theorem pf_171_35 : pd_fetch 171 35 = some (.getfield 616, 38) := by decide +kernel
theorem pf_171_38 : pd_fetch 171 38 = some (.iload 1, 39) := by decide +kernel
theorem pf_171_39 : pd_fetch 171 39 = some (.invokevirtual 124, 42) := by decide +kernel
theorem pf_171_42 : pd_fetch 171 42 = some (.iconst (-9), 44) := by decide +kernel
theorem pf_171_44 : pd_fetch 171 44 = some (.if_icmp .ne (Int.ofNat 49), 47) := by decide +kernel
theorem pf_171_47 : pd_fetch 171 47 = some (.iconst 0, 48) := by decide +kernel
theorem pf_171_48 : pd_fetch 171 48 = some (.ireturn, 49) := by decide +kernel
theorem pf_171_49 : pd_fetch 171 49 = some (.iinc 3 1, 52) := by decide +kernel
theorem pf_171_52 : pd_fetch 171 52 = some (.goto (Int.ofNat 28), 55) := by decide +kernel
theorem pf_171_55 : pd_fetch 171 55 = some (.iconst 1, 56) := by decide +kernel
theorem pf_171_56 : pd_fetch 171 56 = some (.ireturn, 57) := by decide +kernel
theorem pf_173_0 : pd_fetch 173 0 = some (.jsr (1), 1) := by decide +kernel
theorem pf_173_1 : pd_fetch 173 1 = some (.lstore 1, 2) := by decide +kernel
theorem pf_173_2 : pd_fetch 173 2 = some (.iconst 0, 3) := by decide +kernel
theorem pf_173_3 : pd_fetch 173 3 = some (.istore 3, 4) := by decide +kernel
theorem pf_173_4 : pd_fetch 173 4 = some (.iload 3, 5) := by decide +kernel
theorem pf_173_5 : pd_fetch 173 5 = some (.iload 0, 6) := by decide +kernel
theorem pf_173_6 : pd_fetch 173 6 = some (.if_icmp .ge (Int.ofNat 21), 9) := by decide +kernel
theorem pf_173_9 : pd_fetch 173 9 = some (.lload 1, 10) := by decide +kernel
theorem pf_173_10 : pd_fetch 173 10 = some (.jsr (10), 13) := by decide +kernel
theorem pf_173_13 : pd_fetch 173 13 = some (.lmul, 14) := by decide +kernel
theorem pf_173_14 : pd_fetch 173 14 = some (.lstore 1, 15) := by decide +kernel
theorem pf_173_15 : pd_fetch 173 15 = some (.iinc 3 1, 18) := by decide +kernel
theorem pf_173_18 : pd_fetch 173 18 = some (.goto (Int.ofNat 4), 21) := by decide +kernel
theorem pf_173_21 : pd_fetch 173 21 = some (.lload 1, 22) := by decide +kernel
theorem pf_173_22 : pd_fetch 173 22 = some (.lreturn, 23) := by decide +kernel
theorem pf_175_0 : pd_fetch 175 0 = some (.aload 0, 1) := by decide +kernel
theorem pf_175_1 : pd_fetch 175 1 = some (.iload 3, 2) := by decide +kernel
theorem pf_175_2 : pd_fetch 175 2 = some (.i2l, 3) := by decide +kernel
theorem pf_175_3 : pd_fetch 175 3 = some (.jsr (1), 4) := by decide +kernel
theorem pf_175_4 : pd_fetch 175 4 = some (.jsr (50), 7) := by decide +kernel
theorem pf_175_7 : pd_fetch 175 7 = some (.invokestatic 109, 10) := by decide +kernel
theorem pf_175_10 : pd_fetch 175 10 = some (.ifCond .eq (Int.ofNat 17), 13) := by decide +kernel
theorem pf_175_13 : pd_fetch 175 13 = some (.iconst 0, 14) := by decide +kernel
theorem pf_175_14 : pd_fetch 175 14 = some (.goto (Int.ofNat 18), 17) := by decide +kernel
theorem pf_175_17 : pd_fetch 175 17 = some (.iconst 1, 18) := by decide +kernel
theorem pf_175_18 : pd_fetch 175 18 = some (.invokevirtual 108, 21) := by decide +kernel
theorem pf_175_21 : pd_fetch 175 21 = some (.ifCond .eq (Int.ofNat 26), 24) := by decide +kernel
theorem pf_175_24 : pd_fetch 175 24 = some (.jsr (0), 25) := by decide +kernel
theorem pf_175_25 : pd_fetch 175 25 = some (.lreturn, 26) := by decide +kernel
theorem pf_175_26 : pd_fetch 175 26 = some (.aload 0, 27) := by decide +kernel
theorem pf_175_27 : pd_fetch 175 27 = some (.getfield 615, 30) := by decide +kernel
theorem pf_175_30 : pd_fetch 175 30 = some (.iconst 0, 31) := by decide +kernel
theorem pf_175_31 : pd_fetch 175 31 = some (.aload 0, 32) := by decide +kernel
theorem pf_175_32 : pd_fetch 175 32 = some (.getfield 616, 35) := by decide +kernel
theorem pf_175_35 : pd_fetch 175 35 = some (.iconst 0, 36) := by decide +kernel
theorem pf_175_36 : pd_fetch 175 36 = some (.invokestatic 110, 39) := by decide +kernel
theorem pf_175_39 : pd_fetch 175 39 = some (.lload 1, 40) := by decide +kernel
theorem pf_175_40 : pd_fetch 175 40 = some (.lstore 4, 42) := by decide +kernel
theorem pf_175_42 : pd_fetch 175 42 = some (.iconst 0, 43) := by decide +kernel
theorem pf_175_43 : pd_fetch 175 43 = some (.istore 6, 45) := by decide +kernel
theorem pf_175_45 : pd_fetch 175 45 = some (.iload 6, 47) := by decide +kernel
theorem pf_175_47 : pd_fetch 175 47 = some (.iload 3, 48) := by decide +kernel
theorem pf_175_48 : pd_fetch 175 48 = some (.if_icmp .ge (Int.ofNat 154), 51) := by decide +kernel
theorem pf_175_51 : pd_fetch 175 51 = some (.lload 4, 53) := by decide +kernel
theorem pf_175_53 : pd_fetch 175 53 = some (.jsr (6364136223846793005), 56) := by decide +kernel
theorem pf_175_56 : pd_fetch 175 56 = some (.lmul, 57) := by decide +kernel
theorem pf_175_57 : pd_fetch 175 57 = some (.jsr (1442695040888963407), 60) := by decide +kernel
theorem pf_175_60 : pd_fetch 175 60 = some (.ladd, 61) := by decide +kernel
theorem pf_175_61 : pd_fetch 175 61 = some (.lstore 4, 63) := by decide +kernel
theorem pf_175_63 : pd_fetch 175 63 = some (.lload 4, 65) := by decide +kernel
theorem pf_175_65 : pd_fetch 175 65 = some (.iconst 33, 67) := by decide +kernel
theorem pf_175_67 : pd_fetch 175 67 = some (.lushr, 68) := by decide +kernel
theorem pf_175_68 : pd_fetch 175 68 = some (.l2i, 69) := by decide +kernel
theorem pf_175_69 : pd_fetch 175 69 = some (.istore 7, 71) := by decide +kernel
theorem pf_175_71 : pd_fetch 175 71 = some (.iload 7, 73) := by decide +kernel
theorem pf_175_73 : pd_fetch 175 73 = some (.iconst 4, 74) := by decide +kernel
theorem pf_175_74 : pd_fetch 175 74 = some (.irem, 75) := by decide +kernel
theorem pf_175_75 : pd_fetch 175 75 = some (.iconst 3, 76) := by decide +kernel
theorem pf_175_76 : pd_fetch 175 76 = some (.if_icmp .ge (Int.ofNat 95), 79) := by decide +kernel
theorem pf_175_79 : pd_fetch 175 79 = some (.aload 0, 80) := by decide +kernel
theorem pf_175_80 : pd_fetch 175 80 = some (.aload 0, 81) := by decide +kernel
theorem pf_175_81 : pd_fetch 175 81 = some (.getfield 616, 84) := by decide +kernel
theorem pf_175_84 : pd_fetch 175 84 = some (.iload 7, 86) := by decide +kernel
theorem pf_175_86 : pd_fetch 175 86 = some (.iconst 4, 87) := by decide +kernel
theorem pf_175_87 : pd_fetch 175 87 = some (.irem, 88) := by decide +kernel
theorem pf_175_88 : pd_fetch 175 88 = some (.invokevirtual 124, 91) := by decide +kernel
theorem pf_175_91 : pd_fetch 175 91 = some (.pop, 92) := by decide +kernel
theorem pf_175_92 : pd_fetch 175 92 = some (.goto (Int.ofNat 148), 95) := by decide +kernel
theorem pf_175_95 : pd_fetch 175 95 = some (.iload 7, 97) := by decide +kernel
theorem pf_175_97 : pd_fetch 175 97 = some (.iconst 4, 98) := by decide +kernel
theorem pf_175_98 : pd_fetch 175 98 = some (.idiv, 99) := by decide +kernel
theorem pf_175_99 : pd_fetch 175 99 = some (.aload 0, 100) := by decide +kernel
theorem pf_175_100 : pd_fetch 175 100 = some (.getfield 616, 103) := by decide +kernel
theorem pf_175_103 : pd_fetch 175 103 = some (.iconst 68, 105) := by decide +kernel
theorem pf_175_105 : pd_fetch 175 105 = some (.iaload, 106) := by decide +kernel
theorem pf_175_106 : pd_fetch 175 106 = some (.irem, 107) := by decide +kernel
theorem pf_175_107 : pd_fetch 175 107 = some (.istore 8, 109) := by decide +kernel
theorem pf_175_109 : pd_fetch 175 109 = some (.aload 0, 110) := by decide +kernel
theorem pf_175_110 : pd_fetch 175 110 = some (.getfield 616, 113) := by decide +kernel
theorem pf_175_113 : pd_fetch 175 113 = some (.iload 8, 115) := by decide +kernel
theorem pf_175_115 : pd_fetch 175 115 = some (.iload 7, 117) := by decide +kernel
theorem pf_175_117 : pd_fetch 175 117 = some (.iconst 4096, 120) := by decide +kernel
theorem pf_175_120 : pd_fetch 175 120 = some (.idiv, 121) := by decide +kernel
theorem pf_175_121 : pd_fetch 175 121 = some (.aload 0, 122) := by decide +kernel
theorem pf_175_122 : pd_fetch 175 122 = some (.getfield 606, 125) := by decide +kernel
theorem pf_175_125 : pd_fetch 175 125 = some (.irem, 126) := by decide +kernel
theorem pf_175_126 : pd_fetch 175 126 = some (.iload 7, 128) := by decide +kernel
theorem pf_175_128 : pd_fetch 175 128 = some (.iconst 128, 131) := by decide +kernel
theorem pf_175_131 : pd_fetch 175 131 = some (.idiv, 132) := by decide +kernel
theorem pf_175_132 : pd_fetch 175 132 = some (.aload 0, 133) := by decide +kernel
theorem pf_175_133 : pd_fetch 175 133 = some (.getfield 616, 136) := by decide +kernel
theorem pf_175_136 : pd_fetch 175 136 = some (.iconst 44, 138) := by decide +kernel
theorem pf_175_138 : pd_fetch 175 138 = some (.iload 8, 140) := by decide +kernel
theorem pf_175_140 : pd_fetch 175 140 = some (.iadd, 141) := by decide +kernel
theorem pf_175_141 : pd_fetch 175 141 = some (.iaload, 142) := by decide +kernel
theorem pf_175_142 : pd_fetch 175 142 = some (.iconst 1, 143) := by decide +kernel
theorem pf_175_143 : pd_fetch 175 143 = some (.iadd, 144) := by decide +kernel
theorem pf_175_144 : pd_fetch 175 144 = some (.irem, 145) := by decide +kernel
theorem pf_175_145 : pd_fetch 175 145 = some (.invokestatic 125, 148) := by decide +kernel
theorem pf_175_148 : pd_fetch 175 148 = some (.iinc 6 1, 151) := by decide +kernel
theorem pf_175_151 : pd_fetch 175 151 = some (.goto (Int.ofNat 45), 154) := by decide +kernel
theorem pf_175_154 : pd_fetch 175 154 = some (.aload 0, 155) := by decide +kernel
theorem pf_175_155 : pd_fetch 175 155 = some (.aload 0, 156) := by decide +kernel
theorem pf_175_156 : pd_fetch 175 156 = some (.getfield 616, 159) := by decide +kernel
theorem pf_175_159 : pd_fetch 175 159 = some (.invokevirtual 120, 162) := by decide +kernel
theorem pf_175_162 : pd_fetch 175 162 = some (.lreturn, 163) := by decide +kernel
theorem pf_177_0 : pd_fetch 177 0 = some (.aload 0, 1) := by decide +kernel
theorem pf_177_1 : pd_fetch 177 1 = some (.iload 1, 2) := by decide +kernel
theorem pf_177_2 : pd_fetch 177 2 = some (.i2l, 3) := by decide +kernel
theorem pf_177_3 : pd_fetch 177 3 = some (.jsr (0), 4) := by decide +kernel
theorem pf_177_4 : pd_fetch 177 4 = some (.jsr (1), 5) := by decide +kernel
theorem pf_177_5 : pd_fetch 177 5 = some (.invokestatic 109, 8) := by decide +kernel
theorem pf_177_8 : pd_fetch 177 8 = some (.ifCond .ne (Int.ofNat 15), 11) := by decide +kernel
theorem pf_177_11 : pd_fetch 177 11 = some (.iconst 1, 12) := by decide +kernel
theorem pf_177_12 : pd_fetch 177 12 = some (.goto (Int.ofNat 29), 15) := by decide +kernel
theorem pf_177_15 : pd_fetch 177 15 = some (.aload 0, 16) := by decide +kernel
theorem pf_177_16 : pd_fetch 177 16 = some (.getfield 620, 19) := by decide +kernel
theorem pf_177_19 : pd_fetch 177 19 = some (.iload 1, 20) := by decide +kernel
theorem pf_177_20 : pd_fetch 177 20 = some (.baload, 21) := by decide +kernel
theorem pf_177_21 : pd_fetch 177 21 = some (.ifCond .ne (Int.ofNat 28), 24) := by decide +kernel
theorem pf_177_24 : pd_fetch 177 24 = some (.iconst 2, 25) := by decide +kernel
theorem pf_177_25 : pd_fetch 177 25 = some (.goto (Int.ofNat 29), 28) := by decide +kernel
theorem pf_177_28 : pd_fetch 177 28 = some (.iconst 0, 29) := by decide +kernel
theorem pf_177_29 : pd_fetch 177 29 = some (.invokevirtual 108, 32) := by decide +kernel
theorem pf_177_32 : pd_fetch 177 32 = some (.ifCond .eq (Int.ofNat 37), 35) := by decide +kernel
theorem pf_177_35 : pd_fetch 177 35 = some (.iconst 0, 36) := by decide +kernel
theorem pf_177_36 : pd_fetch 177 36 = some (.ireturn, 37) := by decide +kernel
theorem pf_177_37 : pd_fetch 177 37 = some (.aload 0, 38) := by decide +kernel
theorem pf_177_38 : pd_fetch 177 38 = some (.getfield 619, 41) := by decide +kernel
theorem pf_177_41 : pd_fetch 177 41 = some (.iconst 72, 43) := by decide +kernel
theorem pf_177_43 : pd_fetch 177 43 = some (.iload 1, 44) := by decide +kernel
theorem pf_177_44 : pd_fetch 177 44 = some (.imul, 45) := by decide +kernel
theorem pf_177_45 : pd_fetch 177 45 = some (.aload 0, 46) := by decide +kernel
theorem pf_177_46 : pd_fetch 177 46 = some (.getfield 615, 49) := by decide +kernel
theorem pf_177_49 : pd_fetch 177 49 = some (.iconst 0, 50) := by decide +kernel
theorem pf_177_50 : pd_fetch 177 50 = some (.invokestatic 110, 53) := by decide +kernel
theorem pf_177_53 : pd_fetch 177 53 = some (.aload 0, 54) := by decide +kernel
theorem pf_177_54 : pd_fetch 177 54 = some (.iconst 0, 55) := by decide +kernel
theorem pf_177_55 : pd_fetch 177 55 = some (.putfield 618, 58) := by decide +kernel
theorem pf_177_58 : pd_fetch 177 58 = some (.aload 0, 59) := by decide +kernel
theorem pf_177_59 : pd_fetch 177 59 = some (.getfield 615, 62) := by decide +kernel
theorem pf_177_62 : pd_fetch 177 62 = some (.iconst 68, 64) := by decide +kernel
theorem pf_177_64 : pd_fetch 177 64 = some (.iaload, 65) := by decide +kernel
theorem pf_177_65 : pd_fetch 177 65 = some (.ireturn, 66) := by decide +kernel
