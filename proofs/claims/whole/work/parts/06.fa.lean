theorem pf_0_0 : pd_fetch 0 0 = some (.aload 0, 1) := by decide +kernel
theorem pf_0_1 : pd_fetch 0 1 = some (.invokespecial 1000, 4) := by decide +kernel
theorem pf_0_4 : pd_fetch 0 4 = some (.aload 0, 5) := by decide +kernel
theorem pf_0_5 : pd_fetch 0 5 = some (.iconst 4, 6) := by decide +kernel
theorem pf_0_6 : pd_fetch 0 6 = some (.newarray .int, 8) := by decide +kernel
theorem pf_0_8 : pd_fetch 0 8 = some (.putfield 1, 11) := by decide +kernel
theorem pf_0_11 : pd_fetch 0 11 = some (.aload 0, 12) := by decide +kernel
theorem pf_0_12 : pd_fetch 0 12 = some (.iconst 4, 13) := by decide +kernel
theorem pf_0_13 : pd_fetch 0 13 = some (.newarray .int, 15) := by decide +kernel
theorem pf_0_15 : pd_fetch 0 15 = some (.putfield 2, 18) := by decide +kernel
theorem pf_0_18 : pd_fetch 0 18 = some (.aload 0, 19) := by decide +kernel
theorem pf_0_19 : pd_fetch 0 19 = some (.iconst 4, 20) := by decide +kernel
theorem pf_0_20 : pd_fetch 0 20 = some (.newarray .long, 22) := by decide +kernel
theorem pf_0_22 : pd_fetch 0 22 = some (.putfield 3, 25) := by decide +kernel
theorem pf_0_25 : pd_fetch 0 25 = some (.aload 0, 26) := by decide +kernel
theorem pf_0_26 : pd_fetch 0 26 = some (.iconst 4, 27) := by decide +kernel
theorem pf_0_27 : pd_fetch 0 27 = some (.newarray .int, 29) := by decide +kernel
theorem pf_0_29 : pd_fetch 0 29 = some (.putfield 4, 32) := by decide +kernel
theorem pf_0_32 : pd_fetch 0 32 = some (.aload 0, 33) := by decide +kernel
theorem pf_0_33 : pd_fetch 0 33 = some (.iconst 24, 35) := by decide +kernel
theorem pf_0_35 : pd_fetch 0 35 = some (.newarray .int, 37) := by decide +kernel
theorem pf_0_37 : pd_fetch 0 37 = some (.putfield 5, 40) := by decide +kernel
theorem pf_0_40 : pd_fetch 0 40 = some (.aload 0, 41) := by decide +kernel
theorem pf_0_41 : pd_fetch 0 41 = some (.aload 1, 42) := by decide +kernel
theorem pf_0_42 : pd_fetch 0 42 = some (.putfield 0, 45) := by decide +kernel
theorem pf_0_45 : pd_fetch 0 45 = some (.return_, 46) := by decide +kernel
theorem pf_1_0 : pd_fetch 1 0 = some (.iconst 0, 1) := by decide +kernel
theorem pf_1_1 : pd_fetch 1 1 = some (.istore 2, 2) := by decide +kernel
theorem pf_1_2 : pd_fetch 1 2 = some (.iload 2, 3) := by decide +kernel
theorem pf_1_3 : pd_fetch 1 3 = some (.iconst 4, 4) := by decide +kernel
theorem pf_1_4 : pd_fetch 1 4 = some (.if_icmp .ge (Int.ofNat 66), 7) := by decide +kernel
theorem pf_1_7 : pd_fetch 1 7 = some (.iconst 0, 8) := by decide +kernel
theorem pf_1_8 : pd_fetch 1 8 = some (.istore 3, 9) := by decide +kernel
theorem pf_1_9 : pd_fetch 1 9 = some (.iconst 0, 10) := by decide +kernel
theorem pf_1_10 : pd_fetch 1 10 = some (.istore 4, 12) := by decide +kernel
theorem pf_1_12 : pd_fetch 1 12 = some (.iload 4, 14) := by decide +kernel
theorem pf_1_14 : pd_fetch 1 14 = some (.aload 1, 15) := by decide +kernel
theorem pf_1_15 : pd_fetch 1 15 = some (.getfield 402, 18) := by decide +kernel
theorem pf_1_18 : pd_fetch 1 18 = some (.if_icmp .ge (Int.ofNat 53), 21) := by decide +kernel
theorem pf_1_21 : pd_fetch 1 21 = some (.iload 3, 22) := by decide +kernel
theorem pf_1_22 : pd_fetch 1 22 = some (.aload 1, 23) := by decide +kernel
theorem pf_1_23 : pd_fetch 1 23 = some (.getfield 404, 26) := by decide +kernel
theorem pf_1_26 : pd_fetch 1 26 = some (.iload 4, 28) := by decide +kernel
theorem pf_1_28 : pd_fetch 1 28 = some (.iaload, 29) := by decide +kernel
theorem pf_1_29 : pd_fetch 1 29 = some (.aload 0, 30) := by decide +kernel
theorem pf_1_30 : pd_fetch 1 30 = some (.getfield 0, 33) := by decide +kernel
theorem pf_1_33 : pd_fetch 1 33 = some (.aload 1, 34) := by decide +kernel
theorem pf_1_34 : pd_fetch 1 34 = some (.getfield 403, 37) := by decide +kernel
theorem pf_1_37 : pd_fetch 1 37 = some (.iload 4, 39) := by decide +kernel
theorem pf_1_39 : pd_fetch 1 39 = some (.iaload, 40) := by decide +kernel
theorem pf_1_40 : pd_fetch 1 40 = some (.iload 2, 41) := by decide +kernel
theorem pf_1_41 : pd_fetch 1 41 = some (.invokevirtual 28, 44) := by decide +kernel
theorem pf_1_44 : pd_fetch 1 44 = some (.imul, 45) := by decide +kernel
theorem pf_1_45 : pd_fetch 1 45 = some (.iadd, 46) := by decide +kernel
theorem pf_1_46 : pd_fetch 1 46 = some (.istore 3, 47) := by decide +kernel
theorem pf_1_47 : pd_fetch 1 47 = some (.iinc 4 1, 50) := by decide +kernel
theorem pf_1_50 : pd_fetch 1 50 = some (.goto (Int.ofNat 12), 53) := by decide +kernel
theorem pf_1_53 : pd_fetch 1 53 = some (.aload 0, 54) := by decide +kernel
theorem pf_1_54 : pd_fetch 1 54 = some (.getfield 1, 57) := by decide +kernel
theorem pf_1_57 : pd_fetch 1 57 = some (.iload 2, 58) := by decide +kernel
theorem pf_1_58 : pd_fetch 1 58 = some (.iload 3, 59) := by decide +kernel
theorem pf_1_59 : pd_fetch 1 59 = some (.iastore, 60) := by decide +kernel
theorem pf_1_60 : pd_fetch 1 60 = some (.iinc 2 1, 63) := by decide +kernel
theorem pf_1_63 : pd_fetch 1 63 = some (.goto (Int.ofNat 2), 66) := by decide +kernel
theorem pf_1_66 : pd_fetch 1 66 = some (.aload 0, 67) := by decide +kernel
theorem pf_1_67 : pd_fetch 1 67 = some (.aload 1, 68) := by decide +kernel
theorem pf_1_68 : pd_fetch 1 68 = some (.invokevirtual 2, 71) := by decide +kernel
theorem pf_1_71 : pd_fetch 1 71 = some (.iconst 0, 72) := by decide +kernel
theorem pf_1_72 : pd_fetch 1 72 = some (.istore 2, 73) := by decide +kernel
theorem pf_1_73 : pd_fetch 1 73 = some (.iload 2, 74) := by decide +kernel
theorem pf_1_74 : pd_fetch 1 74 = some (.iconst 4, 75) := by decide +kernel
theorem pf_1_75 : pd_fetch 1 75 = some (.if_icmp .ge (Int.ofNat 135), 78) := by decide +kernel
theorem pf_1_78 : pd_fetch 1 78 = some (.jsr (0), 79) := by decide +kernel
theorem pf_1_79 : pd_fetch 1 79 = some (.lstore 3, 80) := by decide +kernel
theorem pf_1_80 : pd_fetch 1 80 = some (.iconst 0, 81) := by decide +kernel
theorem pf_1_81 : pd_fetch 1 81 = some (.istore 5, 83) := by decide +kernel
theorem pf_1_83 : pd_fetch 1 83 = some (.iload 5, 85) := by decide +kernel
theorem pf_1_85 : pd_fetch 1 85 = some (.aload 1, 86) := by decide +kernel
theorem pf_1_86 : pd_fetch 1 86 = some (.getfield 400, 89) := by decide +kernel
theorem pf_1_89 : pd_fetch 1 89 = some (.if_icmp .ge (Int.ofNat 118), 92) := by decide +kernel
theorem pf_1_92 : pd_fetch 1 92 = some (.lload 3, 93) := by decide +kernel
theorem pf_1_93 : pd_fetch 1 93 = some (.aload 0, 94) := by decide +kernel
theorem pf_1_94 : pd_fetch 1 94 = some (.getfield 2, 97) := by decide +kernel
theorem pf_1_97 : pd_fetch 1 97 = some (.iload 5, 99) := by decide +kernel
theorem pf_1_99 : pd_fetch 1 99 = some (.iaload, 100) := by decide +kernel
theorem pf_1_100 : pd_fetch 1 100 = some (.i2l, 101) := by decide +kernel
theorem pf_1_101 : pd_fetch 1 101 = some (.aload 1, 102) := by decide +kernel
theorem pf_1_102 : pd_fetch 1 102 = some (.iload 5, 104) := by decide +kernel
theorem pf_1_104 : pd_fetch 1 104 = some (.iload 2, 105) := by decide +kernel
theorem pf_1_105 : pd_fetch 1 105 = some (.invokevirtual 56, 108) := by decide +kernel
theorem pf_1_108 : pd_fetch 1 108 = some (.i2l, 109) := by decide +kernel
theorem pf_1_109 : pd_fetch 1 109 = some (.lmul, 110) := by decide +kernel
theorem pf_1_110 : pd_fetch 1 110 = some (.ladd, 111) := by decide +kernel
theorem pf_1_111 : pd_fetch 1 111 = some (.lstore 3, 112) := by decide +kernel
theorem pf_1_112 : pd_fetch 1 112 = some (.iinc 5 1, 115) := by decide +kernel
theorem pf_1_115 : pd_fetch 1 115 = some (.goto (Int.ofNat 83), 118) := by decide +kernel
theorem pf_1_118 : pd_fetch 1 118 = some (.aload 0, 119) := by decide +kernel
theorem pf_1_119 : pd_fetch 1 119 = some (.getfield 3, 122) := by decide +kernel
theorem pf_1_122 : pd_fetch 1 122 = some (.iload 2, 123) := by decide +kernel
theorem pf_1_123 : pd_fetch 1 123 = some (.jsr (2), 126) := by decide +kernel
theorem pf_1_126 : pd_fetch 1 126 = some (.lload 3, 127) := by decide +kernel
theorem pf_1_127 : pd_fetch 1 127 = some (.lmul, 128) := by decide +kernel
theorem pf_1_128 : pd_fetch 1 128 = some (.lastore, 129) := by decide +kernel
theorem pf_1_129 : pd_fetch 1 129 = some (.iinc 2 1, 132) := by decide +kernel
theorem pf_1_132 : pd_fetch 1 132 = some (.goto (Int.ofNat 73), 135) := by decide +kernel
theorem pf_1_135 : pd_fetch 1 135 = some (.return_, 136) := by decide +kernel
theorem pf_2_0 : pd_fetch 2 0 = some (.iconst 0, 1) := by decide +kernel
theorem pf_2_1 : pd_fetch 2 1 = some (.istore 2, 2) := by decide +kernel
theorem pf_2_2 : pd_fetch 2 2 = some (.iload 2, 3) := by decide +kernel
theorem pf_2_3 : pd_fetch 2 3 = some (.aload 1, 4) := by decide +kernel
theorem pf_2_4 : pd_fetch 2 4 = some (.getfield 400, 7) := by decide +kernel
theorem pf_2_7 : pd_fetch 2 7 = some (.if_icmp .ge (Int.ofNat 40), 10) := by decide +kernel
theorem pf_2_10 : pd_fetch 2 10 = some (.aload 0, 11) := by decide +kernel
theorem pf_2_11 : pd_fetch 2 11 = some (.getfield 2, 14) := by decide +kernel
theorem pf_2_14 : pd_fetch 2 14 = some (.iload 2, 15) := by decide +kernel
theorem pf_2_15 : pd_fetch 2 15 = some (.aload 1, 16) := by decide +kernel
theorem pf_2_16 : pd_fetch 2 16 = some (.iload 2, 17) := by decide +kernel
theorem pf_2_17 : pd_fetch 2 17 = some (.aload 0, 18) := by decide +kernel
theorem pf_2_18 : pd_fetch 2 18 = some (.getfield 1, 21) := by decide +kernel
theorem pf_2_21 : pd_fetch 2 21 = some (.invokevirtual 57, 24) := by decide +kernel
theorem pf_2_24 : pd_fetch 2 24 = some (.iconst 100, 26) := by decide +kernel
theorem pf_2_26 : pd_fetch 2 26 = some (.aload 1, 27) := by decide +kernel
theorem pf_2_27 : pd_fetch 2 27 = some (.iload 2, 28) := by decide +kernel
theorem pf_2_28 : pd_fetch 2 28 = some (.invokevirtual 55, 31) := by decide +kernel
theorem pf_2_31 : pd_fetch 2 31 = some (.imul, 32) := by decide +kernel
theorem pf_2_32 : pd_fetch 2 32 = some (.isub, 33) := by decide +kernel
theorem pf_2_33 : pd_fetch 2 33 = some (.iastore, 34) := by decide +kernel
theorem pf_2_34 : pd_fetch 2 34 = some (.iinc 2 1, 37) := by decide +kernel
theorem pf_2_37 : pd_fetch 2 37 = some (.goto (Int.ofNat 2), 40) := by decide +kernel
theorem pf_2_40 : pd_fetch 2 40 = some (.return_, 41) := by decide +kernel
theorem pf_3_0 : pd_fetch 3 0 = some (.jsr (0), 1) := by decide +kernel
theorem pf_3_1 : pd_fetch 3 1 = some (.lstore 2, 2) := by decide +kernel
theorem pf_3_2 : pd_fetch 3 2 = some (.iconst 0, 3) := by decide +kernel
theorem pf_3_3 : pd_fetch 3 3 = some (.istore 4, 5) := by decide +kernel
theorem pf_3_5 : pd_fetch 3 5 = some (.iload 4, 7) := by decide +kernel
theorem pf_3_7 : pd_fetch 3 7 = some (.aload 1, 8) := by decide +kernel
theorem pf_3_8 : pd_fetch 3 8 = some (.getfield 400, 11) := by decide +kernel
theorem pf_3_11 : pd_fetch 3 11 = some (.if_icmp .ge (Int.ofNat 40), 14) := by decide +kernel
theorem pf_3_14 : pd_fetch 3 14 = some (.lload 2, 15) := by decide +kernel
theorem pf_3_15 : pd_fetch 3 15 = some (.aload 0, 16) := by decide +kernel
theorem pf_3_16 : pd_fetch 3 16 = some (.getfield 2, 19) := by decide +kernel
theorem pf_3_19 : pd_fetch 3 19 = some (.iload 4, 21) := by decide +kernel
theorem pf_3_21 : pd_fetch 3 21 = some (.iaload, 22) := by decide +kernel
theorem pf_3_22 : pd_fetch 3 22 = some (.i2l, 23) := by decide +kernel
theorem pf_3_23 : pd_fetch 3 23 = some (.aload 0, 24) := by decide +kernel
theorem pf_3_24 : pd_fetch 3 24 = some (.getfield 2, 27) := by decide +kernel
theorem pf_3_27 : pd_fetch 3 27 = some (.iload 4, 29) := by decide +kernel
theorem pf_3_29 : pd_fetch 3 29 = some (.iaload, 30) := by decide +kernel
theorem pf_3_30 : pd_fetch 3 30 = some (.i2l, 31) := by decide +kernel
theorem pf_3_31 : pd_fetch 3 31 = some (.lmul, 32) := by decide +kernel
theorem pf_3_32 : pd_fetch 3 32 = some (.ladd, 33) := by decide +kernel
theorem pf_3_33 : pd_fetch 3 33 = some (.lstore 2, 34) := by decide +kernel
theorem pf_3_34 : pd_fetch 3 34 = some (.iinc 4 1, 37) := by decide +kernel
theorem pf_3_37 : pd_fetch 3 37 = some (.goto (Int.ofNat 5), 40) := by decide +kernel
theorem pf_3_40 : pd_fetch 3 40 = some (.lload 2, 41) := by decide +kernel
theorem pf_3_41 : pd_fetch 3 41 = some (.lreturn, 42) := by decide +kernel
theorem pf_4_0 : pd_fetch 4 0 = some (.aload 0, 1) := by decide +kernel
theorem pf_4_1 : pd_fetch 4 1 = some (.aload 1, 2) := by decide +kernel
theorem pf_4_2 : pd_fetch 4 2 = some (.invokevirtual 1, 5) := by decide +kernel
theorem pf_4_5 : pd_fetch 4 5 = some (.aload 0, 6) := by decide +kernel
theorem pf_4_6 : pd_fetch 4 6 = some (.aload 1, 7) := by decide +kernel
theorem pf_4_7 : pd_fetch 4 7 = some (.invokevirtual 3, 10) := by decide +kernel
theorem pf_4_10 : pd_fetch 4 10 = some (.lreturn, 11) := by decide +kernel
theorem pf_5_0 : pd_fetch 5 0 = some (.aload 0, 1) := by decide +kernel
theorem pf_5_1 : pd_fetch 5 1 = some (.iload 2, 2) := by decide +kernel
theorem pf_5_2 : pd_fetch 5 2 = some (.invokevirtual 6, 5) := by decide +kernel
theorem pf_5_5 : pd_fetch 5 5 = some (.aload 0, 6) := by decide +kernel
theorem pf_5_6 : pd_fetch 5 6 = some (.aload 1, 7) := by decide +kernel
theorem pf_5_7 : pd_fetch 5 7 = some (.invokevirtual 2, 10) := by decide +kernel
theorem pf_5_10 : pd_fetch 5 10 = some (.aload 0, 11) := by decide +kernel
theorem pf_5_11 : pd_fetch 5 11 = some (.aload 1, 12) := by decide +kernel
theorem pf_5_12 : pd_fetch 5 12 = some (.invokevirtual 3, 15) := by decide +kernel
theorem pf_5_15 : pd_fetch 5 15 = some (.lreturn, 16) := by decide +kernel
theorem pf_6_0 : pd_fetch 6 0 = some (.iconst 0, 1) := by decide +kernel
theorem pf_6_1 : pd_fetch 6 1 = some (.istore 2, 2) := by decide +kernel
theorem pf_6_2 : pd_fetch 6 2 = some (.iload 2, 3) := by decide +kernel
theorem pf_6_3 : pd_fetch 6 3 = some (.iconst 4, 4) := by decide +kernel
theorem pf_6_4 : pd_fetch 6 4 = some (.if_icmp .ge (Int.ofNat 31), 7) := by decide +kernel
theorem pf_6_7 : pd_fetch 6 7 = some (.aload 0, 8) := by decide +kernel
theorem pf_6_8 : pd_fetch 6 8 = some (.getfield 1, 11) := by decide +kernel
theorem pf_6_11 : pd_fetch 6 11 = some (.iload 2, 12) := by decide +kernel
theorem pf_6_12 : pd_fetch 6 12 = some (.iconst 100, 14) := by decide +kernel
theorem pf_6_14 : pd_fetch 6 14 = some (.aload 0, 15) := by decide +kernel
theorem pf_6_15 : pd_fetch 6 15 = some (.getfield 0, 18) := by decide +kernel
theorem pf_6_18 : pd_fetch 6 18 = some (.iload 1, 19) := by decide +kernel
theorem pf_6_19 : pd_fetch 6 19 = some (.iload 2, 20) := by decide +kernel
theorem pf_6_20 : pd_fetch 6 20 = some (.invokevirtual 28, 23) := by decide +kernel
theorem pf_6_23 : pd_fetch 6 23 = some (.imul, 24) := by decide +kernel
theorem pf_6_24 : pd_fetch 6 24 = some (.iastore, 25) := by decide +kernel
theorem pf_6_25 : pd_fetch 6 25 = some (.iinc 2 1, 28) := by decide +kernel
theorem pf_6_28 : pd_fetch 6 28 = some (.goto (Int.ofNat 2), 31) := by decide +kernel
theorem pf_6_31 : pd_fetch 6 31 = some (.return_, 32) := by decide +kernel
theorem pf_7_0 : pd_fetch 7 0 = some (.aload 0, 1) := by decide +kernel
theorem pf_7_1 : pd_fetch 7 1 = some (.aload 1, 2) := by decide +kernel
theorem pf_7_2 : pd_fetch 7 2 = some (.invokevirtual 8, 5) := by decide +kernel
theorem pf_7_5 : pd_fetch 7 5 = some (.istore 2, 6) := by decide +kernel
theorem pf_7_6 : pd_fetch 7 6 = some (.jsr (0), 7) := by decide +kernel
theorem pf_7_7 : pd_fetch 7 7 = some (.lstore 3, 8) := by decide +kernel
theorem pf_7_8 : pd_fetch 7 8 = some (.iconst 0, 9) := by decide +kernel
theorem pf_7_9 : pd_fetch 7 9 = some (.istore 5, 11) := by decide +kernel
theorem pf_7_11 : pd_fetch 7 11 = some (.iload 5, 13) := by decide +kernel
theorem pf_7_13 : pd_fetch 7 13 = some (.iconst 4, 14) := by decide +kernel
theorem pf_7_14 : pd_fetch 7 14 = some (.if_icmp .ge (Int.ofNat 42), 17) := by decide +kernel
theorem pf_7_17 : pd_fetch 7 17 = some (.lload 3, 18) := by decide +kernel
theorem pf_7_18 : pd_fetch 7 18 = some (.aload 0, 19) := by decide +kernel
theorem pf_7_19 : pd_fetch 7 19 = some (.getfield 1, 22) := by decide +kernel
theorem pf_7_22 : pd_fetch 7 22 = some (.iload 5, 24) := by decide +kernel
theorem pf_7_24 : pd_fetch 7 24 = some (.iaload, 25) := by decide +kernel
theorem pf_7_25 : pd_fetch 7 25 = some (.i2l, 26) := by decide +kernel
theorem pf_7_26 : pd_fetch 7 26 = some (.aload 0, 27) := by decide +kernel
theorem pf_7_27 : pd_fetch 7 27 = some (.getfield 3, 30) := by decide +kernel
theorem pf_7_30 : pd_fetch 7 30 = some (.iload 5, 32) := by decide +kernel
theorem pf_7_32 : pd_fetch 7 32 = some (.laload, 33) := by decide +kernel
theorem pf_7_33 : pd_fetch 7 33 = some (.lmul, 34) := by decide +kernel
theorem pf_7_34 : pd_fetch 7 34 = some (.ladd, 35) := by decide +kernel
theorem pf_7_35 : pd_fetch 7 35 = some (.lstore 3, 36) := by decide +kernel
theorem pf_7_36 : pd_fetch 7 36 = some (.iinc 5 1, 39) := by decide +kernel
theorem pf_7_39 : pd_fetch 7 39 = some (.goto (Int.ofNat 11), 42) := by decide +kernel
theorem pf_7_42 : pd_fetch 7 42 = some (.lload 3, 43) := by decide +kernel
theorem pf_7_43 : pd_fetch 7 43 = some (.jsr (100), 46) := by decide +kernel
theorem pf_7_46 : pd_fetch 7 46 = some (.aload 0, 47) := by decide +kernel
theorem pf_7_47 : pd_fetch 7 47 = some (.getfield 0, 50) := by decide +kernel
theorem pf_7_50 : pd_fetch 7 50 = some (.iload 2, 51) := by decide +kernel
theorem pf_7_51 : pd_fetch 7 51 = some (.aload 0, 52) := by decide +kernel
theorem pf_7_52 : pd_fetch 7 52 = some (.getfield 3, 55) := by decide +kernel
theorem pf_7_55 : pd_fetch 7 55 = some (.invokevirtual 38, 58) := by decide +kernel
theorem pf_7_58 : pd_fetch 7 58 = some (.lmul, 59) := by decide +kernel
theorem pf_7_59 : pd_fetch 7 59 = some (.lsub, 60) := by decide +kernel
theorem pf_7_60 : pd_fetch 7 60 = some (.lreturn, 61) := by decide +kernel
theorem pf_8_0 : pd_fetch 8 0 = some (.aload 0, 1) := by decide +kernel
theorem pf_8_1 : pd_fetch 8 1 = some (.aload 1, 2) := by decide +kernel
theorem pf_8_2 : pd_fetch 8 2 = some (.invokevirtual 1, 5) := by decide +kernel
theorem pf_8_5 : pd_fetch 8 5 = some (.aload 0, 6) := by decide +kernel
theorem pf_8_6 : pd_fetch 8 6 = some (.getfield 0, 9) := by decide +kernel
theorem pf_8_9 : pd_fetch 8 9 = some (.aload 0, 10) := by decide +kernel
theorem pf_8_10 : pd_fetch 8 10 = some (.getfield 3, 13) := by decide +kernel
theorem pf_8_13 : pd_fetch 8 13 = some (.invokevirtual 39, 16) := by decide +kernel
theorem pf_8_16 : pd_fetch 8 16 = some (.ireturn, 17) := by decide +kernel
theorem pf_9_0 : pd_fetch 9 0 = some (.iconst 0, 1) := by decide +kernel
theorem pf_9_1 : pd_fetch 9 1 = some (.istore 2, 2) := by decide +kernel
theorem pf_9_2 : pd_fetch 9 2 = some (.aload 0, 3) := by decide +kernel
theorem pf_9_3 : pd_fetch 9 3 = some (.getfield 0, 6) := by decide +kernel
theorem pf_9_6 : pd_fetch 9 6 = some (.aload 1, 7) := by decide +kernel
theorem pf_9_7 : pd_fetch 9 7 = some (.getfield 403, 10) := by decide +kernel
theorem pf_9_10 : pd_fetch 9 10 = some (.iconst 0, 11) := by decide +kernel
theorem pf_9_11 : pd_fetch 9 11 = some (.iaload, 12) := by decide +kernel
theorem pf_9_12 : pd_fetch 9 12 = some (.aload 0, 13) := by decide +kernel
theorem pf_9_13 : pd_fetch 9 13 = some (.getfield 3, 16) := by decide +kernel
theorem pf_9_16 : pd_fetch 9 16 = some (.invokevirtual 38, 19) := by decide +kernel
theorem pf_9_19 : pd_fetch 9 19 = some (.lstore 3, 20) := by decide +kernel
theorem pf_9_20 : pd_fetch 9 20 = some (.iconst 1, 21) := by decide +kernel
theorem pf_9_21 : pd_fetch 9 21 = some (.istore 5, 23) := by decide +kernel
theorem pf_9_23 : pd_fetch 9 23 = some (.iload 5, 25) := by decide +kernel
theorem pf_9_25 : pd_fetch 9 25 = some (.aload 1, 26) := by decide +kernel
theorem pf_9_26 : pd_fetch 9 26 = some (.getfield 402, 29) := by decide +kernel
theorem pf_9_29 : pd_fetch 9 29 = some (.if_icmp .ge (Int.ofNat 71), 32) := by decide +kernel
theorem pf_9_32 : pd_fetch 9 32 = some (.aload 0, 33) := by decide +kernel
theorem pf_9_33 : pd_fetch 9 33 = some (.getfield 0, 36) := by decide +kernel
theorem pf_9_36 : pd_fetch 9 36 = some (.aload 1, 37) := by decide +kernel
theorem pf_9_37 : pd_fetch 9 37 = some (.getfield 403, 40) := by decide +kernel
theorem pf_9_40 : pd_fetch 9 40 = some (.iload 5, 42) := by decide +kernel
theorem pf_9_42 : pd_fetch 9 42 = some (.iaload, 43) := by decide +kernel
theorem pf_9_43 : pd_fetch 9 43 = some (.aload 0, 44) := by decide +kernel
theorem pf_9_44 : pd_fetch 9 44 = some (.getfield 3, 47) := by decide +kernel
theorem pf_9_47 : pd_fetch 9 47 = some (.invokevirtual 38, 50) := by decide +kernel
theorem pf_9_50 : pd_fetch 9 50 = some (.lstore 6, 52) := by decide +kernel
theorem pf_9_52 : pd_fetch 9 52 = some (.lload 6, 54) := by decide +kernel
theorem pf_9_54 : pd_fetch 9 54 = some (.lload 3, 55) := by decide +kernel
theorem pf_9_55 : pd_fetch 9 55 = some (.lcmp, 56) := by decide +kernel
theorem pf_9_56 : pd_fetch 9 56 = some (.ifCond .le (Int.ofNat 65), 59) := by decide +kernel
theorem pf_9_59 : pd_fetch 9 59 = some (.lload 6, 61) := by decide +kernel
theorem pf_9_61 : pd_fetch 9 61 = some (.lstore 3, 62) := by decide +kernel
theorem pf_9_62 : pd_fetch 9 62 = some (.iload 5, 64) := by decide +kernel
theorem pf_9_64 : pd_fetch 9 64 = some (.istore 2, 65) := by decide +kernel
theorem pf_9_65 : pd_fetch 9 65 = some (.iinc 5 1, 68) := by decide +kernel
theorem pf_9_68 : pd_fetch 9 68 = some (.goto (Int.ofNat 23), 71) := by decide +kernel
theorem pf_9_71 : pd_fetch 9 71 = some (.iload 2, 72) := by decide +kernel
theorem pf_9_72 : pd_fetch 9 72 = some (.ireturn, 73) := by decide +kernel
theorem pf_10_0 : pd_fetch 10 0 = some (.iload 2, 1) := by decide +kernel
theorem pf_10_1 : pd_fetch 10 1 = some (.iconst 1, 2) := by decide +kernel
theorem pf_10_2 : pd_fetch 10 2 = some (.if_icmp .ne (Int.ofNat 13), 5) := by decide +kernel
theorem pf_10_5 : pd_fetch 10 5 = some (.aload 1, 6) := by decide +kernel
theorem pf_10_6 : pd_fetch 10 6 = some (.getfield 402, 9) := by decide +kernel
theorem pf_10_9 : pd_fetch 10 9 = some (.iconst 1, 10) := by decide +kernel
theorem pf_10_10 : pd_fetch 10 10 = some (.if_icmp .le (Int.ofNat 17), 13) := by decide +kernel
theorem pf_10_13 : pd_fetch 10 13 = some (.iconst 1, 14) := by decide +kernel
theorem pf_10_14 : pd_fetch 10 14 = some (.goto (Int.ofNat 18), 17) := by decide +kernel
theorem pf_10_17 : pd_fetch 10 17 = some (.iconst 0, 18) := by decide +kernel
theorem pf_10_18 : pd_fetch 10 18 = some (.ireturn, 19) := by decide +kernel
theorem pf_11_0 : pd_fetch 11 0 = some (.aload 0, 1) := by decide +kernel
theorem pf_11_1 : pd_fetch 11 1 = some (.aload 1, 2) := by decide +kernel
theorem pf_11_2 : pd_fetch 11 2 = some (.invokevirtual 1, 5) := by decide +kernel
theorem pf_11_5 : pd_fetch 11 5 = some (.aload 0, 6) := by decide +kernel
theorem pf_11_6 : pd_fetch 11 6 = some (.getfield 0, 9) := by decide +kernel
theorem pf_11_9 : pd_fetch 11 9 = some (.aload 0, 10) := by decide +kernel
theorem pf_11_10 : pd_fetch 11 10 = some (.getfield 3, 13) := by decide +kernel
theorem pf_11_13 : pd_fetch 11 13 = some (.invokevirtual 39, 16) := by decide +kernel
theorem pf_11_16 : pd_fetch 11 16 = some (.istore 3, 17) := by decide +kernel
theorem pf_11_17 : pd_fetch 11 17 = some (.aload 0, 18) := by decide +kernel
theorem pf_11_18 : pd_fetch 11 18 = some (.aload 1, 19) := by decide +kernel
theorem pf_11_19 : pd_fetch 11 19 = some (.invokevirtual 9, 22) := by decide +kernel
theorem pf_11_22 : pd_fetch 11 22 = some (.istore 4, 24) := by decide +kernel
theorem pf_11_24 : pd_fetch 11 24 = some (.iload 2, 25) := by decide +kernel
theorem pf_11_25 : pd_fetch 11 25 = some (.ifCond .ne (Int.ofNat 39), 28) := by decide +kernel
theorem pf_11_28 : pd_fetch 11 28 = some (.aload 0, 29) := by decide +kernel
theorem pf_11_29 : pd_fetch 11 29 = some (.aload 1, 30) := by decide +kernel
theorem pf_11_30 : pd_fetch 11 30 = some (.iload 3, 31) := by decide +kernel
theorem pf_11_31 : pd_fetch 11 31 = some (.invokevirtual 12, 34) := by decide +kernel
theorem pf_11_34 : pd_fetch 11 34 = some (.istore 5, 36) := by decide +kernel
theorem pf_11_36 : pd_fetch 11 36 = some (.goto (Int.ofNat 66), 39) := by decide +kernel
theorem pf_11_39 : pd_fetch 11 39 = some (.iload 2, 40) := by decide +kernel
theorem pf_11_40 : pd_fetch 11 40 = some (.iconst 1, 41) := by decide +kernel
theorem pf_11_41 : pd_fetch 11 41 = some (.if_icmp .ne (Int.ofNat 56), 44) := by decide +kernel
theorem pf_11_44 : pd_fetch 11 44 = some (.aload 0, 45) := by decide +kernel
theorem pf_11_45 : pd_fetch 11 45 = some (.aload 1, 46) := by decide +kernel
theorem pf_11_46 : pd_fetch 11 46 = some (.iload 4, 48) := by decide +kernel
theorem pf_11_48 : pd_fetch 11 48 = some (.invokevirtual 13, 51) := by decide +kernel
theorem pf_11_51 : pd_fetch 11 51 = some (.istore 5, 53) := by decide +kernel
theorem pf_11_53 : pd_fetch 11 53 = some (.goto (Int.ofNat 66), 56) := by decide +kernel
theorem pf_11_56 : pd_fetch 11 56 = some (.aload 0, 57) := by decide +kernel
theorem pf_11_57 : pd_fetch 11 57 = some (.aload 1, 58) := by decide +kernel
theorem pf_11_58 : pd_fetch 11 58 = some (.iload 4, 60) := by decide +kernel
theorem pf_11_60 : pd_fetch 11 60 = some (.iload 3, 61) := by decide +kernel
theorem pf_11_61 : pd_fetch 11 61 = some (.invokevirtual 14, 64) := by decide +kernel
theorem pf_11_64 : pd_fetch 11 64 = some (.istore 5, 66) := by decide +kernel
theorem pf_11_66 : pd_fetch 11 66 = some (.aload 1, 67) := by decide +kernel
theorem pf_11_67 : pd_fetch 11 67 = some (.dup, 68) := by decide +kernel
theorem pf_11_68 : pd_fetch 11 68 = some (.getfield 405, 71) := by decide +kernel
theorem pf_11_71 : pd_fetch 11 71 = some (.iconst 1, 72) := by decide +kernel
theorem pf_11_72 : pd_fetch 11 72 = some (.iadd, 73) := by decide +kernel
theorem pf_11_73 : pd_fetch 11 73 = some (.putfield 405, 76) := by decide +kernel
theorem pf_11_76 : pd_fetch 11 76 = some (.aload 1, 77) := by decide +kernel
theorem pf_11_77 : pd_fetch 11 77 = some (.dup, 78) := by decide +kernel
theorem pf_11_78 : pd_fetch 11 78 = some (.getfield 406, 81) := by decide +kernel
theorem pf_11_81 : pd_fetch 11 81 = some (.aload 1, 82) := by decide +kernel
theorem pf_11_82 : pd_fetch 11 82 = some (.invokevirtual 61, 85) := by decide +kernel
theorem pf_11_85 : pd_fetch 11 85 = some (.iadd, 86) := by decide +kernel
theorem pf_11_86 : pd_fetch 11 86 = some (.putfield 406, 89) := by decide +kernel
theorem pf_11_89 : pd_fetch 11 89 = some (.iload 5, 91) := by decide +kernel
theorem pf_11_91 : pd_fetch 11 91 = some (.ireturn, 92) := by decide +kernel
theorem pf_12_0 : pd_fetch 12 0 = some (.iconst 0, 1) := by decide +kernel
theorem pf_12_1 : pd_fetch 12 1 = some (.istore 3, 2) := by decide +kernel
theorem pf_12_2 : pd_fetch 12 2 = some (.iload 3, 3) := by decide +kernel
theorem pf_12_3 : pd_fetch 12 3 = some (.iconst 4, 4) := by decide +kernel
theorem pf_12_4 : pd_fetch 12 4 = some (.if_icmp .ge (Int.ofNat 38), 7) := by decide +kernel
theorem pf_12_7 : pd_fetch 12 7 = some (.aload 0, 8) := by decide +kernel
theorem pf_12_8 : pd_fetch 12 8 = some (.getfield 4, 11) := by decide +kernel
theorem pf_12_11 : pd_fetch 12 11 = some (.iload 3, 12) := by decide +kernel
theorem pf_12_12 : pd_fetch 12 12 = some (.iconst 100, 14) := by decide +kernel
theorem pf_12_14 : pd_fetch 12 14 = some (.aload 0, 15) := by decide +kernel
theorem pf_12_15 : pd_fetch 12 15 = some (.getfield 0, 18) := by decide +kernel
theorem pf_12_18 : pd_fetch 12 18 = some (.iload 2, 19) := by decide +kernel
theorem pf_12_19 : pd_fetch 12 19 = some (.iload 3, 20) := by decide +kernel
theorem pf_12_20 : pd_fetch 12 20 = some (.invokevirtual 28, 23) := by decide +kernel
theorem pf_12_23 : pd_fetch 12 23 = some (.imul, 24) := by decide +kernel
theorem pf_12_24 : pd_fetch 12 24 = some (.aload 0, 25) := by decide +kernel
theorem pf_12_25 : pd_fetch 12 25 = some (.getfield 1, 28) := by decide +kernel
theorem pf_12_28 : pd_fetch 12 28 = some (.iload 3, 29) := by decide +kernel
theorem pf_12_29 : pd_fetch 12 29 = some (.iaload, 30) := by decide +kernel
theorem pf_12_30 : pd_fetch 12 30 = some (.isub, 31) := by decide +kernel
theorem pf_12_31 : pd_fetch 12 31 = some (.iastore, 32) := by decide +kernel
theorem pf_12_32 : pd_fetch 12 32 = some (.iinc 3 1, 35) := by decide +kernel
theorem pf_12_35 : pd_fetch 12 35 = some (.goto (Int.ofNat 2), 38) := by decide +kernel
theorem pf_12_38 : pd_fetch 12 38 = some (.aload 0, 39) := by decide +kernel
theorem pf_12_39 : pd_fetch 12 39 = some (.aload 1, 40) := by decide +kernel
theorem pf_12_40 : pd_fetch 12 40 = some (.invokevirtual 17, 43) := by decide +kernel
theorem pf_12_43 : pd_fetch 12 43 = some (.aload 0, 44) := by decide +kernel
theorem pf_12_44 : pd_fetch 12 44 = some (.iconst 100, 46) := by decide +kernel
theorem pf_12_46 : pd_fetch 12 46 = some (.iconst 100, 48) := by decide +kernel
theorem pf_12_48 : pd_fetch 12 48 = some (.invokevirtual 18, 51) := by decide +kernel
theorem pf_12_51 : pd_fetch 12 51 = some (.istore 3, 52) := by decide +kernel
theorem pf_12_52 : pd_fetch 12 52 = some (.aload 0, 53) := by decide +kernel
theorem pf_12_53 : pd_fetch 12 53 = some (.aload 1, 54) := by decide +kernel
theorem pf_12_54 : pd_fetch 12 54 = some (.iconst 100, 56) := by decide +kernel
theorem pf_12_56 : pd_fetch 12 56 = some (.iload 3, 57) := by decide +kernel
theorem pf_12_57 : pd_fetch 12 57 = some (.isub, 58) := by decide +kernel
theorem pf_12_58 : pd_fetch 12 58 = some (.iconst 100, 60) := by decide +kernel
theorem pf_12_60 : pd_fetch 12 60 = some (.iconst (-9), 62) := by decide +kernel
theorem pf_12_62 : pd_fetch 12 62 = some (.invokevirtual 19, 65) := by decide +kernel
theorem pf_12_65 : pd_fetch 12 65 = some (.aload 1, 66) := by decide +kernel
theorem pf_12_66 : pd_fetch 12 66 = some (.iload 2, 67) := by decide +kernel
theorem pf_12_67 : pd_fetch 12 67 = some (.iload 3, 68) := by decide +kernel
theorem pf_12_68 : pd_fetch 12 68 = some (.invokevirtual 59, 71) := by decide +kernel
theorem pf_12_71 : pd_fetch 12 71 = some (.iload 3, 72) := by decide +kernel
theorem pf_12_72 : pd_fetch 12 72 = some (.ireturn, 73) := by decide +kernel
theorem pf_13_0 : pd_fetch 13 0 = some (.aload 1, 1) := by decide +kernel
theorem pf_13_1 : pd_fetch 13 1 = some (.getfield 404, 4) := by decide +kernel
theorem pf_13_4 : pd_fetch 13 4 = some (.iload 2, 5) := by decide +kernel
theorem pf_13_5 : pd_fetch 13 5 = some (.iaload, 6) := by decide +kernel
theorem pf_13_6 : pd_fetch 13 6 = some (.istore 3, 7) := by decide +kernel
theorem pf_13_7 : pd_fetch 13 7 = some (.iconst 100, 9) := by decide +kernel
theorem pf_13_9 : pd_fetch 13 9 = some (.iload 3, 10) := by decide +kernel
theorem pf_13_10 : pd_fetch 13 10 = some (.isub, 11) := by decide +kernel
theorem pf_13_11 : pd_fetch 13 11 = some (.istore 4, 13) := by decide +kernel
theorem pf_13_13 : pd_fetch 13 13 = some (.iconst 0, 14) := by decide +kernel
theorem pf_13_14 : pd_fetch 13 14 = some (.istore 5, 16) := by decide +kernel
theorem pf_13_16 : pd_fetch 13 16 = some (.iload 5, 18) := by decide +kernel
theorem pf_13_18 : pd_fetch 13 18 = some (.iconst 4, 19) := by decide +kernel
theorem pf_13_19 : pd_fetch 13 19 = some (.if_icmp .ge (Int.ofNat 61), 22) := by decide +kernel
theorem pf_13_22 : pd_fetch 13 22 = some (.aload 0, 23) := by decide +kernel
theorem pf_13_23 : pd_fetch 13 23 = some (.getfield 4, 26) := by decide +kernel
theorem pf_13_26 : pd_fetch 13 26 = some (.iload 5, 28) := by decide +kernel
theorem pf_13_28 : pd_fetch 13 28 = some (.aload 0, 29) := by decide +kernel
theorem pf_13_29 : pd_fetch 13 29 = some (.getfield 1, 32) := by decide +kernel
theorem pf_13_32 : pd_fetch 13 32 = some (.iload 5, 34) := by decide +kernel
theorem pf_13_34 : pd_fetch 13 34 = some (.iaload, 35) := by decide +kernel
theorem pf_13_35 : pd_fetch 13 35 = some (.iconst 100, 37) := by decide +kernel
theorem pf_13_37 : pd_fetch 13 37 = some (.aload 0, 38) := by decide +kernel
theorem pf_13_38 : pd_fetch 13 38 = some (.getfield 0, 41) := by decide +kernel
theorem pf_13_41 : pd_fetch 13 41 = some (.aload 1, 42) := by decide +kernel
theorem pf_13_42 : pd_fetch 13 42 = some (.getfield 403, 45) := by decide +kernel
theorem pf_13_45 : pd_fetch 13 45 = some (.iload 2, 46) := by decide +kernel
theorem pf_13_46 : pd_fetch 13 46 = some (.iaload, 47) := by decide +kernel
theorem pf_13_47 : pd_fetch 13 47 = some (.iload 5, 49) := by decide +kernel
theorem pf_13_49 : pd_fetch 13 49 = some (.invokevirtual 28, 52) := by decide +kernel
theorem pf_13_52 : pd_fetch 13 52 = some (.imul, 53) := by decide +kernel
theorem pf_13_53 : pd_fetch 13 53 = some (.isub, 54) := by decide +kernel
theorem pf_13_54 : pd_fetch 13 54 = some (.iastore, 55) := by decide +kernel
theorem pf_13_55 : pd_fetch 13 55 = some (.iinc 5 1, 58) := by decide +kernel
theorem pf_13_58 : pd_fetch 13 58 = some (.goto (Int.ofNat 16), 61) := by decide +kernel
theorem pf_13_61 : pd_fetch 13 61 = some (.aload 0, 62) := by decide +kernel
theorem pf_13_62 : pd_fetch 13 62 = some (.aload 1, 63) := by decide +kernel
theorem pf_13_63 : pd_fetch 13 63 = some (.invokevirtual 17, 66) := by decide +kernel
theorem pf_13_66 : pd_fetch 13 66 = some (.aload 0, 67) := by decide +kernel
theorem pf_13_67 : pd_fetch 13 67 = some (.iload 4, 69) := by decide +kernel
theorem pf_13_69 : pd_fetch 13 69 = some (.iload 3, 70) := by decide +kernel
theorem pf_13_70 : pd_fetch 13 70 = some (.invokevirtual 18, 73) := by decide +kernel
theorem pf_13_73 : pd_fetch 13 73 = some (.istore 5, 75) := by decide +kernel
theorem pf_13_75 : pd_fetch 13 75 = some (.aload 0, 76) := by decide +kernel
theorem pf_13_76 : pd_fetch 13 76 = some (.aload 1, 77) := by decide +kernel
theorem pf_13_77 : pd_fetch 13 77 = some (.iload 4, 79) := by decide +kernel
theorem pf_13_79 : pd_fetch 13 79 = some (.iload 5, 81) := by decide +kernel
theorem pf_13_81 : pd_fetch 13 81 = some (.iadd, 82) := by decide +kernel
theorem pf_13_82 : pd_fetch 13 82 = some (.iload 4, 84) := by decide +kernel
theorem pf_13_84 : pd_fetch 13 84 = some (.iload 2, 85) := by decide +kernel
theorem pf_13_85 : pd_fetch 13 85 = some (.invokevirtual 19, 88) := by decide +kernel
theorem pf_13_88 : pd_fetch 13 88 = some (.aload 1, 89) := by decide +kernel
theorem pf_13_89 : pd_fetch 13 89 = some (.getfield 404, 92) := by decide +kernel
theorem pf_13_92 : pd_fetch 13 92 = some (.iload 2, 93) := by decide +kernel
theorem pf_13_93 : pd_fetch 13 93 = some (.dup2, 94) := by decide +kernel
theorem pf_13_94 : pd_fetch 13 94 = some (.iaload, 95) := by decide +kernel
theorem pf_13_95 : pd_fetch 13 95 = some (.iload 5, 97) := by decide +kernel
theorem pf_13_97 : pd_fetch 13 97 = some (.isub, 98) := by decide +kernel
theorem pf_13_98 : pd_fetch 13 98 = some (.iastore, 99) := by decide +kernel
theorem pf_13_99 : pd_fetch 13 99 = some (.iload 5, 101) := by decide +kernel
theorem pf_13_101 : pd_fetch 13 101 = some (.ireturn, 102) := by decide +kernel
theorem pf_14_0 : pd_fetch 14 0 = some (.aload 0, 1) := by decide +kernel
theorem pf_14_1 : pd_fetch 14 1 = some (.aload 1, 2) := by decide +kernel
theorem pf_14_2 : pd_fetch 14 2 = some (.getfield 403, 5) := by decide +kernel
theorem pf_14_5 : pd_fetch 14 5 = some (.iload 2, 6) := by decide +kernel
theorem pf_14_6 : pd_fetch 14 6 = some (.iaload, 7) := by decide +kernel
theorem pf_14_7 : pd_fetch 14 7 = some (.iload 3, 8) := by decide +kernel
theorem pf_14_8 : pd_fetch 14 8 = some (.iconst 1, 9) := by decide +kernel
theorem pf_14_9 : pd_fetch 14 9 = some (.invokevirtual 15, 12) := by decide +kernel
theorem pf_14_12 : pd_fetch 14 12 = some (.aload 0, 13) := by decide +kernel
theorem pf_14_13 : pd_fetch 14 13 = some (.aload 1, 14) := by decide +kernel
theorem pf_14_14 : pd_fetch 14 14 = some (.invokevirtual 17, 17) := by decide +kernel
theorem pf_14_17 : pd_fetch 14 17 = some (.aload 0, 18) := by decide +kernel
theorem pf_14_18 : pd_fetch 14 18 = some (.iconst 1, 19) := by decide +kernel
theorem pf_14_19 : pd_fetch 14 19 = some (.aload 1, 20) := by decide +kernel
theorem pf_14_20 : pd_fetch 14 20 = some (.getfield 404, 23) := by decide +kernel
theorem pf_14_23 : pd_fetch 14 23 = some (.iload 2, 24) := by decide +kernel
theorem pf_14_24 : pd_fetch 14 24 = some (.iaload, 25) := by decide +kernel
theorem pf_14_25 : pd_fetch 14 25 = some (.invokevirtual 18, 28) := by decide +kernel
theorem pf_14_28 : pd_fetch 14 28 = some (.istore 4, 30) := by decide +kernel
theorem pf_14_30 : pd_fetch 14 30 = some (.aload 1, 31) := by decide +kernel
theorem pf_14_31 : pd_fetch 14 31 = some (.getfield 404, 34) := by decide +kernel
theorem pf_14_34 : pd_fetch 14 34 = some (.iload 2, 35) := by decide +kernel
theorem pf_14_35 : pd_fetch 14 35 = some (.dup2, 36) := by decide +kernel
theorem pf_14_36 : pd_fetch 14 36 = some (.iaload, 37) := by decide +kernel
theorem pf_14_37 : pd_fetch 14 37 = some (.iload 4, 39) := by decide +kernel
theorem pf_14_39 : pd_fetch 14 39 = some (.isub, 40) := by decide +kernel
theorem pf_14_40 : pd_fetch 14 40 = some (.iastore, 41) := by decide +kernel
theorem pf_14_41 : pd_fetch 14 41 = some (.aload 1, 42) := by decide +kernel
theorem pf_14_42 : pd_fetch 14 42 = some (.iload 3, 43) := by decide +kernel
theorem pf_14_43 : pd_fetch 14 43 = some (.iload 4, 45) := by decide +kernel
theorem pf_14_45 : pd_fetch 14 45 = some (.invokevirtual 59, 48) := by decide +kernel
theorem pf_14_48 : pd_fetch 14 48 = some (.iload 4, 50) := by decide +kernel
theorem pf_14_50 : pd_fetch 14 50 = some (.ireturn, 51) := by decide +kernel
theorem pf_15_0 : pd_fetch 15 0 = some (.iconst 0, 1) := by decide +kernel
theorem pf_15_1 : pd_fetch 15 1 = some (.istore 4, 3) := by decide +kernel
theorem pf_15_3 : pd_fetch 15 3 = some (.iload 4, 5) := by decide +kernel
theorem pf_15_5 : pd_fetch 15 5 = some (.iconst 4, 6) := by decide +kernel
theorem pf_15_6 : pd_fetch 15 6 = some (.if_icmp .ge (Int.ofNat 45), 9) := by decide +kernel
theorem pf_15_9 : pd_fetch 15 9 = some (.aload 0, 10) := by decide +kernel
theorem pf_15_10 : pd_fetch 15 10 = some (.getfield 4, 13) := by decide +kernel
theorem pf_15_13 : pd_fetch 15 13 = some (.iload 4, 15) := by decide +kernel
theorem pf_15_15 : pd_fetch 15 15 = some (.iload 3, 16) := by decide +kernel
theorem pf_15_16 : pd_fetch 15 16 = some (.aload 0, 17) := by decide +kernel
theorem pf_15_17 : pd_fetch 15 17 = some (.getfield 0, 20) := by decide +kernel
theorem pf_15_20 : pd_fetch 15 20 = some (.iload 2, 21) := by decide +kernel
theorem pf_15_21 : pd_fetch 15 21 = some (.iload 4, 23) := by decide +kernel
theorem pf_15_23 : pd_fetch 15 23 = some (.invokevirtual 28, 26) := by decide +kernel
theorem pf_15_26 : pd_fetch 15 26 = some (.aload 0, 27) := by decide +kernel
theorem pf_15_27 : pd_fetch 15 27 = some (.getfield 0, 30) := by decide +kernel
theorem pf_15_30 : pd_fetch 15 30 = some (.iload 1, 31) := by decide +kernel
theorem pf_15_31 : pd_fetch 15 31 = some (.iload 4, 33) := by decide +kernel
theorem pf_15_33 : pd_fetch 15 33 = some (.invokevirtual 28, 36) := by decide +kernel
theorem pf_15_36 : pd_fetch 15 36 = some (.isub, 37) := by decide +kernel
theorem pf_15_37 : pd_fetch 15 37 = some (.imul, 38) := by decide +kernel
theorem pf_15_38 : pd_fetch 15 38 = some (.iastore, 39) := by decide +kernel
theorem pf_15_39 : pd_fetch 15 39 = some (.iinc 4 1, 42) := by decide +kernel
theorem pf_15_42 : pd_fetch 15 42 = some (.goto (Int.ofNat 3), 45) := by decide +kernel
theorem pf_15_45 : pd_fetch 15 45 = some (.return_, 46) := by decide +kernel
theorem pf_16_0 : pd_fetch 16 0 = some (.aload 0, 1) := by decide +kernel
theorem pf_16_1 : pd_fetch 16 1 = some (.iload 2, 2) := by decide +kernel
theorem pf_16_2 : pd_fetch 16 2 = some (.invokevirtual 6, 5) := by decide +kernel
theorem pf_16_5 : pd_fetch 16 5 = some (.aload 0, 6) := by decide +kernel
theorem pf_16_6 : pd_fetch 16 6 = some (.aload 1, 7) := by decide +kernel
theorem pf_16_7 : pd_fetch 16 7 = some (.invokevirtual 2, 10) := by decide +kernel
theorem pf_16_10 : pd_fetch 16 10 = some (.aload 0, 11) := by decide +kernel
theorem pf_16_11 : pd_fetch 16 11 = some (.iload 2, 12) := by decide +kernel
theorem pf_16_12 : pd_fetch 16 12 = some (.iload 3, 13) := by decide +kernel
theorem pf_16_13 : pd_fetch 16 13 = some (.iconst 100, 15) := by decide +kernel
theorem pf_16_15 : pd_fetch 16 15 = some (.invokevirtual 15, 18) := by decide +kernel
theorem pf_16_18 : pd_fetch 16 18 = some (.aload 0, 19) := by decide +kernel
theorem pf_16_19 : pd_fetch 16 19 = some (.aload 1, 20) := by decide +kernel
theorem pf_16_20 : pd_fetch 16 20 = some (.invokevirtual 17, 23) := by decide +kernel
theorem pf_16_23 : pd_fetch 16 23 = some (.return_, 24) := by decide +kernel
theorem pf_17_0 : pd_fetch 17 0 = some (.aload 0, 1) := by decide +kernel
theorem pf_17_1 : pd_fetch 17 1 = some (.jsr (0), 2) := by decide +kernel
theorem pf_17_2 : pd_fetch 17 2 = some (.putfield 6, 5) := by decide +kernel
theorem pf_17_5 : pd_fetch 17 5 = some (.aload 0, 6) := by decide +kernel
theorem pf_17_6 : pd_fetch 17 6 = some (.jsr (0), 7) := by decide +kernel
theorem pf_17_7 : pd_fetch 17 7 = some (.putfield 7, 10) := by decide +kernel
theorem pf_17_10 : pd_fetch 17 10 = some (.iconst 0, 11) := by decide +kernel
theorem pf_17_11 : pd_fetch 17 11 = some (.istore 2, 12) := by decide +kernel
theorem pf_17_12 : pd_fetch 17 12 = some (.iload 2, 13) := by decide +kernel
theorem pf_17_13 : pd_fetch 17 13 = some (.aload 1, 14) := by decide +kernel
theorem pf_17_14 : pd_fetch 17 14 = some (.getfield 400, 17) := by decide +kernel
theorem pf_17_17 : pd_fetch 17 17 = some (.if_icmp .ge (Int.ofNat 67), 20) := by decide +kernel
theorem pf_17_20 : pd_fetch 17 20 = some (.aload 1, 21) := by decide +kernel
theorem pf_17_21 : pd_fetch 17 21 = some (.iload 2, 22) := by decide +kernel
theorem pf_17_22 : pd_fetch 17 22 = some (.aload 0, 23) := by decide +kernel
theorem pf_17_23 : pd_fetch 17 23 = some (.getfield 4, 26) := by decide +kernel
theorem pf_17_26 : pd_fetch 17 26 = some (.invokevirtual 57, 29) := by decide +kernel
theorem pf_17_29 : pd_fetch 17 29 = some (.i2l, 30) := by decide +kernel
theorem pf_17_30 : pd_fetch 17 30 = some (.lstore 3, 31) := by decide +kernel
theorem pf_17_31 : pd_fetch 17 31 = some (.aload 0, 32) := by decide +kernel
theorem pf_17_32 : pd_fetch 17 32 = some (.dup, 33) := by decide +kernel
theorem pf_17_33 : pd_fetch 17 33 = some (.getfield 6, 36) := by decide +kernel
theorem pf_17_36 : pd_fetch 17 36 = some (.lload 3, 37) := by decide +kernel
theorem pf_17_37 : pd_fetch 17 37 = some (.aload 0, 38) := by decide +kernel
theorem pf_17_38 : pd_fetch 17 38 = some (.getfield 2, 41) := by decide +kernel
theorem pf_17_41 : pd_fetch 17 41 = some (.iload 2, 42) := by decide +kernel
theorem pf_17_42 : pd_fetch 17 42 = some (.iaload, 43) := by decide +kernel
theorem pf_17_43 : pd_fetch 17 43 = some (.i2l, 44) := by decide +kernel
theorem pf_17_44 : pd_fetch 17 44 = some (.lmul, 45) := by decide +kernel
theorem pf_17_45 : pd_fetch 17 45 = some (.ladd, 46) := by decide +kernel
theorem pf_17_46 : pd_fetch 17 46 = some (.putfield 6, 49) := by decide +kernel
theorem pf_17_49 : pd_fetch 17 49 = some (.aload 0, 50) := by decide +kernel
theorem pf_17_50 : pd_fetch 17 50 = some (.dup, 51) := by decide +kernel
theorem pf_17_51 : pd_fetch 17 51 = some (.getfield 7, 54) := by decide +kernel
theorem pf_17_54 : pd_fetch 17 54 = some (.lload 3, 55) := by decide +kernel
theorem pf_17_55 : pd_fetch 17 55 = some (.lload 3, 56) := by decide +kernel
theorem pf_17_56 : pd_fetch 17 56 = some (.lmul, 57) := by decide +kernel
theorem pf_17_57 : pd_fetch 17 57 = some (.ladd, 58) := by decide +kernel
theorem pf_17_58 : pd_fetch 17 58 = some (.putfield 7, 61) := by decide +kernel
theorem pf_17_61 : pd_fetch 17 61 = some (.iinc 2 1, 64) := by decide +kernel
theorem pf_17_64 : pd_fetch 17 64 = some (.goto (Int.ofNat 12), 67) := by decide +kernel
theorem pf_17_67 : pd_fetch 17 67 = some (.return_, 68) := by decide +kernel
theorem pf_18_0 : pd_fetch 18 0 = some (.aload 0, 1) := by decide +kernel
theorem pf_18_1 : pd_fetch 18 1 = some (.getfield 7, 4) := by decide +kernel
theorem pf_18_4 : pd_fetch 18 4 = some (.jsr (0), 5) := by decide +kernel
theorem pf_18_5 : pd_fetch 18 5 = some (.lcmp, 6) := by decide +kernel
theorem pf_18_6 : pd_fetch 18 6 = some (.ifCond .le (Int.ofNat 18), 9) := by decide +kernel
theorem pf_18_9 : pd_fetch 18 9 = some (.aload 0, 10) := by decide +kernel
theorem pf_18_10 : pd_fetch 18 10 = some (.getfield 6, 13) := by decide +kernel
theorem pf_18_13 : pd_fetch 18 13 = some (.jsr (0), 14) := by decide +kernel
theorem pf_18_14 : pd_fetch 18 14 = some (.lcmp, 15) := by decide +kernel
theorem pf_18_15 : pd_fetch 18 15 = some (.ifCond .lt (Int.ofNat 20), 18) := by decide +kernel
theorem pf_18_18 : pd_fetch 18 18 = some (.iconst 0, 19) := by decide +kernel
theorem pf_18_19 : pd_fetch 18 19 = some (.ireturn, 20) := by decide +kernel
theorem pf_18_20 : pd_fetch 18 20 = some (.iconst (-2), 22) := by decide +kernel
theorem pf_18_22 : pd_fetch 18 22 = some (.iload 1, 23) := by decide +kernel
theorem pf_18_23 : pd_fetch 18 23 = some (.imul, 24) := by decide +kernel
theorem pf_18_24 : pd_fetch 18 24 = some (.i2l, 25) := by decide +kernel
theorem pf_18_25 : pd_fetch 18 25 = some (.aload 0, 26) := by decide +kernel
theorem pf_18_26 : pd_fetch 18 26 = some (.getfield 6, 29) := by decide +kernel
theorem pf_18_29 : pd_fetch 18 29 = some (.lmul, 30) := by decide +kernel
theorem pf_18_30 : pd_fetch 18 30 = some (.aload 0, 31) := by decide +kernel
theorem pf_18_31 : pd_fetch 18 31 = some (.getfield 7, 34) := by decide +kernel
theorem pf_18_34 : pd_fetch 18 34 = some (.ladd, 35) := by decide +kernel
theorem pf_18_35 : pd_fetch 18 35 = some (.jsr (1), 36) := by decide +kernel
theorem pf_18_36 : pd_fetch 18 36 = some (.lsub, 37) := by decide +kernel
theorem pf_18_37 : pd_fetch 18 37 = some (.jsr (2), 40) := by decide +kernel
theorem pf_18_40 : pd_fetch 18 40 = some (.aload 0, 41) := by decide +kernel
theorem pf_18_41 : pd_fetch 18 41 = some (.getfield 7, 44) := by decide +kernel
theorem pf_18_44 : pd_fetch 18 44 = some (.lmul, 45) := by decide +kernel
theorem pf_18_45 : pd_fetch 18 45 = some (.ldiv, 46) := by decide +kernel
theorem pf_18_46 : pd_fetch 18 46 = some (.lstore 3, 47) := by decide +kernel
theorem pf_18_47 : pd_fetch 18 47 = some (.lload 3, 48) := by decide +kernel
theorem pf_18_48 : pd_fetch 18 48 = some (.iload 2, 49) := by decide +kernel
theorem pf_18_49 : pd_fetch 18 49 = some (.i2l, 50) := by decide +kernel
theorem pf_18_50 : pd_fetch 18 50 = some (.invokestatic 1002, 53) := by decide +kernel
theorem pf_18_53 : pd_fetch 18 53 = some (.l2i, 54) := by decide +kernel
theorem pf_18_54 : pd_fetch 18 54 = some (.ireturn, 55) := by decide +kernel
theorem pf_19_0 : pd_fetch 19 0 = some (.iload 3, 1) := by decide +kernel
theorem pf_19_1 : pd_fetch 19 1 = some (.iconst 1, 2) := by decide +kernel
theorem pf_19_2 : pd_fetch 19 2 = some (.if_icmp .ge (Int.ofNat 6), 5) := by decide +kernel
theorem pf_19_5 : pd_fetch 19 5 = some (.return_, 6) := by decide +kernel
theorem pf_19_6 : pd_fetch 19 6 = some (.iconst 0, 7) := by decide +kernel
theorem pf_19_7 : pd_fetch 19 7 = some (.istore 5, 9) := by decide +kernel
theorem pf_19_9 : pd_fetch 19 9 = some (.iconst 0, 10) := by decide +kernel
theorem pf_19_10 : pd_fetch 19 10 = some (.istore 6, 12) := by decide +kernel
theorem pf_19_12 : pd_fetch 19 12 = some (.iload 6, 14) := by decide +kernel
theorem pf_19_14 : pd_fetch 19 14 = some (.aload 1, 15) := by decide +kernel
theorem pf_19_15 : pd_fetch 19 15 = some (.getfield 402, 18) := by decide +kernel
theorem pf_19_18 : pd_fetch 19 18 = some (.if_icmp .ge (Int.ofNat 88), 21) := by decide +kernel
theorem pf_19_21 : pd_fetch 19 21 = some (.aload 0, 22) := by decide +kernel
theorem pf_19_22 : pd_fetch 19 22 = some (.getfield 5, 25) := by decide +kernel
theorem pf_19_25 : pd_fetch 19 25 = some (.iload 6, 27) := by decide +kernel
theorem pf_19_27 : pd_fetch 19 27 = some (.iconst (-9), 29) := by decide +kernel
theorem pf_19_29 : pd_fetch 19 29 = some (.iastore, 30) := by decide +kernel
theorem pf_19_30 : pd_fetch 19 30 = some (.iload 6, 32) := by decide +kernel
theorem pf_19_32 : pd_fetch 19 32 = some (.iload 4, 34) := by decide +kernel
theorem pf_19_34 : pd_fetch 19 34 = some (.if_icmp .eq (Int.ofNat 82), 37) := by decide +kernel
theorem pf_19_37 : pd_fetch 19 37 = some (.aload 1, 38) := by decide +kernel
theorem pf_19_38 : pd_fetch 19 38 = some (.getfield 404, 41) := by decide +kernel
theorem pf_19_41 : pd_fetch 19 41 = some (.iload 6, 43) := by decide +kernel
theorem pf_19_43 : pd_fetch 19 43 = some (.iaload, 44) := by decide +kernel
theorem pf_19_44 : pd_fetch 19 44 = some (.iload 2, 45) := by decide +kernel
theorem pf_19_45 : pd_fetch 19 45 = some (.imul, 46) := by decide +kernel
theorem pf_19_46 : pd_fetch 19 46 = some (.istore 7, 48) := by decide +kernel
theorem pf_19_48 : pd_fetch 19 48 = some (.aload 1, 49) := by decide +kernel
theorem pf_19_49 : pd_fetch 19 49 = some (.getfield 404, 52) := by decide +kernel
theorem pf_19_52 : pd_fetch 19 52 = some (.iload 6, 54) := by decide +kernel
theorem pf_19_54 : pd_fetch 19 54 = some (.iload 7, 56) := by decide +kernel
theorem pf_19_56 : pd_fetch 19 56 = some (.iload 3, 57) := by decide +kernel
theorem pf_19_57 : pd_fetch 19 57 = some (.idiv, 58) := by decide +kernel
theorem pf_19_58 : pd_fetch 19 58 = some (.iastore, 59) := by decide +kernel
theorem pf_19_59 : pd_fetch 19 59 = some (.aload 0, 60) := by decide +kernel
theorem pf_19_60 : pd_fetch 19 60 = some (.getfield 5, 63) := by decide +kernel
theorem pf_19_63 : pd_fetch 19 63 = some (.iload 6, 65) := by decide +kernel
theorem pf_19_65 : pd_fetch 19 65 = some (.iload 7, 67) := by decide +kernel
theorem pf_19_67 : pd_fetch 19 67 = some (.iload 3, 68) := by decide +kernel
theorem pf_19_68 : pd_fetch 19 68 = some (.irem, 69) := by decide +kernel
theorem pf_19_69 : pd_fetch 19 69 = some (.iastore, 70) := by decide +kernel
theorem pf_19_70 : pd_fetch 19 70 = some (.iload 5, 72) := by decide +kernel
theorem pf_19_72 : pd_fetch 19 72 = some (.aload 0, 73) := by decide +kernel
theorem pf_19_73 : pd_fetch 19 73 = some (.getfield 5, 76) := by decide +kernel
theorem pf_19_76 : pd_fetch 19 76 = some (.iload 6, 78) := by decide +kernel
theorem pf_19_78 : pd_fetch 19 78 = some (.iaload, 79) := by decide +kernel
theorem pf_19_79 : pd_fetch 19 79 = some (.iadd, 80) := by decide +kernel
theorem pf_19_80 : pd_fetch 19 80 = some (.istore 5, 82) := by decide +kernel
theorem pf_19_82 : pd_fetch 19 82 = some (.iinc 6 1, 85) := by decide +kernel
theorem pf_19_85 : pd_fetch 19 85 = some (.goto (Int.ofNat 12), 88) := by decide +kernel
theorem pf_19_88 : pd_fetch 19 88 = some (.iload 5, 90) := by decide +kernel
theorem pf_19_90 : pd_fetch 19 90 = some (.iload 3, 91) := by decide +kernel
theorem pf_19_91 : pd_fetch 19 91 = some (.idiv, 92) := by decide +kernel
theorem pf_19_92 : pd_fetch 19 92 = some (.istore 6, 94) := by decide +kernel
theorem pf_19_94 : pd_fetch 19 94 = some (.iconst 0, 95) := by decide +kernel
theorem pf_19_95 : pd_fetch 19 95 = some (.istore 7, 97) := by decide +kernel
theorem pf_19_97 : pd_fetch 19 97 = some (.iload 7, 99) := by decide +kernel
theorem pf_19_99 : pd_fetch 19 99 = some (.iload 6, 101) := by decide +kernel
theorem pf_19_101 : pd_fetch 19 101 = some (.if_icmp .ge (Int.ofNat 140), 104) := by decide +kernel
theorem pf_19_104 : pd_fetch 19 104 = some (.aload 0, 105) := by decide +kernel
theorem pf_19_105 : pd_fetch 19 105 = some (.aload 1, 106) := by decide +kernel
theorem pf_19_106 : pd_fetch 19 106 = some (.getfield 402, 109) := by decide +kernel
theorem pf_19_109 : pd_fetch 19 109 = some (.invokevirtual 20, 112) := by decide +kernel
theorem pf_19_112 : pd_fetch 19 112 = some (.istore 8, 114) := by decide +kernel
theorem pf_19_114 : pd_fetch 19 114 = some (.aload 1, 115) := by decide +kernel
theorem pf_19_115 : pd_fetch 19 115 = some (.getfield 404, 118) := by decide +kernel
theorem pf_19_118 : pd_fetch 19 118 = some (.iload 8, 120) := by decide +kernel
theorem pf_19_120 : pd_fetch 19 120 = some (.dup2, 121) := by decide +kernel
theorem pf_19_121 : pd_fetch 19 121 = some (.iaload, 122) := by decide +kernel
theorem pf_19_122 : pd_fetch 19 122 = some (.iconst 1, 123) := by decide +kernel
theorem pf_19_123 : pd_fetch 19 123 = some (.iadd, 124) := by decide +kernel
theorem pf_19_124 : pd_fetch 19 124 = some (.iastore, 125) := by decide +kernel
theorem pf_19_125 : pd_fetch 19 125 = some (.aload 0, 126) := by decide +kernel
theorem pf_19_126 : pd_fetch 19 126 = some (.getfield 5, 129) := by decide +kernel
theorem pf_19_129 : pd_fetch 19 129 = some (.iload 8, 131) := by decide +kernel
theorem pf_19_131 : pd_fetch 19 131 = some (.iconst (-9), 133) := by decide +kernel
theorem pf_19_133 : pd_fetch 19 133 = some (.iastore, 134) := by decide +kernel
theorem pf_19_134 : pd_fetch 19 134 = some (.iinc 7 1, 137) := by decide +kernel
theorem pf_19_137 : pd_fetch 19 137 = some (.goto (Int.ofNat 97), 140) := by decide +kernel
theorem pf_19_140 : pd_fetch 19 140 = some (.return_, 141) := by decide +kernel
theorem pf_20_0 : pd_fetch 20 0 = some (.iconst 0, 1) := by decide +kernel
theorem pf_20_1 : pd_fetch 20 1 = some (.istore 2, 2) := by decide +kernel
theorem pf_20_2 : pd_fetch 20 2 = some (.iconst 1, 3) := by decide +kernel
theorem pf_20_3 : pd_fetch 20 3 = some (.istore 3, 4) := by decide +kernel
theorem pf_20_4 : pd_fetch 20 4 = some (.iload 3, 5) := by decide +kernel
theorem pf_20_5 : pd_fetch 20 5 = some (.iload 1, 6) := by decide +kernel
theorem pf_20_6 : pd_fetch 20 6 = some (.if_icmp .ge (Int.ofNat 32), 9) := by decide +kernel
theorem pf_20_9 : pd_fetch 20 9 = some (.aload 0, 10) := by decide +kernel
theorem pf_20_10 : pd_fetch 20 10 = some (.getfield 5, 13) := by decide +kernel
theorem pf_20_13 : pd_fetch 20 13 = some (.iload 3, 14) := by decide +kernel
theorem pf_20_14 : pd_fetch 20 14 = some (.iaload, 15) := by decide +kernel
theorem pf_20_15 : pd_fetch 20 15 = some (.aload 0, 16) := by decide +kernel
theorem pf_20_16 : pd_fetch 20 16 = some (.getfield 5, 19) := by decide +kernel
theorem pf_20_19 : pd_fetch 20 19 = some (.iload 2, 20) := by decide +kernel
theorem pf_20_20 : pd_fetch 20 20 = some (.iaload, 21) := by decide +kernel
theorem pf_20_21 : pd_fetch 20 21 = some (.if_icmp .le (Int.ofNat 26), 24) := by decide +kernel
theorem pf_20_24 : pd_fetch 20 24 = some (.iload 3, 25) := by decide +kernel
theorem pf_20_25 : pd_fetch 20 25 = some (.istore 2, 26) := by decide +kernel
theorem pf_20_26 : pd_fetch 20 26 = some (.iinc 3 1, 29) := by decide +kernel
theorem pf_20_29 : pd_fetch 20 29 = some (.goto (Int.ofNat 4), 32) := by decide +kernel
theorem pf_20_32 : pd_fetch 20 32 = some (.iload 2, 33) := by decide +kernel
theorem pf_20_33 : pd_fetch 20 33 = some (.ireturn, 34) := by decide +kernel
theorem pf_21_0 : pd_fetch 21 0 = some (.aload 0, 1) := by decide +kernel
theorem pf_21_1 : pd_fetch 21 1 = some (.invokespecial 1000, 4) := by decide +kernel
theorem pf_21_4 : pd_fetch 21 4 = some (.aload 0, 5) := by decide +kernel
theorem pf_21_5 : pd_fetch 21 5 = some (.iconst 14, 7) := by decide +kernel
theorem pf_21_7 : pd_fetch 21 7 = some (.anewarray 4, 10) := by decide +kernel
theorem pf_21_10 : pd_fetch 21 10 = some (.putfield 102, 13) := by decide +kernel
theorem pf_21_13 : pd_fetch 21 13 = some (.iconst 0, 14) := by decide +kernel
theorem pf_21_14 : pd_fetch 21 14 = some (.istore 1, 15) := by decide +kernel
theorem pf_21_15 : pd_fetch 21 15 = some (.iload 1, 16) := by decide +kernel
theorem pf_21_16 : pd_fetch 21 16 = some (.iconst 14, 18) := by decide +kernel
theorem pf_21_18 : pd_fetch 21 18 = some (.if_icmp .ge (Int.ofNat 40), 21) := by decide +kernel
theorem pf_21_21 : pd_fetch 21 21 = some (.aload 0, 22) := by decide +kernel
theorem pf_21_22 : pd_fetch 21 22 = some (.getfield 102, 25) := by decide +kernel
theorem pf_21_25 : pd_fetch 21 25 = some (.iload 1, 26) := by decide +kernel
theorem pf_21_26 : pd_fetch 21 26 = some (.new 4, 29) := by decide +kernel
theorem pf_21_29 : pd_fetch 21 29 = some (.dup, 30) := by decide +kernel
theorem pf_21_30 : pd_fetch 21 30 = some (.invokespecial 51, 33) := by decide +kernel
theorem pf_21_33 : pd_fetch 21 33 = some (.aastore, 34) := by decide +kernel
theorem pf_21_34 : pd_fetch 21 34 = some (.iinc 1 1, 37) := by decide +kernel
theorem pf_21_37 : pd_fetch 21 37 = some (.goto (Int.ofNat 15), 40) := by decide +kernel
theorem pf_21_40 : pd_fetch 21 40 = some (.return_, 41) := by decide +kernel
theorem pf_22_0 : pd_fetch 22 0 = some (.aload 0, 1) := by decide +kernel
theorem pf_22_1 : pd_fetch 22 1 = some (.getfield 102, 4) := by decide +kernel
theorem pf_22_4 : pd_fetch 22 4 = some (.aload 0, 5) := by decide +kernel
theorem pf_22_5 : pd_fetch 22 5 = some (.getfield 101, 8) := by decide +kernel
theorem pf_22_8 : pd_fetch 22 8 = some (.aaload, 9) := by decide +kernel
theorem pf_22_9 : pd_fetch 22 9 = some (.aload 1, 10) := by decide +kernel
theorem pf_22_10 : pd_fetch 22 10 = some (.invokevirtual 52, 13) := by decide +kernel
theorem pf_22_13 : pd_fetch 22 13 = some (.aload 0, 14) := by decide +kernel
theorem pf_22_14 : pd_fetch 22 14 = some (.aload 0, 15) := by decide +kernel
theorem pf_22_15 : pd_fetch 22 15 = some (.getfield 101, 18) := by decide +kernel
theorem pf_22_18 : pd_fetch 22 18 = some (.iconst 1, 19) := by decide +kernel
theorem pf_22_19 : pd_fetch 22 19 = some (.iadd, 20) := by decide +kernel
theorem pf_22_20 : pd_fetch 22 20 = some (.iconst 14, 22) := by decide +kernel
theorem pf_22_22 : pd_fetch 22 22 = some (.irem, 23) := by decide +kernel
theorem pf_22_23 : pd_fetch 22 23 = some (.putfield 101, 26) := by decide +kernel
theorem pf_22_26 : pd_fetch 22 26 = some (.aload 0, 27) := by decide +kernel
theorem pf_22_27 : pd_fetch 22 27 = some (.aload 0, 28) := by decide +kernel
theorem pf_22_28 : pd_fetch 22 28 = some (.getfield 100, 31) := by decide +kernel
theorem pf_22_31 : pd_fetch 22 31 = some (.iconst 1, 32) := by decide +kernel
theorem pf_22_32 : pd_fetch 22 32 = some (.iadd, 33) := by decide +kernel
theorem pf_22_33 : pd_fetch 22 33 = some (.iconst 14, 35) := by decide +kernel
theorem pf_22_35 : pd_fetch 22 35 = some (.invokestatic 1001, 38) := by decide +kernel
theorem pf_22_38 : pd_fetch 22 38 = some (.putfield 100, 41) := by decide +kernel
theorem pf_22_41 : pd_fetch 22 41 = some (.return_, 42) := by decide +kernel
theorem pf_23_0 : pd_fetch 23 0 = some (.aload 0, 1) := by decide +kernel
theorem pf_23_1 : pd_fetch 23 1 = some (.getfield 100, 4) := by decide +kernel
theorem pf_23_4 : pd_fetch 23 4 = some (.iconst 1, 5) := by decide +kernel
theorem pf_23_5 : pd_fetch 23 5 = some (.if_icmp .ge (Int.ofNat 9), 8) := by decide +kernel
theorem pf_23_8 : pd_fetch 23 8 = some (.return_, 9) := by decide +kernel
theorem pf_23_9 : pd_fetch 23 9 = some (.aload 0, 10) := by decide +kernel
theorem pf_23_10 : pd_fetch 23 10 = some (.aload 0, 11) := by decide +kernel
theorem pf_23_11 : pd_fetch 23 11 = some (.getfield 101, 14) := by decide +kernel
theorem pf_23_14 : pd_fetch 23 14 = some (.iconst 14, 16) := by decide +kernel
theorem pf_23_16 : pd_fetch 23 16 = some (.iadd, 17) := by decide +kernel
theorem pf_23_17 : pd_fetch 23 17 = some (.iconst 1, 18) := by decide +kernel
theorem pf_23_18 : pd_fetch 23 18 = some (.isub, 19) := by decide +kernel
theorem pf_23_19 : pd_fetch 23 19 = some (.iconst 14, 21) := by decide +kernel
theorem pf_23_21 : pd_fetch 23 21 = some (.irem, 22) := by decide +kernel
theorem pf_23_22 : pd_fetch 23 22 = some (.putfield 101, 25) := by decide +kernel
theorem pf_23_25 : pd_fetch 23 25 = some (.aload 0, 26) := by decide +kernel
theorem pf_23_26 : pd_fetch 23 26 = some (.dup, 27) := by decide +kernel
theorem pf_23_27 : pd_fetch 23 27 = some (.getfield 100, 30) := by decide +kernel
theorem pf_23_30 : pd_fetch 23 30 = some (.iconst 1, 31) := by decide +kernel
theorem pf_23_31 : pd_fetch 23 31 = some (.isub, 32) := by decide +kernel
theorem pf_23_32 : pd_fetch 23 32 = some (.putfield 100, 35) := by decide +kernel
theorem pf_23_35 : pd_fetch 23 35 = some (.aload 1, 36) := by decide +kernel
theorem pf_23_36 : pd_fetch 23 36 = some (.aload 0, 37) := by decide +kernel
theorem pf_23_37 : pd_fetch 23 37 = some (.getfield 102, 40) := by decide +kernel
theorem pf_23_40 : pd_fetch 23 40 = some (.aload 0, 41) := by decide +kernel
theorem pf_23_41 : pd_fetch 23 41 = some (.getfield 101, 44) := by decide +kernel
theorem pf_23_44 : pd_fetch 23 44 = some (.aaload, 45) := by decide +kernel
theorem pf_23_45 : pd_fetch 23 45 = some (.invokevirtual 52, 48) := by decide +kernel
theorem pf_23_48 : pd_fetch 23 48 = some (.return_, 49) := by decide +kernel
theorem pf_24_0 : pd_fetch 24 0 = some (.aload 0, 1) := by decide +kernel
theorem pf_24_1 : pd_fetch 24 1 = some (.iconst 0, 2) := by decide +kernel
theorem pf_24_2 : pd_fetch 24 2 = some (.putfield 100, 5) := by decide +kernel
theorem pf_24_5 : pd_fetch 24 5 = some (.aload 0, 6) := by decide +kernel
theorem pf_24_6 : pd_fetch 24 6 = some (.iconst 0, 7) := by decide +kernel
theorem pf_24_7 : pd_fetch 24 7 = some (.putfield 101, 10) := by decide +kernel
theorem pf_24_10 : pd_fetch 24 10 = some (.return_, 11) := by decide +kernel
theorem pf_25_0 : pd_fetch 25 0 = some (.aload 0, 1) := by decide +kernel
theorem pf_25_1 : pd_fetch 25 1 = some (.invokespecial 1000, 4) := by decide +kernel
theorem pf_25_4 : pd_fetch 25 4 = some (.aload 0, 5) := by decide +kernel
theorem pf_25_5 : pd_fetch 25 5 = some (.iconst 96, 7) := by decide +kernel
theorem pf_25_7 : pd_fetch 25 7 = some (.newarray .int, 9) := by decide +kernel
theorem pf_25_9 : pd_fetch 25 9 = some (.putfield 203, 12) := by decide +kernel
theorem pf_25_12 : pd_fetch 25 12 = some (.aload 0, 13) := by decide +kernel
theorem pf_25_13 : pd_fetch 25 13 = some (.iconst 4, 14) := by decide +kernel
theorem pf_25_14 : pd_fetch 25 14 = some (.newarray .int, 16) := by decide +kernel
theorem pf_25_16 : pd_fetch 25 16 = some (.putfield 204, 19) := by decide +kernel
theorem pf_25_19 : pd_fetch 25 19 = some (.aload 0, 20) := by decide +kernel
theorem pf_25_20 : pd_fetch 25 20 = some (.iconst 4, 21) := by decide +kernel
theorem pf_25_21 : pd_fetch 25 21 = some (.newarray .int, 23) := by decide +kernel
theorem pf_25_23 : pd_fetch 25 23 = some (.putfield 205, 26) := by decide +kernel
theorem pf_25_26 : pd_fetch 25 26 = some (.return_, 27) := by decide +kernel
theorem pf_26_0 : pd_fetch 26 0 = some (.aload 0, 1) := by decide +kernel
theorem pf_26_1 : pd_fetch 26 1 = some (.iload 1, 2) := by decide +kernel
theorem pf_26_2 : pd_fetch 26 2 = some (.putfield 200, 5) := by decide +kernel
theorem pf_26_5 : pd_fetch 26 5 = some (.aload 0, 6) := by decide +kernel
theorem pf_26_6 : pd_fetch 26 6 = some (.iload 2, 7) := by decide +kernel
theorem pf_26_7 : pd_fetch 26 7 = some (.putfield 201, 10) := by decide +kernel
theorem pf_26_10 : pd_fetch 26 10 = some (.aload 0, 11) := by decide +kernel
theorem pf_26_11 : pd_fetch 26 11 = some (.iconst 0, 12) := by decide +kernel
theorem pf_26_12 : pd_fetch 26 12 = some (.putfield 202, 15) := by decide +kernel
theorem pf_26_15 : pd_fetch 26 15 = some (.return_, 16) := by decide +kernel
theorem pf_27_0 : pd_fetch 27 0 = some (.aload 0, 1) := by decide +kernel
theorem pf_27_1 : pd_fetch 27 1 = some (.aload 1, 2) := by decide +kernel
theorem pf_27_2 : pd_fetch 27 2 = some (.getfield 200, 5) := by decide +kernel
theorem pf_27_5 : pd_fetch 27 5 = some (.putfield 200, 8) := by decide +kernel
theorem pf_27_8 : pd_fetch 27 8 = some (.aload 0, 9) := by decide +kernel
theorem pf_27_9 : pd_fetch 27 9 = some (.aload 1, 10) := by decide +kernel
theorem pf_27_10 : pd_fetch 27 10 = some (.getfield 201, 13) := by decide +kernel
theorem pf_27_13 : pd_fetch 27 13 = some (.putfield 201, 16) := by decide +kernel
theorem pf_27_16 : pd_fetch 27 16 = some (.aload 0, 17) := by decide +kernel
theorem pf_27_17 : pd_fetch 27 17 = some (.aload 1, 18) := by decide +kernel
theorem pf_27_18 : pd_fetch 27 18 = some (.getfield 202, 21) := by decide +kernel
theorem pf_27_21 : pd_fetch 27 21 = some (.putfield 202, 24) := by decide +kernel
theorem pf_27_24 : pd_fetch 27 24 = some (.aload 1, 25) := by decide +kernel
theorem pf_27_25 : pd_fetch 27 25 = some (.getfield 203, 28) := by decide +kernel
theorem pf_27_28 : pd_fetch 27 28 = some (.iconst 0, 29) := by decide +kernel
theorem pf_27_29 : pd_fetch 27 29 = some (.aload 0, 30) := by decide +kernel
theorem pf_27_30 : pd_fetch 27 30 = some (.getfield 203, 33) := by decide +kernel
theorem pf_27_33 : pd_fetch 27 33 = some (.iconst 0, 34) := by decide +kernel
theorem pf_27_34 : pd_fetch 27 34 = some (.aload 0, 35) := by decide +kernel
theorem pf_27_35 : pd_fetch 27 35 = some (.getfield 203, 38) := by decide +kernel
theorem pf_27_38 : pd_fetch 27 38 = some (.arraylength, 39) := by decide +kernel
theorem pf_27_39 : pd_fetch 27 39 = some (.invokestatic 1004, 42) := by decide +kernel
theorem pf_27_42 : pd_fetch 27 42 = some (.return_, 43) := by decide +kernel
theorem pf_28_0 : pd_fetch 28 0 = some (.iload 1, 1) := by decide +kernel
theorem pf_28_1 : pd_fetch 28 1 = some (.ifCond .lt (Int.ofNat 19), 4) := by decide +kernel
theorem pf_28_4 : pd_fetch 28 4 = some (.iload 1, 5) := by decide +kernel
theorem pf_28_5 : pd_fetch 28 5 = some (.iconst 24, 7) := by decide +kernel
theorem pf_28_7 : pd_fetch 28 7 = some (.if_icmp .ge (Int.ofNat 19), 10) := by decide +kernel
theorem pf_28_10 : pd_fetch 28 10 = some (.iload 2, 11) := by decide +kernel
theorem pf_28_11 : pd_fetch 28 11 = some (.ifCond .lt (Int.ofNat 19), 14) := by decide +kernel
theorem pf_28_14 : pd_fetch 28 14 = some (.iload 2, 15) := by decide +kernel
theorem pf_28_15 : pd_fetch 28 15 = some (.iconst 4, 16) := by decide +kernel
theorem pf_28_16 : pd_fetch 28 16 = some (.if_icmp .lt (Int.ofNat 21), 19) := by decide +kernel
theorem pf_28_19 : pd_fetch 28 19 = some (.iconst 0, 20) := by decide +kernel
theorem pf_28_20 : pd_fetch 28 20 = some (.ireturn, 21) := by decide +kernel
theorem pf_28_21 : pd_fetch 28 21 = some (.aload 0, 22) := by decide +kernel
theorem pf_28_22 : pd_fetch 28 22 = some (.getfield 203, 25) := by decide +kernel
theorem pf_28_25 : pd_fetch 28 25 = some (.iload 1, 26) := by decide +kernel
theorem pf_28_26 : pd_fetch 28 26 = some (.iconst 4, 27) := by decide +kernel
theorem pf_28_27 : pd_fetch 28 27 = some (.imul, 28) := by decide +kernel
theorem pf_28_28 : pd_fetch 28 28 = some (.iload 2, 29) := by decide +kernel
theorem pf_28_29 : pd_fetch 28 29 = some (.iadd, 30) := by decide +kernel
theorem pf_28_30 : pd_fetch 28 30 = some (.iaload, 31) := by decide +kernel
theorem pf_28_31 : pd_fetch 28 31 = some (.ireturn, 32) := by decide +kernel
theorem pf_29_0 : pd_fetch 29 0 = some (.iconst 0, 1) := by decide +kernel
theorem pf_29_1 : pd_fetch 29 1 = some (.istore 2, 2) := by decide +kernel
theorem pf_29_2 : pd_fetch 29 2 = some (.iload 2, 3) := by decide +kernel
theorem pf_29_3 : pd_fetch 29 3 = some (.aload 0, 4) := by decide +kernel
theorem pf_29_4 : pd_fetch 29 4 = some (.getfield 202, 7) := by decide +kernel
theorem pf_29_7 : pd_fetch 29 7 = some (.if_icmp .ge (Int.ofNat 25), 10) := by decide +kernel
theorem pf_29_10 : pd_fetch 29 10 = some (.aload 0, 11) := by decide +kernel
theorem pf_29_11 : pd_fetch 29 11 = some (.iload 2, 12) := by decide +kernel
theorem pf_29_12 : pd_fetch 29 12 = some (.aload 1, 13) := by decide +kernel
theorem pf_29_13 : pd_fetch 29 13 = some (.invokevirtual 31, 16) := by decide +kernel
theorem pf_29_16 : pd_fetch 29 16 = some (.ifCond .ge (Int.ofNat 25), 19) := by decide +kernel
theorem pf_29_19 : pd_fetch 29 19 = some (.iinc 2 1, 22) := by decide +kernel
theorem pf_29_22 : pd_fetch 29 22 = some (.goto (Int.ofNat 2), 25) := by decide +kernel
theorem pf_29_25 : pd_fetch 29 25 = some (.aload 0, 26) := by decide +kernel
theorem pf_29_26 : pd_fetch 29 26 = some (.getfield 202, 29) := by decide +kernel
theorem pf_29_29 : pd_fetch 29 29 = some (.iconst 24, 31) := by decide +kernel
theorem pf_29_31 : pd_fetch 29 31 = some (.if_icmp .ge (Int.ofNat 51), 34) := by decide +kernel
theorem pf_29_34 : pd_fetch 29 34 = some (.iload 2, 35) := by decide +kernel
theorem pf_29_35 : pd_fetch 29 35 = some (.aload 0, 36) := by decide +kernel
theorem pf_29_36 : pd_fetch 29 36 = some (.getfield 202, 39) := by decide +kernel
theorem pf_29_39 : pd_fetch 29 39 = some (.if_icmp .ge (Int.ofNat 53), 42) := by decide +kernel
theorem pf_29_42 : pd_fetch 29 42 = some (.aload 0, 43) := by decide +kernel
theorem pf_29_43 : pd_fetch 29 43 = some (.iload 2, 44) := by decide +kernel
theorem pf_29_44 : pd_fetch 29 44 = some (.aload 1, 45) := by decide +kernel
theorem pf_29_45 : pd_fetch 29 45 = some (.invokevirtual 31, 48) := by decide +kernel
theorem pf_29_48 : pd_fetch 29 48 = some (.ifCond .ne (Int.ofNat 53), 51) := by decide +kernel
theorem pf_29_51 : pd_fetch 29 51 = some (.iconst 0, 52) := by decide +kernel
theorem pf_29_52 : pd_fetch 29 52 = some (.ireturn, 53) := by decide +kernel
theorem pf_29_53 : pd_fetch 29 53 = some (.aload 0, 54) := by decide +kernel
theorem pf_29_54 : pd_fetch 29 54 = some (.getfield 202, 57) := by decide +kernel
theorem pf_29_57 : pd_fetch 29 57 = some (.iconst 4, 58) := by decide +kernel
theorem pf_29_58 : pd_fetch 29 58 = some (.imul, 59) := by decide +kernel
theorem pf_29_59 : pd_fetch 29 59 = some (.iconst 1, 60) := by decide +kernel
theorem pf_29_60 : pd_fetch 29 60 = some (.isub, 61) := by decide +kernel
theorem pf_29_61 : pd_fetch 29 61 = some (.istore 3, 62) := by decide +kernel
theorem pf_29_62 : pd_fetch 29 62 = some (.iload 3, 63) := by decide +kernel
theorem pf_29_63 : pd_fetch 29 63 = some (.iload 2, 64) := by decide +kernel
theorem pf_29_64 : pd_fetch 29 64 = some (.iconst 4, 65) := by decide +kernel
theorem pf_29_65 : pd_fetch 29 65 = some (.imul, 66) := by decide +kernel
theorem pf_29_66 : pd_fetch 29 66 = some (.if_icmp .lt (Int.ofNat 89), 69) := by decide +kernel
theorem pf_29_69 : pd_fetch 29 69 = some (.aload 0, 70) := by decide +kernel
theorem pf_29_70 : pd_fetch 29 70 = some (.getfield 203, 73) := by decide +kernel
theorem pf_29_73 : pd_fetch 29 73 = some (.iload 3, 74) := by decide +kernel
theorem pf_29_74 : pd_fetch 29 74 = some (.iconst 4, 75) := by decide +kernel
theorem pf_29_75 : pd_fetch 29 75 = some (.iadd, 76) := by decide +kernel
theorem pf_29_76 : pd_fetch 29 76 = some (.aload 0, 77) := by decide +kernel
theorem pf_29_77 : pd_fetch 29 77 = some (.getfield 203, 80) := by decide +kernel
theorem pf_29_80 : pd_fetch 29 80 = some (.iload 3, 81) := by decide +kernel
theorem pf_29_81 : pd_fetch 29 81 = some (.iaload, 82) := by decide +kernel
theorem pf_29_82 : pd_fetch 29 82 = some (.iastore, 83) := by decide +kernel
theorem pf_29_83 : pd_fetch 29 83 = some (.iinc 3 (-1), 86) := by decide +kernel
theorem pf_29_86 : pd_fetch 29 86 = some (.goto (Int.ofNat 62), 89) := by decide +kernel
theorem pf_29_89 : pd_fetch 29 89 = some (.iconst 0, 90) := by decide +kernel
theorem pf_29_90 : pd_fetch 29 90 = some (.istore 3, 91) := by decide +kernel
theorem pf_29_91 : pd_fetch 29 91 = some (.iload 3, 92) := by decide +kernel
theorem pf_29_92 : pd_fetch 29 92 = some (.iconst 4, 93) := by decide +kernel
theorem pf_29_93 : pd_fetch 29 93 = some (.if_icmp .ge (Int.ofNat 115), 96) := by decide +kernel
theorem pf_29_96 : pd_fetch 29 96 = some (.aload 0, 97) := by decide +kernel
theorem pf_29_97 : pd_fetch 29 97 = some (.getfield 203, 100) := by decide +kernel
theorem pf_29_100 : pd_fetch 29 100 = some (.iload 2, 101) := by decide +kernel
theorem pf_29_101 : pd_fetch 29 101 = some (.iconst 4, 102) := by decide +kernel
theorem pf_29_102 : pd_fetch 29 102 = some (.imul, 103) := by decide +kernel
theorem pf_29_103 : pd_fetch 29 103 = some (.iload 3, 104) := by decide +kernel
theorem pf_29_104 : pd_fetch 29 104 = some (.iadd, 105) := by decide +kernel
theorem pf_29_105 : pd_fetch 29 105 = some (.aload 1, 106) := by decide +kernel
theorem pf_29_106 : pd_fetch 29 106 = some (.iload 3, 107) := by decide +kernel
theorem pf_29_107 : pd_fetch 29 107 = some (.iaload, 108) := by decide +kernel
theorem pf_29_108 : pd_fetch 29 108 = some (.iastore, 109) := by decide +kernel
theorem pf_29_109 : pd_fetch 29 109 = some (.iinc 3 1, 112) := by decide +kernel
theorem pf_29_112 : pd_fetch 29 112 = some (.goto (Int.ofNat 91), 115) := by decide +kernel
theorem pf_29_115 : pd_fetch 29 115 = some (.aload 0, 116) := by decide +kernel
theorem pf_29_116 : pd_fetch 29 116 = some (.dup, 117) := by decide +kernel
theorem pf_29_117 : pd_fetch 29 117 = some (.getfield 202, 120) := by decide +kernel
theorem pf_29_120 : pd_fetch 29 120 = some (.iconst 1, 121) := by decide +kernel
theorem pf_29_121 : pd_fetch 29 121 = some (.iadd, 122) := by decide +kernel
theorem pf_29_122 : pd_fetch 29 122 = some (.putfield 202, 125) := by decide +kernel
theorem pf_29_125 : pd_fetch 29 125 = some (.iconst 1, 126) := by decide +kernel
theorem pf_29_126 : pd_fetch 29 126 = some (.ireturn, 127) := by decide +kernel
theorem pf_30_0 : pd_fetch 30 0 = some (.iconst 0, 1) := by decide +kernel
theorem pf_30_1 : pd_fetch 30 1 = some (.istore 2, 2) := by decide +kernel
theorem pf_30_2 : pd_fetch 30 2 = some (.iload 2, 3) := by decide +kernel
theorem pf_30_3 : pd_fetch 30 3 = some (.aload 0, 4) := by decide +kernel
theorem pf_30_4 : pd_fetch 30 4 = some (.getfield 202, 7) := by decide +kernel
theorem pf_30_7 : pd_fetch 30 7 = some (.if_icmp .ge (Int.ofNat 27), 10) := by decide +kernel
theorem pf_30_10 : pd_fetch 30 10 = some (.aload 0, 11) := by decide +kernel
theorem pf_30_11 : pd_fetch 30 11 = some (.iload 2, 12) := by decide +kernel
theorem pf_30_12 : pd_fetch 30 12 = some (.aload 1, 13) := by decide +kernel
theorem pf_30_13 : pd_fetch 30 13 = some (.invokevirtual 31, 16) := by decide +kernel
theorem pf_30_16 : pd_fetch 30 16 = some (.ifCond .ne (Int.ofNat 21), 19) := by decide +kernel
theorem pf_30_19 : pd_fetch 30 19 = some (.iload 2, 20) := by decide +kernel
theorem pf_30_20 : pd_fetch 30 20 = some (.ireturn, 21) := by decide +kernel
theorem pf_30_21 : pd_fetch 30 21 = some (.iinc 2 1, 24) := by decide +kernel
theorem pf_30_24 : pd_fetch 30 24 = some (.goto (Int.ofNat 2), 27) := by decide +kernel
theorem pf_30_27 : pd_fetch 30 27 = some (.iconst (-9), 29) := by decide +kernel
theorem pf_30_29 : pd_fetch 30 29 = some (.ireturn, 30) := by decide +kernel
theorem pf_31_0 : pd_fetch 31 0 = some (.iconst 0, 1) := by decide +kernel
theorem pf_31_1 : pd_fetch 31 1 = some (.istore 3, 2) := by decide +kernel
theorem pf_31_2 : pd_fetch 31 2 = some (.iload 3, 3) := by decide +kernel
theorem pf_31_3 : pd_fetch 31 3 = some (.iconst 4, 4) := by decide +kernel
theorem pf_31_4 : pd_fetch 31 4 = some (.if_icmp .ge (Int.ofNat 43), 7) := by decide +kernel
theorem pf_31_7 : pd_fetch 31 7 = some (.aload 0, 8) := by decide +kernel
theorem pf_31_8 : pd_fetch 31 8 = some (.iload 1, 9) := by decide +kernel
theorem pf_31_9 : pd_fetch 31 9 = some (.iload 3, 10) := by decide +kernel
theorem pf_31_10 : pd_fetch 31 10 = some (.invokevirtual 28, 13) := by decide +kernel
theorem pf_31_13 : pd_fetch 31 13 = some (.istore 4, 15) := by decide +kernel
theorem pf_31_15 : pd_fetch 31 15 = some (.iload 4, 17) := by decide +kernel
theorem pf_31_17 : pd_fetch 31 17 = some (.aload 2, 18) := by decide +kernel
theorem pf_31_18 : pd_fetch 31 18 = some (.iload 3, 19) := by decide +kernel
theorem pf_31_19 : pd_fetch 31 19 = some (.iaload, 20) := by decide +kernel
theorem pf_31_20 : pd_fetch 31 20 = some (.if_icmp .eq (Int.ofNat 37), 23) := by decide +kernel
theorem pf_31_23 : pd_fetch 31 23 = some (.iload 4, 25) := by decide +kernel
theorem pf_31_25 : pd_fetch 31 25 = some (.aload 2, 26) := by decide +kernel
theorem pf_31_26 : pd_fetch 31 26 = some (.iload 3, 27) := by decide +kernel
theorem pf_31_27 : pd_fetch 31 27 = some (.iaload, 28) := by decide +kernel
theorem pf_31_28 : pd_fetch 31 28 = some (.if_icmp .ge (Int.ofNat 35), 31) := by decide +kernel
theorem pf_31_31 : pd_fetch 31 31 = some (.iconst (-1), 32) := by decide +kernel
theorem pf_31_32 : pd_fetch 31 32 = some (.goto (Int.ofNat 36), 35) := by decide +kernel
theorem pf_31_35 : pd_fetch 31 35 = some (.iconst 1, 36) := by decide +kernel
theorem pf_31_36 : pd_fetch 31 36 = some (.ireturn, 37) := by decide +kernel
theorem pf_31_37 : pd_fetch 31 37 = some (.iinc 3 1, 40) := by decide +kernel
theorem pf_31_40 : pd_fetch 31 40 = some (.goto (Int.ofNat 2), 43) := by decide +kernel
theorem pf_31_43 : pd_fetch 31 43 = some (.iconst 0, 44) := by decide +kernel
theorem pf_31_44 : pd_fetch 31 44 = some (.ireturn, 45) := by decide +kernel
theorem pf_32_0 : pd_fetch 32 0 = some (.iconst 0, 1) := by decide +kernel
theorem pf_32_1 : pd_fetch 32 1 = some (.istore 1, 2) := by decide +kernel
theorem pf_32_2 : pd_fetch 32 2 = some (.iload 1, 3) := by decide +kernel
theorem pf_32_3 : pd_fetch 32 3 = some (.iconst 4, 4) := by decide +kernel
theorem pf_32_4 : pd_fetch 32 4 = some (.if_icmp .ge (Int.ofNat 20), 7) := by decide +kernel
theorem pf_32_7 : pd_fetch 32 7 = some (.aload 0, 8) := by decide +kernel
theorem pf_32_8 : pd_fetch 32 8 = some (.getfield 204, 11) := by decide +kernel
theorem pf_32_11 : pd_fetch 32 11 = some (.iload 1, 12) := by decide +kernel
theorem pf_32_12 : pd_fetch 32 12 = some (.iconst 0, 13) := by decide +kernel
theorem pf_32_13 : pd_fetch 32 13 = some (.iastore, 14) := by decide +kernel
theorem pf_32_14 : pd_fetch 32 14 = some (.iinc 1 1, 17) := by decide +kernel
theorem pf_32_17 : pd_fetch 32 17 = some (.goto (Int.ofNat 2), 20) := by decide +kernel
theorem pf_32_20 : pd_fetch 32 20 = some (.return_, 21) := by decide +kernel
theorem pf_33_0 : pd_fetch 33 0 = some (.aload 0, 1) := by decide +kernel
theorem pf_33_1 : pd_fetch 33 1 = some (.getfield 201, 4) := by decide +kernel
theorem pf_33_4 : pd_fetch 33 4 = some (.tableswitch (Int.ofNat 93) 0 3 #[Int.ofNat 36, Int.ofNat 59, Int.ofNat 67, Int.ofNat 85], 36) := by decide +kernel
theorem pf_33_36 : pd_fetch 33 36 = some (.aload 0, 37) := by decide +kernel
theorem pf_33_37 : pd_fetch 33 37 = some (.invokevirtual 32, 40) := by decide +kernel
theorem pf_33_40 : pd_fetch 33 40 = some (.aload 0, 41) := by decide +kernel
theorem pf_33_41 : pd_fetch 33 41 = some (.aload 0, 42) := by decide +kernel
theorem pf_33_42 : pd_fetch 33 42 = some (.getfield 204, 45) := by decide +kernel
theorem pf_33_45 : pd_fetch 33 45 = some (.invokevirtual 29, 48) := by decide +kernel
theorem pf_33_48 : pd_fetch 33 48 = some (.pop, 49) := by decide +kernel
theorem pf_33_49 : pd_fetch 33 49 = some (.aload 0, 50) := by decide +kernel
theorem pf_33_50 : pd_fetch 33 50 = some (.aload 1, 51) := by decide +kernel
theorem pf_33_51 : pd_fetch 33 51 = some (.iconst 0, 52) := by decide +kernel
theorem pf_33_52 : pd_fetch 33 52 = some (.iaload, 53) := by decide +kernel
theorem pf_33_53 : pd_fetch 33 53 = some (.invokevirtual 34, 56) := by decide +kernel
theorem pf_33_56 : pd_fetch 33 56 = some (.goto (Int.ofNat 93), 59) := by decide +kernel
theorem pf_33_59 : pd_fetch 33 59 = some (.aload 0, 60) := by decide +kernel
theorem pf_33_60 : pd_fetch 33 60 = some (.aload 1, 61) := by decide +kernel
theorem pf_33_61 : pd_fetch 33 61 = some (.invokevirtual 35, 64) := by decide +kernel
theorem pf_33_64 : pd_fetch 33 64 = some (.goto (Int.ofNat 93), 67) := by decide +kernel
theorem pf_33_67 : pd_fetch 33 67 = some (.aload 0, 68) := by decide +kernel
theorem pf_33_68 : pd_fetch 33 68 = some (.aload 1, 69) := by decide +kernel
theorem pf_33_69 : pd_fetch 33 69 = some (.iconst 0, 70) := by decide +kernel
theorem pf_33_70 : pd_fetch 33 70 = some (.iaload, 71) := by decide +kernel
theorem pf_33_71 : pd_fetch 33 71 = some (.invokevirtual 34, 74) := by decide +kernel
theorem pf_33_74 : pd_fetch 33 74 = some (.aload 0, 75) := by decide +kernel
theorem pf_33_75 : pd_fetch 33 75 = some (.aload 1, 76) := by decide +kernel
theorem pf_33_76 : pd_fetch 33 76 = some (.iconst 0, 77) := by decide +kernel
theorem pf_33_77 : pd_fetch 33 77 = some (.iaload, 78) := by decide +kernel
theorem pf_33_78 : pd_fetch 33 78 = some (.ineg, 79) := by decide +kernel
theorem pf_33_79 : pd_fetch 33 79 = some (.invokevirtual 34, 82) := by decide +kernel
theorem pf_33_82 : pd_fetch 33 82 = some (.goto (Int.ofNat 93), 85) := by decide +kernel
theorem pf_33_85 : pd_fetch 33 85 = some (.aload 0, 86) := by decide +kernel
theorem pf_33_86 : pd_fetch 33 86 = some (.aload 1, 87) := by decide +kernel
theorem pf_33_87 : pd_fetch 33 87 = some (.invokevirtual 36, 90) := by decide +kernel
theorem pf_33_90 : pd_fetch 33 90 = some (.goto (Int.ofNat 93), 93) := by decide +kernel
theorem pf_33_93 : pd_fetch 33 93 = some (.return_, 94) := by decide +kernel
theorem pf_34_0 : pd_fetch 34 0 = some (.iconst 0, 1) := by decide +kernel
theorem pf_34_1 : pd_fetch 34 1 = some (.istore 2, 2) := by decide +kernel
theorem pf_34_2 : pd_fetch 34 2 = some (.iload 2, 3) := by decide +kernel
theorem pf_34_3 : pd_fetch 34 3 = some (.aload 0, 4) := by decide +kernel
theorem pf_34_4 : pd_fetch 34 4 = some (.getfield 200, 7) := by decide +kernel
theorem pf_34_7 : pd_fetch 34 7 = some (.if_icmp .ge (Int.ofNat 41), 10) := by decide +kernel
theorem pf_34_10 : pd_fetch 34 10 = some (.iload 2, 11) := by decide +kernel
theorem pf_34_11 : pd_fetch 34 11 = some (.iconst 4, 12) := by decide +kernel
theorem pf_34_12 : pd_fetch 34 12 = some (.if_icmp .ge (Int.ofNat 41), 15) := by decide +kernel
theorem pf_34_15 : pd_fetch 34 15 = some (.aload 0, 16) := by decide +kernel
theorem pf_34_16 : pd_fetch 34 16 = some (.invokevirtual 32, 19) := by decide +kernel
theorem pf_34_19 : pd_fetch 34 19 = some (.aload 0, 20) := by decide +kernel
theorem pf_34_20 : pd_fetch 34 20 = some (.getfield 204, 23) := by decide +kernel
theorem pf_34_23 : pd_fetch 34 23 = some (.iload 2, 24) := by decide +kernel
theorem pf_34_24 : pd_fetch 34 24 = some (.iload 1, 25) := by decide +kernel
theorem pf_34_25 : pd_fetch 34 25 = some (.iastore, 26) := by decide +kernel
theorem pf_34_26 : pd_fetch 34 26 = some (.aload 0, 27) := by decide +kernel
theorem pf_34_27 : pd_fetch 34 27 = some (.aload 0, 28) := by decide +kernel
theorem pf_34_28 : pd_fetch 34 28 = some (.getfield 204, 31) := by decide +kernel
theorem pf_34_31 : pd_fetch 34 31 = some (.invokevirtual 29, 34) := by decide +kernel
theorem pf_34_34 : pd_fetch 34 34 = some (.pop, 35) := by decide +kernel
theorem pf_34_35 : pd_fetch 34 35 = some (.iinc 2 1, 38) := by decide +kernel
theorem pf_34_38 : pd_fetch 34 38 = some (.goto (Int.ofNat 2), 41) := by decide +kernel
theorem pf_34_41 : pd_fetch 34 41 = some (.return_, 42) := by decide +kernel
theorem pf_35_0 : pd_fetch 35 0 = some (.iconst 0, 1) := by decide +kernel
theorem pf_35_1 : pd_fetch 35 1 = some (.istore 2, 2) := by decide +kernel
theorem pf_35_2 : pd_fetch 35 2 = some (.iload 2, 3) := by decide +kernel
theorem pf_35_3 : pd_fetch 35 3 = some (.iconst 1, 4) := by decide +kernel
theorem pf_35_4 : pd_fetch 35 4 = some (.aload 0, 5) := by decide +kernel
theorem pf_35_5 : pd_fetch 35 5 = some (.getfield 200, 8) := by decide +kernel
theorem pf_35_8 : pd_fetch 35 8 = some (.ishl, 9) := by decide +kernel
theorem pf_35_9 : pd_fetch 35 9 = some (.if_icmp .ge (Int.ofNat 67), 12) := by decide +kernel
theorem pf_35_12 : pd_fetch 35 12 = some (.aload 0, 13) := by decide +kernel
theorem pf_35_13 : pd_fetch 35 13 = some (.invokevirtual 32, 16) := by decide +kernel
theorem pf_35_16 : pd_fetch 35 16 = some (.iconst 0, 17) := by decide +kernel
theorem pf_35_17 : pd_fetch 35 17 = some (.istore 3, 18) := by decide +kernel
theorem pf_35_18 : pd_fetch 35 18 = some (.iload 3, 19) := by decide +kernel
theorem pf_35_19 : pd_fetch 35 19 = some (.aload 0, 20) := by decide +kernel
theorem pf_35_20 : pd_fetch 35 20 = some (.getfield 200, 23) := by decide +kernel
theorem pf_35_23 : pd_fetch 35 23 = some (.if_icmp .ge (Int.ofNat 52), 26) := by decide +kernel
theorem pf_35_26 : pd_fetch 35 26 = some (.iload 3, 27) := by decide +kernel
theorem pf_35_27 : pd_fetch 35 27 = some (.iconst 4, 28) := by decide +kernel
theorem pf_35_28 : pd_fetch 35 28 = some (.if_icmp .ge (Int.ofNat 52), 31) := by decide +kernel
theorem pf_35_31 : pd_fetch 35 31 = some (.aload 0, 32) := by decide +kernel
theorem pf_35_32 : pd_fetch 35 32 = some (.getfield 204, 35) := by decide +kernel
theorem pf_35_35 : pd_fetch 35 35 = some (.iload 3, 36) := by decide +kernel
theorem pf_35_36 : pd_fetch 35 36 = some (.iload 2, 37) := by decide +kernel
theorem pf_35_37 : pd_fetch 35 37 = some (.iload 3, 38) := by decide +kernel
theorem pf_35_38 : pd_fetch 35 38 = some (.ishr, 39) := by decide +kernel
theorem pf_35_39 : pd_fetch 35 39 = some (.iconst 1, 40) := by decide +kernel
theorem pf_35_40 : pd_fetch 35 40 = some (.iand, 41) := by decide +kernel
theorem pf_35_41 : pd_fetch 35 41 = some (.aload 1, 42) := by decide +kernel
theorem pf_35_42 : pd_fetch 35 42 = some (.iload 3, 43) := by decide +kernel
theorem pf_35_43 : pd_fetch 35 43 = some (.iaload, 44) := by decide +kernel
theorem pf_35_44 : pd_fetch 35 44 = some (.imul, 45) := by decide +kernel
theorem pf_35_45 : pd_fetch 35 45 = some (.iastore, 46) := by decide +kernel
theorem pf_35_46 : pd_fetch 35 46 = some (.iinc 3 1, 49) := by decide +kernel
theorem pf_35_49 : pd_fetch 35 49 = some (.goto (Int.ofNat 18), 52) := by decide +kernel
theorem pf_35_52 : pd_fetch 35 52 = some (.aload 0, 53) := by decide +kernel
theorem pf_35_53 : pd_fetch 35 53 = some (.aload 0, 54) := by decide +kernel
theorem pf_35_54 : pd_fetch 35 54 = some (.getfield 204, 57) := by decide +kernel
theorem pf_35_57 : pd_fetch 35 57 = some (.invokevirtual 29, 60) := by decide +kernel
theorem pf_35_60 : pd_fetch 35 60 = some (.pop, 61) := by decide +kernel
theorem pf_35_61 : pd_fetch 35 61 = some (.iinc 2 1, 64) := by decide +kernel
theorem pf_35_64 : pd_fetch 35 64 = some (.goto (Int.ofNat 2), 67) := by decide +kernel
theorem pf_35_67 : pd_fetch 35 67 = some (.return_, 68) := by decide +kernel
theorem pf_36_0 : pd_fetch 36 0 = some (.iconst 1, 1) := by decide +kernel
theorem pf_36_1 : pd_fetch 36 1 = some (.istore 2, 2) := by decide +kernel
theorem pf_36_2 : pd_fetch 36 2 = some (.iconst 2, 3) := by decide +kernel
theorem pf_36_3 : pd_fetch 36 3 = some (.istore 3, 4) := by decide +kernel
theorem pf_36_4 : pd_fetch 36 4 = some (.iload 3, 5) := by decide +kernel
theorem pf_36_5 : pd_fetch 36 5 = some (.aload 0, 6) := by decide +kernel
theorem pf_36_6 : pd_fetch 36 6 = some (.getfield 200, 9) := by decide +kernel
theorem pf_36_9 : pd_fetch 36 9 = some (.if_icmp .gt (Int.ofNat 22), 12) := by decide +kernel
theorem pf_36_12 : pd_fetch 36 12 = some (.iload 2, 13) := by decide +kernel
theorem pf_36_13 : pd_fetch 36 13 = some (.iload 3, 14) := by decide +kernel
theorem pf_36_14 : pd_fetch 36 14 = some (.imul, 15) := by decide +kernel
theorem pf_36_15 : pd_fetch 36 15 = some (.istore 2, 16) := by decide +kernel
theorem pf_36_16 : pd_fetch 36 16 = some (.iinc 3 1, 19) := by decide +kernel
theorem pf_36_19 : pd_fetch 36 19 = some (.goto (Int.ofNat 4), 22) := by decide +kernel
theorem pf_36_22 : pd_fetch 36 22 = some (.iconst 0, 23) := by decide +kernel
theorem pf_36_23 : pd_fetch 36 23 = some (.istore 3, 24) := by decide +kernel
theorem pf_36_24 : pd_fetch 36 24 = some (.iload 3, 25) := by decide +kernel
theorem pf_36_25 : pd_fetch 36 25 = some (.iload 2, 26) := by decide +kernel
theorem pf_36_26 : pd_fetch 36 26 = some (.if_icmp .ge (Int.ofNat 50), 29) := by decide +kernel
theorem pf_36_29 : pd_fetch 36 29 = some (.aload 0, 30) := by decide +kernel
theorem pf_36_30 : pd_fetch 36 30 = some (.aload 1, 31) := by decide +kernel
theorem pf_36_31 : pd_fetch 36 31 = some (.iload 3, 32) := by decide +kernel
theorem pf_36_32 : pd_fetch 36 32 = some (.invokevirtual 37, 35) := by decide +kernel
theorem pf_36_35 : pd_fetch 36 35 = some (.aload 0, 36) := by decide +kernel
theorem pf_36_36 : pd_fetch 36 36 = some (.aload 0, 37) := by decide +kernel
theorem pf_36_37 : pd_fetch 36 37 = some (.getfield 204, 40) := by decide +kernel
theorem pf_36_40 : pd_fetch 36 40 = some (.invokevirtual 29, 43) := by decide +kernel
theorem pf_36_43 : pd_fetch 36 43 = some (.pop, 44) := by decide +kernel
theorem pf_36_44 : pd_fetch 36 44 = some (.iinc 3 1, 47) := by decide +kernel
theorem pf_36_47 : pd_fetch 36 47 = some (.goto (Int.ofNat 24), 50) := by decide +kernel
theorem pf_36_50 : pd_fetch 36 50 = some (.return_, 51) := by decide +kernel
theorem pf_37_0 : pd_fetch 37 0 = some (.aload 0, 1) := by decide +kernel
theorem pf_37_1 : pd_fetch 37 1 = some (.invokevirtual 32, 4) := by decide +kernel
theorem pf_37_4 : pd_fetch 37 4 = some (.aload 1, 5) := by decide +kernel
theorem pf_37_5 : pd_fetch 37 5 = some (.iconst 0, 6) := by decide +kernel
theorem pf_37_6 : pd_fetch 37 6 = some (.aload 0, 7) := by decide +kernel
theorem pf_37_7 : pd_fetch 37 7 = some (.getfield 205, 10) := by decide +kernel
theorem pf_37_10 : pd_fetch 37 10 = some (.iconst 0, 11) := by decide +kernel
theorem pf_37_11 : pd_fetch 37 11 = some (.iconst 4, 12) := by decide +kernel
theorem pf_37_12 : pd_fetch 37 12 = some (.invokestatic 1004, 15) := by decide +kernel
theorem pf_37_15 : pd_fetch 37 15 = some (.iload 2, 16) := by decide +kernel
theorem pf_37_16 : pd_fetch 37 16 = some (.istore 3, 17) := by decide +kernel
theorem pf_37_17 : pd_fetch 37 17 = some (.iconst 0, 18) := by decide +kernel
theorem pf_37_18 : pd_fetch 37 18 = some (.istore 4, 20) := by decide +kernel
theorem pf_37_20 : pd_fetch 37 20 = some (.iload 4, 22) := by decide +kernel
theorem pf_37_22 : pd_fetch 37 22 = some (.aload 0, 23) := by decide +kernel
theorem pf_37_23 : pd_fetch 37 23 = some (.getfield 200, 26) := by decide +kernel
theorem pf_37_26 : pd_fetch 37 26 = some (.if_icmp .ge (Int.ofNat 91), 29) := by decide +kernel
theorem pf_37_29 : pd_fetch 37 29 = some (.iload 4, 31) := by decide +kernel
theorem pf_37_31 : pd_fetch 37 31 = some (.iconst 4, 32) := by decide +kernel
theorem pf_37_32 : pd_fetch 37 32 = some (.if_icmp .ge (Int.ofNat 91), 35) := by decide +kernel
theorem pf_37_35 : pd_fetch 37 35 = some (.aload 0, 36) := by decide +kernel
theorem pf_37_36 : pd_fetch 37 36 = some (.getfield 200, 39) := by decide +kernel
theorem pf_37_39 : pd_fetch 37 39 = some (.iload 4, 41) := by decide +kernel
theorem pf_37_41 : pd_fetch 37 41 = some (.isub, 42) := by decide +kernel
theorem pf_37_42 : pd_fetch 37 42 = some (.istore 5, 44) := by decide +kernel
theorem pf_37_44 : pd_fetch 37 44 = some (.iload 3, 45) := by decide +kernel
theorem pf_37_45 : pd_fetch 37 45 = some (.iload 5, 47) := by decide +kernel
theorem pf_37_47 : pd_fetch 37 47 = some (.irem, 48) := by decide +kernel
theorem pf_37_48 : pd_fetch 37 48 = some (.istore 6, 50) := by decide +kernel
theorem pf_37_50 : pd_fetch 37 50 = some (.iload 3, 51) := by decide +kernel
theorem pf_37_51 : pd_fetch 37 51 = some (.iload 5, 53) := by decide +kernel
theorem pf_37_53 : pd_fetch 37 53 = some (.idiv, 54) := by decide +kernel
theorem pf_37_54 : pd_fetch 37 54 = some (.istore 3, 55) := by decide +kernel
theorem pf_37_55 : pd_fetch 37 55 = some (.aload 0, 56) := by decide +kernel
theorem pf_37_56 : pd_fetch 37 56 = some (.getfield 204, 59) := by decide +kernel
theorem pf_37_59 : pd_fetch 37 59 = some (.iload 4, 61) := by decide +kernel
theorem pf_37_61 : pd_fetch 37 61 = some (.aload 0, 62) := by decide +kernel
theorem pf_37_62 : pd_fetch 37 62 = some (.getfield 205, 65) := by decide +kernel
theorem pf_37_65 : pd_fetch 37 65 = some (.iload 6, 67) := by decide +kernel
theorem pf_37_67 : pd_fetch 37 67 = some (.iaload, 68) := by decide +kernel
theorem pf_37_68 : pd_fetch 37 68 = some (.iastore, 69) := by decide +kernel
theorem pf_37_69 : pd_fetch 37 69 = some (.aload 0, 70) := by decide +kernel
theorem pf_37_70 : pd_fetch 37 70 = some (.getfield 205, 73) := by decide +kernel
theorem pf_37_73 : pd_fetch 37 73 = some (.iload 6, 75) := by decide +kernel
theorem pf_37_75 : pd_fetch 37 75 = some (.aload 0, 76) := by decide +kernel
theorem pf_37_76 : pd_fetch 37 76 = some (.getfield 205, 79) := by decide +kernel
theorem pf_37_79 : pd_fetch 37 79 = some (.iload 5, 81) := by decide +kernel
theorem pf_37_81 : pd_fetch 37 81 = some (.iconst 1, 82) := by decide +kernel
theorem pf_37_82 : pd_fetch 37 82 = some (.isub, 83) := by decide +kernel
theorem pf_37_83 : pd_fetch 37 83 = some (.iaload, 84) := by decide +kernel
theorem pf_37_84 : pd_fetch 37 84 = some (.iastore, 85) := by decide +kernel
theorem pf_37_85 : pd_fetch 37 85 = some (.iinc 4 1, 88) := by decide +kernel
theorem pf_37_88 : pd_fetch 37 88 = some (.goto (Int.ofNat 20), 91) := by decide +kernel
theorem pf_37_91 : pd_fetch 37 91 = some (.return_, 92) := by decide +kernel
theorem pf_38_0 : pd_fetch 38 0 = some (.jsr (0), 1) := by decide +kernel
theorem pf_38_1 : pd_fetch 38 1 = some (.lstore 3, 2) := by decide +kernel
theorem pf_38_2 : pd_fetch 38 2 = some (.iconst 0, 3) := by decide +kernel
theorem pf_38_3 : pd_fetch 38 3 = some (.istore 5, 5) := by decide +kernel
theorem pf_38_5 : pd_fetch 38 5 = some (.iload 5, 7) := by decide +kernel
theorem pf_38_7 : pd_fetch 38 7 = some (.iconst 4, 8) := by decide +kernel
theorem pf_38_8 : pd_fetch 38 8 = some (.if_icmp .ge (Int.ofNat 33), 11) := by decide +kernel
theorem pf_38_11 : pd_fetch 38 11 = some (.lload 3, 12) := by decide +kernel
theorem pf_38_12 : pd_fetch 38 12 = some (.aload 0, 13) := by decide +kernel
theorem pf_38_13 : pd_fetch 38 13 = some (.iload 1, 14) := by decide +kernel
theorem pf_38_14 : pd_fetch 38 14 = some (.iload 5, 16) := by decide +kernel
theorem pf_38_16 : pd_fetch 38 16 = some (.invokevirtual 28, 19) := by decide +kernel
theorem pf_38_19 : pd_fetch 38 19 = some (.i2l, 20) := by decide +kernel
theorem pf_38_20 : pd_fetch 38 20 = some (.aload 2, 21) := by decide +kernel
theorem pf_38_21 : pd_fetch 38 21 = some (.iload 5, 23) := by decide +kernel
theorem pf_38_23 : pd_fetch 38 23 = some (.laload, 24) := by decide +kernel
theorem pf_38_24 : pd_fetch 38 24 = some (.lmul, 25) := by decide +kernel
theorem pf_38_25 : pd_fetch 38 25 = some (.ladd, 26) := by decide +kernel
theorem pf_38_26 : pd_fetch 38 26 = some (.lstore 3, 27) := by decide +kernel
theorem pf_38_27 : pd_fetch 38 27 = some (.iinc 5 1, 30) := by decide +kernel
theorem pf_38_30 : pd_fetch 38 30 = some (.goto (Int.ofNat 5), 33) := by decide +kernel
theorem pf_38_33 : pd_fetch 38 33 = some (.lload 3, 34) := by decide +kernel
theorem pf_38_34 : pd_fetch 38 34 = some (.lreturn, 35) := by decide +kernel
theorem pf_39_0 : pd_fetch 39 0 = some (.iconst 0, 1) := by decide +kernel
theorem pf_39_1 : pd_fetch 39 1 = some (.istore 2, 2) := by decide +kernel
theorem pf_39_2 : pd_fetch 39 2 = some (.aload 0, 3) := by decide +kernel
theorem pf_39_3 : pd_fetch 39 3 = some (.iconst 0, 4) := by decide +kernel
theorem pf_39_4 : pd_fetch 39 4 = some (.aload 1, 5) := by decide +kernel
theorem pf_39_5 : pd_fetch 39 5 = some (.invokevirtual 38, 8) := by decide +kernel
theorem pf_39_8 : pd_fetch 39 8 = some (.lstore 3, 9) := by decide +kernel
theorem pf_39_9 : pd_fetch 39 9 = some (.iconst 1, 10) := by decide +kernel
theorem pf_39_10 : pd_fetch 39 10 = some (.istore 5, 12) := by decide +kernel
theorem pf_39_12 : pd_fetch 39 12 = some (.iload 5, 14) := by decide +kernel
theorem pf_39_14 : pd_fetch 39 14 = some (.aload 0, 15) := by decide +kernel
theorem pf_39_15 : pd_fetch 39 15 = some (.getfield 202, 18) := by decide +kernel
theorem pf_39_18 : pd_fetch 39 18 = some (.if_icmp .ge (Int.ofNat 49), 21) := by decide +kernel
theorem pf_39_21 : pd_fetch 39 21 = some (.aload 0, 22) := by decide +kernel
theorem pf_39_22 : pd_fetch 39 22 = some (.iload 5, 24) := by decide +kernel
theorem pf_39_24 : pd_fetch 39 24 = some (.aload 1, 25) := by decide +kernel
theorem pf_39_25 : pd_fetch 39 25 = some (.invokevirtual 38, 28) := by decide +kernel
theorem pf_39_28 : pd_fetch 39 28 = some (.lstore 6, 30) := by decide +kernel
theorem pf_39_30 : pd_fetch 39 30 = some (.lload 6, 32) := by decide +kernel
theorem pf_39_32 : pd_fetch 39 32 = some (.lload 3, 33) := by decide +kernel
theorem pf_39_33 : pd_fetch 39 33 = some (.lcmp, 34) := by decide +kernel
theorem pf_39_34 : pd_fetch 39 34 = some (.ifCond .ge (Int.ofNat 43), 37) := by decide +kernel
theorem pf_39_37 : pd_fetch 39 37 = some (.lload 6, 39) := by decide +kernel
theorem pf_39_39 : pd_fetch 39 39 = some (.lstore 3, 40) := by decide +kernel
theorem pf_39_40 : pd_fetch 39 40 = some (.iload 5, 42) := by decide +kernel
theorem pf_39_42 : pd_fetch 39 42 = some (.istore 2, 43) := by decide +kernel
theorem pf_39_43 : pd_fetch 39 43 = some (.iinc 5 1, 46) := by decide +kernel
theorem pf_39_46 : pd_fetch 39 46 = some (.goto (Int.ofNat 12), 49) := by decide +kernel
theorem pf_39_49 : pd_fetch 39 49 = some (.iload 2, 50) := by decide +kernel
theorem pf_39_50 : pd_fetch 39 50 = some (.ireturn, 51) := by decide +kernel
