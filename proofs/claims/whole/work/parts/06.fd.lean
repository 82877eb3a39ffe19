theorem pf_106_0 : pd_fetch 106 0 = some (.aload 0, 1) := by decide +kernel
theorem pf_106_1 : pd_fetch 106 1 = some (.invokespecial 1000, 4) := by decide +kernel
theorem pf_106_4 : pd_fetch 106 4 = some (.aload 0, 5) := by decide +kernel
theorem pf_106_5 : pd_fetch 106 5 = some (.iconst 90, 7) := by decide +kernel
theorem pf_106_7 : pd_fetch 106 7 = some (.newarray .int, 9) := by decide +kernel
theorem pf_106_9 : pd_fetch 106 9 = some (.putfield 601, 12) := by decide +kernel
theorem pf_106_12 : pd_fetch 106 12 = some (.aload 0, 13) := by decide +kernel
theorem pf_106_13 : pd_fetch 106 13 = some (.iconst 1, 14) := by decide +kernel
theorem pf_106_14 : pd_fetch 106 14 = some (.putfield 604, 17) := by decide +kernel
theorem pf_106_17 : pd_fetch 106 17 = some (.aload 0, 18) := by decide +kernel
theorem pf_106_18 : pd_fetch 106 18 = some (.iconst 2, 19) := by decide +kernel
theorem pf_106_19 : pd_fetch 106 19 = some (.putfield 606, 22) := by decide +kernel
theorem pf_106_22 : pd_fetch 106 22 = some (.aload 0, 23) := by decide +kernel
theorem pf_106_23 : pd_fetch 106 23 = some (.iconst 1, 24) := by decide +kernel
theorem pf_106_24 : pd_fetch 106 24 = some (.putfield 607, 27) := by decide +kernel
theorem pf_106_27 : pd_fetch 106 27 = some (.aload 0, 28) := by decide +kernel
theorem pf_106_28 : pd_fetch 106 28 = some (.iconst 128, 31) := by decide +kernel
theorem pf_106_31 : pd_fetch 106 31 = some (.newarray .int, 33) := by decide +kernel
theorem pf_106_33 : pd_fetch 106 33 = some (.putfield 608, 36) := by decide +kernel
theorem pf_106_36 : pd_fetch 106 36 = some (.aload 0, 37) := by decide +kernel
theorem pf_106_37 : pd_fetch 106 37 = some (.iconst 128, 40) := by decide +kernel
theorem pf_106_40 : pd_fetch 106 40 = some (.newarray .int, 42) := by decide +kernel
theorem pf_106_42 : pd_fetch 106 42 = some (.putfield 613, 45) := by decide +kernel
theorem pf_106_45 : pd_fetch 106 45 = some (.aload 0, 46) := by decide +kernel
theorem pf_106_46 : pd_fetch 106 46 = some (.iconst 72, 48) := by decide +kernel
theorem pf_106_48 : pd_fetch 106 48 = some (.newarray .int, 50) := by decide +kernel
theorem pf_106_50 : pd_fetch 106 50 = some (.putfield 614, 53) := by decide +kernel
theorem pf_106_53 : pd_fetch 106 53 = some (.aload 0, 54) := by decide +kernel
theorem pf_106_54 : pd_fetch 106 54 = some (.iconst 72, 56) := by decide +kernel
theorem pf_106_56 : pd_fetch 106 56 = some (.newarray .int, 58) := by decide +kernel
theorem pf_106_58 : pd_fetch 106 58 = some (.putfield 615, 61) := by decide +kernel
theorem pf_106_61 : pd_fetch 106 61 = some (.aload 0, 62) := by decide +kernel
theorem pf_106_62 : pd_fetch 106 62 = some (.iconst 72, 64) := by decide +kernel
theorem pf_106_64 : pd_fetch 106 64 = some (.newarray .int, 66) := by decide +kernel
theorem pf_106_66 : pd_fetch 106 66 = some (.putfield 616, 69) := by decide +kernel
theorem pf_106_69 : pd_fetch 106 69 = some (.aload 0, 70) := by decide +kernel
theorem pf_106_70 : pd_fetch 106 70 = some (.iconst 1008, 73) := by decide +kernel
theorem pf_106_73 : pd_fetch 106 73 = some (.newarray .int, 75) := by decide +kernel
theorem pf_106_75 : pd_fetch 106 75 = some (.putfield 617, 78) := by decide +kernel
theorem pf_106_78 : pd_fetch 106 78 = some (.aload 0, 79) := by decide +kernel
theorem pf_106_79 : pd_fetch 106 79 = some (.iconst 144, 82) := by decide +kernel
theorem pf_106_82 : pd_fetch 106 82 = some (.newarray .int, 84) := by decide +kernel
theorem pf_106_84 : pd_fetch 106 84 = some (.putfield 619, 87) := by decide +kernel
theorem pf_106_87 : pd_fetch 106 87 = some (.aload 0, 88) := by decide +kernel
theorem pf_106_88 : pd_fetch 106 88 = some (.iconst 2, 89) := by decide +kernel
theorem pf_106_89 : pd_fetch 106 89 = some (.newarray .boolean, 91) := by decide +kernel
theorem pf_106_91 : pd_fetch 106 91 = some (.putfield 620, 94) := by decide +kernel
theorem pf_106_94 : pd_fetch 106 94 = some (.aload 0, 95) := by decide +kernel
theorem pf_106_95 : pd_fetch 106 95 = some (.iconst 24, 97) := by decide +kernel
theorem pf_106_97 : pd_fetch 106 97 = some (.newarray .int, 99) := by decide +kernel
theorem pf_106_99 : pd_fetch 106 99 = some (.putfield 621, 102) := by decide +kernel
theorem pf_106_102 : pd_fetch 106 102 = some (.aload 0, 103) := by decide +kernel
theorem pf_106_103 : pd_fetch 106 103 = some (.iconst 4, 104) := by decide +kernel
theorem pf_106_104 : pd_fetch 106 104 = some (.newarray .long, 106) := by decide +kernel
theorem pf_106_106 : pd_fetch 106 106 = some (.putfield 622, 109) := by decide +kernel
theorem pf_106_109 : pd_fetch 106 109 = some (.aload 0, 110) := by decide +kernel
theorem pf_106_110 : pd_fetch 106 110 = some (.iconst 4, 111) := by decide +kernel
theorem pf_106_111 : pd_fetch 106 111 = some (.newarray .long, 113) := by decide +kernel
theorem pf_106_113 : pd_fetch 106 113 = some (.putfield 623, 116) := by decide +kernel
theorem pf_106_116 : pd_fetch 106 116 = some (.aload 0, 117) := by decide +kernel
theorem pf_106_117 : pd_fetch 106 117 = some (.iconst 4, 118) := by decide +kernel
theorem pf_106_118 : pd_fetch 106 118 = some (.newarray .int, 120) := by decide +kernel
theorem pf_106_120 : pd_fetch 106 120 = some (.putfield 624, 123) := by decide +kernel
theorem pf_106_123 : pd_fetch 106 123 = some (.aload 0, 124) := by decide +kernel
theorem pf_106_124 : pd_fetch 106 124 = some (.getfield 608, 127) := by decide +kernel
theorem pf_106_127 : pd_fetch 106 127 = some (.iconst 4, 128) := by decide +kernel
theorem pf_106_128 : pd_fetch 106 128 = some (.iconst 1, 129) := by decide +kernel
theorem pf_106_129 : pd_fetch 106 129 = some (.iastore, 130) := by decide +kernel
theorem pf_106_130 : pd_fetch 106 130 = some (.aload 0, 131) := by decide +kernel
theorem pf_106_131 : pd_fetch 106 131 = some (.getfield 615, 134) := by decide +kernel
theorem pf_106_134 : pd_fetch 106 134 = some (.iconst 0, 135) := by decide +kernel
theorem pf_106_135 : pd_fetch 106 135 = some (.iconst 1, 136) := by decide +kernel
theorem pf_106_136 : pd_fetch 106 136 = some (.iastore, 137) := by decide +kernel
theorem pf_106_137 : pd_fetch 106 137 = some (.aload 0, 138) := by decide +kernel
theorem pf_106_138 : pd_fetch 106 138 = some (.getfield 615, 141) := by decide +kernel
theorem pf_106_141 : pd_fetch 106 141 = some (.iconst 44, 143) := by decide +kernel
theorem pf_106_143 : pd_fetch 106 143 = some (.iconst 100, 145) := by decide +kernel
theorem pf_106_145 : pd_fetch 106 145 = some (.iastore, 146) := by decide +kernel
theorem pf_106_146 : pd_fetch 106 146 = some (.aload 0, 147) := by decide +kernel
theorem pf_106_147 : pd_fetch 106 147 = some (.getfield 615, 150) := by decide +kernel
theorem pf_106_150 : pd_fetch 106 150 = some (.iconst 68, 152) := by decide +kernel
theorem pf_106_152 : pd_fetch 106 152 = some (.iconst 1, 153) := by decide +kernel
theorem pf_106_153 : pd_fetch 106 153 = some (.iastore, 154) := by decide +kernel
theorem pf_106_154 : pd_fetch 106 154 = some (.return_, 155) := by decide +kernel
theorem pf_108_0 : pd_fetch 108 0 = some (.aload 0, 1) := by decide +kernel
theorem pf_108_1 : pd_fetch 108 1 = some (.iload 1, 2) := by decide +kernel
theorem pf_108_2 : pd_fetch 108 2 = some (.putfield 600, 5) := by decide +kernel
theorem pf_108_5 : pd_fetch 108 5 = some (.iload 1, 6) := by decide +kernel
theorem pf_108_6 : pd_fetch 108 6 = some (.ifCond .le (Int.ofNat 13), 9) := by decide +kernel
theorem pf_108_9 : pd_fetch 108 9 = some (.iconst 1, 10) := by decide +kernel
theorem pf_108_10 : pd_fetch 108 10 = some (.goto (Int.ofNat 14), 13) := by decide +kernel
theorem pf_108_13 : pd_fetch 108 13 = some (.iconst 0, 14) := by decide +kernel
theorem pf_108_14 : pd_fetch 108 14 = some (.ireturn, 15) := by decide +kernel
theorem pf_110_0 : pd_fetch 110 0 = some (.iconst 0, 1) := by decide +kernel
theorem pf_110_1 : pd_fetch 110 1 = some (.istore 4, 3) := by decide +kernel
theorem pf_110_3 : pd_fetch 110 3 = some (.iload 4, 5) := by decide +kernel
theorem pf_110_5 : pd_fetch 110 5 = some (.iconst 72, 7) := by decide +kernel
theorem pf_110_7 : pd_fetch 110 7 = some (.if_icmp .ge (Int.ofNat 28), 10) := by decide +kernel
theorem pf_110_10 : pd_fetch 110 10 = some (.aload 2, 11) := by decide +kernel
theorem pf_110_11 : pd_fetch 110 11 = some (.iload 3, 12) := by decide +kernel
theorem pf_110_12 : pd_fetch 110 12 = some (.iload 4, 14) := by decide +kernel
theorem pf_110_14 : pd_fetch 110 14 = some (.iadd, 15) := by decide +kernel
theorem pf_110_15 : pd_fetch 110 15 = some (.aload 0, 16) := by decide +kernel
theorem pf_110_16 : pd_fetch 110 16 = some (.iload 1, 17) := by decide +kernel
theorem pf_110_17 : pd_fetch 110 17 = some (.iload 4, 19) := by decide +kernel
theorem pf_110_19 : pd_fetch 110 19 = some (.iadd, 20) := by decide +kernel
theorem pf_110_20 : pd_fetch 110 20 = some (.iaload, 21) := by decide +kernel
theorem pf_110_21 : pd_fetch 110 21 = some (.iastore, 22) := by decide +kernel
theorem pf_110_22 : pd_fetch 110 22 = some (.iinc 4 1, 25) := by decide +kernel
theorem pf_110_25 : pd_fetch 110 25 = some (.goto (Int.ofNat 3), 28) := by decide +kernel
theorem pf_110_28 : pd_fetch 110 28 = some (.return_, 29) := by decide +kernel
theorem pf_112_0 : pd_fetch 112 0 = some (.iconst 0, 1) := by decide +kernel
theorem pf_112_1 : pd_fetch 112 1 = some (.istore 3, 2) := by decide +kernel
theorem pf_112_2 : pd_fetch 112 2 = some (.iconst 0, 3) := by decide +kernel
theorem pf_112_3 : pd_fetch 112 3 = some (.istore 4, 5) := by decide +kernel
theorem pf_112_5 : pd_fetch 112 5 = some (.iload 4, 7) := by decide +kernel
theorem pf_112_7 : pd_fetch 112 7 = some (.aload 1, 8) := by decide +kernel
theorem pf_112_8 : pd_fetch 112 8 = some (.iconst 68, 10) := by decide +kernel
theorem pf_112_10 : pd_fetch 112 10 = some (.iaload, 11) := by decide +kernel
theorem pf_112_11 : pd_fetch 112 11 = some (.if_icmp .ge (Int.ofNat 47), 14) := by decide +kernel
theorem pf_112_14 : pd_fetch 112 14 = some (.iload 3, 15) := by decide +kernel
theorem pf_112_15 : pd_fetch 112 15 = some (.aload 1, 16) := by decide +kernel
theorem pf_112_16 : pd_fetch 112 16 = some (.iconst 44, 18) := by decide +kernel
theorem pf_112_18 : pd_fetch 112 18 = some (.iload 4, 20) := by decide +kernel
theorem pf_112_20 : pd_fetch 112 20 = some (.iadd, 21) := by decide +kernel
theorem pf_112_21 : pd_fetch 112 21 = some (.iaload, 22) := by decide +kernel
theorem pf_112_22 : pd_fetch 112 22 = some (.aload 0, 23) := by decide +kernel
theorem pf_112_23 : pd_fetch 112 23 = some (.getfield 608, 26) := by decide +kernel
theorem pf_112_26 : pd_fetch 112 26 = some (.iconst 4, 27) := by decide +kernel
theorem pf_112_27 : pd_fetch 112 27 = some (.aload 1, 28) := by decide +kernel
theorem pf_112_28 : pd_fetch 112 28 = some (.iconst 20, 30) := by decide +kernel
theorem pf_112_30 : pd_fetch 112 30 = some (.iload 4, 32) := by decide +kernel
theorem pf_112_32 : pd_fetch 112 32 = some (.iadd, 33) := by decide +kernel
theorem pf_112_33 : pd_fetch 112 33 = some (.iaload, 34) := by decide +kernel
theorem pf_112_34 : pd_fetch 112 34 = some (.imul, 35) := by decide +kernel
theorem pf_112_35 : pd_fetch 112 35 = some (.iload 2, 36) := by decide +kernel
theorem pf_112_36 : pd_fetch 112 36 = some (.iadd, 37) := by decide +kernel
theorem pf_112_37 : pd_fetch 112 37 = some (.iaload, 38) := by decide +kernel
theorem pf_112_38 : pd_fetch 112 38 = some (.imul, 39) := by decide +kernel
theorem pf_112_39 : pd_fetch 112 39 = some (.iadd, 40) := by decide +kernel
theorem pf_112_40 : pd_fetch 112 40 = some (.istore 3, 41) := by decide +kernel
theorem pf_112_41 : pd_fetch 112 41 = some (.iinc 4 1, 44) := by decide +kernel
theorem pf_112_44 : pd_fetch 112 44 = some (.goto (Int.ofNat 5), 47) := by decide +kernel
theorem pf_112_47 : pd_fetch 112 47 = some (.iload 3, 48) := by decide +kernel
theorem pf_112_48 : pd_fetch 112 48 = some (.ireturn, 49) := by decide +kernel
theorem pf_114_0 : pd_fetch 114 0 = some (.aload 1, 1) := by decide +kernel
theorem pf_114_1 : pd_fetch 114 1 = some (.iconst 5, 2) := by decide +kernel
theorem pf_114_2 : pd_fetch 114 2 = some (.iload 2, 3) := by decide +kernel
theorem pf_114_3 : pd_fetch 114 3 = some (.imul, 4) := by decide +kernel
theorem pf_114_4 : pd_fetch 114 4 = some (.iconst 4, 5) := by decide +kernel
theorem pf_114_5 : pd_fetch 114 5 = some (.iadd, 6) := by decide +kernel
theorem pf_114_6 : pd_fetch 114 6 = some (.iaload, 7) := by decide +kernel
theorem pf_114_7 : pd_fetch 114 7 = some (.ineg, 8) := by decide +kernel
theorem pf_114_8 : pd_fetch 114 8 = some (.istore 4, 10) := by decide +kernel
theorem pf_114_10 : pd_fetch 114 10 = some (.iconst 0, 11) := by decide +kernel
theorem pf_114_11 : pd_fetch 114 11 = some (.istore 5, 13) := by decide +kernel
theorem pf_114_13 : pd_fetch 114 13 = some (.iload 5, 15) := by decide +kernel
theorem pf_114_15 : pd_fetch 114 15 = some (.aload 0, 16) := by decide +kernel
theorem pf_114_16 : pd_fetch 114 16 = some (.getfield 604, 19) := by decide +kernel
theorem pf_114_19 : pd_fetch 114 19 = some (.if_icmp .ge (Int.ofNat 53), 22) := by decide +kernel
theorem pf_114_22 : pd_fetch 114 22 = some (.iload 4, 24) := by decide +kernel
theorem pf_114_24 : pd_fetch 114 24 = some (.aload 1, 25) := by decide +kernel
theorem pf_114_25 : pd_fetch 114 25 = some (.iconst 5, 26) := by decide +kernel
theorem pf_114_26 : pd_fetch 114 26 = some (.iload 2, 27) := by decide +kernel
theorem pf_114_27 : pd_fetch 114 27 = some (.imul, 28) := by decide +kernel
theorem pf_114_28 : pd_fetch 114 28 = some (.iload 5, 30) := by decide +kernel
theorem pf_114_30 : pd_fetch 114 30 = some (.iadd, 31) := by decide +kernel
theorem pf_114_31 : pd_fetch 114 31 = some (.iaload, 32) := by decide +kernel
theorem pf_114_32 : pd_fetch 114 32 = some (.aload 0, 33) := by decide +kernel
theorem pf_114_33 : pd_fetch 114 33 = some (.getfield 608, 36) := by decide +kernel
theorem pf_114_36 : pd_fetch 114 36 = some (.iconst 4, 37) := by decide +kernel
theorem pf_114_37 : pd_fetch 114 37 = some (.iload 3, 38) := by decide +kernel
theorem pf_114_38 : pd_fetch 114 38 = some (.imul, 39) := by decide +kernel
theorem pf_114_39 : pd_fetch 114 39 = some (.iload 5, 41) := by decide +kernel
theorem pf_114_41 : pd_fetch 114 41 = some (.iadd, 42) := by decide +kernel
theorem pf_114_42 : pd_fetch 114 42 = some (.iaload, 43) := by decide +kernel
theorem pf_114_43 : pd_fetch 114 43 = some (.imul, 44) := by decide +kernel
theorem pf_114_44 : pd_fetch 114 44 = some (.iadd, 45) := by decide +kernel
theorem pf_114_45 : pd_fetch 114 45 = some (.istore 4, 47) := by decide +kernel
theorem pf_114_47 : pd_fetch 114 47 = some (.iinc 5 1, 50) := by decide +kernel
theorem pf_114_50 : pd_fetch 114 50 = some (.goto (Int.ofNat 13), 53) := by decide +kernel
theorem pf_114_53 : pd_fetch 114 53 = some (.iload 4, 55) := by decide +kernel
theorem pf_114_55 : pd_fetch 114 55 = some (.ireturn, 56) := by decide +kernel
theorem pf_116_0 : pd_fetch 116 0 = some (.jsr (0), 1) := by decide +kernel
theorem pf_116_1 : pd_fetch 116 1 = some (.lstore 3, 2) := by decide +kernel
theorem pf_116_2 : pd_fetch 116 2 = some (.iconst 0, 3) := by decide +kernel
theorem pf_116_3 : pd_fetch 116 3 = some (.istore 5, 5) := by decide +kernel
theorem pf_116_5 : pd_fetch 116 5 = some (.iload 5, 7) := by decide +kernel
theorem pf_116_7 : pd_fetch 116 7 = some (.aload 0, 8) := by decide +kernel
theorem pf_116_8 : pd_fetch 116 8 = some (.getfield 607, 11) := by decide +kernel
theorem pf_116_11 : pd_fetch 116 11 = some (.if_icmp .ge (Int.ofNat 45), 14) := by decide +kernel
theorem pf_116_14 : pd_fetch 116 14 = some (.lload 3, 15) := by decide +kernel
theorem pf_116_15 : pd_fetch 116 15 = some (.jsr (2), 18) := by decide +kernel
theorem pf_116_18 : pd_fetch 116 18 = some (.aload 0, 19) := by decide +kernel
theorem pf_116_19 : pd_fetch 116 19 = some (.aload 1, 20) := by decide +kernel
theorem pf_116_20 : pd_fetch 116 20 = some (.iload 5, 22) := by decide +kernel
theorem pf_116_22 : pd_fetch 116 22 = some (.invokevirtual 113, 25) := by decide +kernel
theorem pf_116_25 : pd_fetch 116 25 = some (.i2l, 26) := by decide +kernel
theorem pf_116_26 : pd_fetch 116 26 = some (.lmul, 27) := by decide +kernel
theorem pf_116_27 : pd_fetch 116 27 = some (.aload 1, 28) := by decide +kernel
theorem pf_116_28 : pd_fetch 116 28 = some (.iconst 5, 29) := by decide +kernel
theorem pf_116_29 : pd_fetch 116 29 = some (.iload 5, 31) := by decide +kernel
theorem pf_116_31 : pd_fetch 116 31 = some (.imul, 32) := by decide +kernel
theorem pf_116_32 : pd_fetch 116 32 = some (.iload 2, 33) := by decide +kernel
theorem pf_116_33 : pd_fetch 116 33 = some (.iadd, 34) := by decide +kernel
theorem pf_116_34 : pd_fetch 116 34 = some (.iaload, 35) := by decide +kernel
theorem pf_116_35 : pd_fetch 116 35 = some (.i2l, 36) := by decide +kernel
theorem pf_116_36 : pd_fetch 116 36 = some (.lmul, 37) := by decide +kernel
theorem pf_116_37 : pd_fetch 116 37 = some (.ladd, 38) := by decide +kernel
theorem pf_116_38 : pd_fetch 116 38 = some (.lstore 3, 39) := by decide +kernel
theorem pf_116_39 : pd_fetch 116 39 = some (.iinc 5 1, 42) := by decide +kernel
theorem pf_116_42 : pd_fetch 116 42 = some (.goto (Int.ofNat 5), 45) := by decide +kernel
theorem pf_116_45 : pd_fetch 116 45 = some (.lload 3, 46) := by decide +kernel
theorem pf_116_46 : pd_fetch 116 46 = some (.lreturn, 47) := by decide +kernel
theorem pf_118_0 : pd_fetch 118 0 = some (.iconst 0, 1) := by decide +kernel
theorem pf_118_1 : pd_fetch 118 1 = some (.istore 2, 2) := by decide +kernel
theorem pf_118_2 : pd_fetch 118 2 = some (.iconst 1, 3) := by decide +kernel
theorem pf_118_3 : pd_fetch 118 3 = some (.istore 3, 4) := by decide +kernel
theorem pf_118_4 : pd_fetch 118 4 = some (.iload 3, 5) := by decide +kernel
theorem pf_118_5 : pd_fetch 118 5 = some (.aload 0, 6) := by decide +kernel
theorem pf_118_6 : pd_fetch 118 6 = some (.getfield 606, 9) := by decide +kernel
theorem pf_118_9 : pd_fetch 118 9 = some (.if_icmp .ge (Int.ofNat 40), 12) := by decide +kernel
theorem pf_118_12 : pd_fetch 118 12 = some (.aload 0, 13) := by decide +kernel
theorem pf_118_13 : pd_fetch 118 13 = some (.aload 1, 14) := by decide +kernel
theorem pf_118_14 : pd_fetch 118 14 = some (.iload 3, 15) := by decide +kernel
theorem pf_118_15 : pd_fetch 118 15 = some (.invokevirtual 117, 18) := by decide +kernel
theorem pf_118_18 : pd_fetch 118 18 = some (.aload 0, 19) := by decide +kernel
theorem pf_118_19 : pd_fetch 118 19 = some (.aload 1, 20) := by decide +kernel
theorem pf_118_20 : pd_fetch 118 20 = some (.iload 2, 21) := by decide +kernel
theorem pf_118_21 : pd_fetch 118 21 = some (.invokevirtual 117, 24) := by decide +kernel
theorem pf_118_24 : pd_fetch 118 24 = some (.lcmp, 25) := by decide +kernel
theorem pf_118_25 : pd_fetch 118 25 = some (.ifCond .ge (Int.ofNat 32), 28) := by decide +kernel
theorem pf_118_28 : pd_fetch 118 28 = some (.iload 3, 29) := by decide +kernel
theorem pf_118_29 : pd_fetch 118 29 = some (.goto (Int.ofNat 33), 32) := by decide +kernel
theorem pf_118_32 : pd_fetch 118 32 = some (.iload 2, 33) := by decide +kernel
theorem pf_118_33 : pd_fetch 118 33 = some (.istore 2, 34) := by decide +kernel
theorem pf_118_34 : pd_fetch 118 34 = some (.iinc 3 1, 37) := by decide +kernel
theorem pf_118_37 : pd_fetch 118 37 = some (.goto (Int.ofNat 4), 40) := by decide +kernel
theorem pf_118_40 : pd_fetch 118 40 = some (.iload 2, 41) := by decide +kernel
theorem pf_118_41 : pd_fetch 118 41 = some (.ireturn, 42) := by decide +kernel
theorem pf_120_0 : pd_fetch 120 0 = some (.jsr (-100), 3) := by decide +kernel
theorem pf_120_3 : pd_fetch 120 3 = some (.aload 0, 4) := by decide +kernel
theorem pf_120_4 : pd_fetch 120 4 = some (.aload 1, 5) := by decide +kernel
theorem pf_120_5 : pd_fetch 120 5 = some (.aload 0, 6) := by decide +kernel
theorem pf_120_6 : pd_fetch 120 6 = some (.aload 1, 7) := by decide +kernel
theorem pf_120_7 : pd_fetch 120 7 = some (.invokevirtual 118, 10) := by decide +kernel
theorem pf_120_10 : pd_fetch 120 10 = some (.invokevirtual 117, 13) := by decide +kernel
theorem pf_120_13 : pd_fetch 120 13 = some (.lmul, 14) := by decide +kernel
theorem pf_120_14 : pd_fetch 120 14 = some (.lstore 2, 15) := by decide +kernel
theorem pf_120_15 : pd_fetch 120 15 = some (.iconst 0, 16) := by decide +kernel
theorem pf_120_16 : pd_fetch 120 16 = some (.istore 4, 18) := by decide +kernel
theorem pf_120_18 : pd_fetch 120 18 = some (.iload 4, 20) := by decide +kernel
theorem pf_120_20 : pd_fetch 120 20 = some (.aload 0, 21) := by decide +kernel
theorem pf_120_21 : pd_fetch 120 21 = some (.getfield 604, 24) := by decide +kernel
theorem pf_120_24 : pd_fetch 120 24 = some (.if_icmp .ge (Int.ofNat 52), 27) := by decide +kernel
theorem pf_120_27 : pd_fetch 120 27 = some (.lload 2, 28) := by decide +kernel
theorem pf_120_28 : pd_fetch 120 28 = some (.aload 0, 29) := by decide +kernel
theorem pf_120_29 : pd_fetch 120 29 = some (.aload 1, 30) := by decide +kernel
theorem pf_120_30 : pd_fetch 120 30 = some (.iload 4, 32) := by decide +kernel
theorem pf_120_32 : pd_fetch 120 32 = some (.invokevirtual 112, 35) := by decide +kernel
theorem pf_120_35 : pd_fetch 120 35 = some (.i2l, 36) := by decide +kernel
theorem pf_120_36 : pd_fetch 120 36 = some (.aload 0, 37) := by decide +kernel
theorem pf_120_37 : pd_fetch 120 37 = some (.aload 1, 38) := by decide +kernel
theorem pf_120_38 : pd_fetch 120 38 = some (.iload 4, 40) := by decide +kernel
theorem pf_120_40 : pd_fetch 120 40 = some (.invokevirtual 116, 43) := by decide +kernel
theorem pf_120_43 : pd_fetch 120 43 = some (.lmul, 44) := by decide +kernel
theorem pf_120_44 : pd_fetch 120 44 = some (.ladd, 45) := by decide +kernel
theorem pf_120_45 : pd_fetch 120 45 = some (.lstore 2, 46) := by decide +kernel
theorem pf_120_46 : pd_fetch 120 46 = some (.iinc 4 1, 49) := by decide +kernel
theorem pf_120_49 : pd_fetch 120 49 = some (.goto (Int.ofNat 18), 52) := by decide +kernel
theorem pf_120_52 : pd_fetch 120 52 = some (.lload 2, 53) := by decide +kernel
theorem pf_120_53 : pd_fetch 120 53 = some (.lreturn, 54) := by decide +kernel
theorem pf_122_0 : pd_fetch 122 0 = some (.iconst 0, 1) := by decide +kernel
theorem pf_122_1 : pd_fetch 122 1 = some (.istore 1, 2) := by decide +kernel
theorem pf_122_2 : pd_fetch 122 2 = some (.iconst 0, 3) := by decide +kernel
theorem pf_122_3 : pd_fetch 122 3 = some (.istore 2, 4) := by decide +kernel
theorem pf_122_4 : pd_fetch 122 4 = some (.iload 2, 5) := by decide +kernel
theorem pf_122_5 : pd_fetch 122 5 = some (.aload 0, 6) := by decide +kernel
theorem pf_122_6 : pd_fetch 122 6 = some (.iconst 68, 8) := by decide +kernel
theorem pf_122_8 : pd_fetch 122 8 = some (.iaload, 9) := by decide +kernel
theorem pf_122_9 : pd_fetch 122 9 = some (.if_icmp .ge (Int.ofNat 54), 12) := by decide +kernel
theorem pf_122_12 : pd_fetch 122 12 = some (.aload 0, 13) := by decide +kernel
theorem pf_122_13 : pd_fetch 122 13 = some (.iconst 44, 15) := by decide +kernel
theorem pf_122_15 : pd_fetch 122 15 = some (.iload 2, 16) := by decide +kernel
theorem pf_122_16 : pd_fetch 122 16 = some (.iadd, 17) := by decide +kernel
theorem pf_122_17 : pd_fetch 122 17 = some (.iaload, 18) := by decide +kernel
theorem pf_122_18 : pd_fetch 122 18 = some (.ifCond .le (Int.ofNat 48), 21) := by decide +kernel
theorem pf_122_21 : pd_fetch 122 21 = some (.aload 0, 22) := by decide +kernel
theorem pf_122_22 : pd_fetch 122 22 = some (.iconst 20, 24) := by decide +kernel
theorem pf_122_24 : pd_fetch 122 24 = some (.iload 1, 25) := by decide +kernel
theorem pf_122_25 : pd_fetch 122 25 = some (.iadd, 26) := by decide +kernel
theorem pf_122_26 : pd_fetch 122 26 = some (.aload 0, 27) := by decide +kernel
theorem pf_122_27 : pd_fetch 122 27 = some (.iconst 20, 29) := by decide +kernel
theorem pf_122_29 : pd_fetch 122 29 = some (.iload 2, 30) := by decide +kernel
theorem pf_122_30 : pd_fetch 122 30 = some (.iadd, 31) := by decide +kernel
theorem pf_122_31 : pd_fetch 122 31 = some (.iaload, 32) := by decide +kernel
theorem pf_122_32 : pd_fetch 122 32 = some (.iastore, 33) := by decide +kernel
theorem pf_122_33 : pd_fetch 122 33 = some (.aload 0, 34) := by decide +kernel
theorem pf_122_34 : pd_fetch 122 34 = some (.iconst 44, 36) := by decide +kernel
theorem pf_122_36 : pd_fetch 122 36 = some (.iload 1, 37) := by decide +kernel
theorem pf_122_37 : pd_fetch 122 37 = some (.iadd, 38) := by decide +kernel
theorem pf_122_38 : pd_fetch 122 38 = some (.aload 0, 39) := by decide +kernel
theorem pf_122_39 : pd_fetch 122 39 = some (.iconst 44, 41) := by decide +kernel
theorem pf_122_41 : pd_fetch 122 41 = some (.iload 2, 42) := by decide +kernel
theorem pf_122_42 : pd_fetch 122 42 = some (.iadd, 43) := by decide +kernel
theorem pf_122_43 : pd_fetch 122 43 = some (.iaload, 44) := by decide +kernel
theorem pf_122_44 : pd_fetch 122 44 = some (.iastore, 45) := by decide +kernel
theorem pf_122_45 : pd_fetch 122 45 = some (.iinc 1 1, 48) := by decide +kernel
theorem pf_122_48 : pd_fetch 122 48 = some (.iinc 2 1, 51) := by decide +kernel
theorem pf_122_51 : pd_fetch 122 51 = some (.goto (Int.ofNat 4), 54) := by decide +kernel
theorem pf_122_54 : pd_fetch 122 54 = some (.aload 0, 55) := by decide +kernel
theorem pf_122_55 : pd_fetch 122 55 = some (.iconst 68, 57) := by decide +kernel
theorem pf_122_57 : pd_fetch 122 57 = some (.iaload, 58) := by decide +kernel
theorem pf_122_58 : pd_fetch 122 58 = some (.iload 1, 59) := by decide +kernel
theorem pf_122_59 : pd_fetch 122 59 = some (.isub, 60) := by decide +kernel
theorem pf_122_60 : pd_fetch 122 60 = some (.istore 2, 61) := by decide +kernel
theorem pf_122_61 : pd_fetch 122 61 = some (.aload 0, 62) := by decide +kernel
theorem pf_122_62 : pd_fetch 122 62 = some (.iconst 68, 64) := by decide +kernel
theorem pf_122_64 : pd_fetch 122 64 = some (.iload 1, 65) := by decide +kernel
theorem pf_122_65 : pd_fetch 122 65 = some (.iastore, 66) := by decide +kernel
theorem pf_122_66 : pd_fetch 122 66 = some (.iload 2, 67) := by decide +kernel
theorem pf_122_67 : pd_fetch 122 67 = some (.ireturn, 68) := by decide +kernel
theorem pf_124_0 : pd_fetch 124 0 = some (.iload 2, 1) := by decide +kernel
theorem pf_124_1 : pd_fetch 124 1 = some (.iconst 1, 2) := by decide +kernel
theorem pf_124_2 : pd_fetch 124 2 = some (.if_icmp .ne (Int.ofNat 16), 5) := by decide +kernel
theorem pf_124_5 : pd_fetch 124 5 = some (.aload 1, 6) := by decide +kernel
theorem pf_124_6 : pd_fetch 124 6 = some (.iconst 68, 8) := by decide +kernel
theorem pf_124_8 : pd_fetch 124 8 = some (.iaload, 9) := by decide +kernel
theorem pf_124_9 : pd_fetch 124 9 = some (.iconst 2, 10) := by decide +kernel
theorem pf_124_10 : pd_fetch 124 10 = some (.if_icmp .ge (Int.ofNat 16), 13) := by decide +kernel
theorem pf_124_13 : pd_fetch 124 13 = some (.iconst (-9), 15) := by decide +kernel
theorem pf_124_15 : pd_fetch 124 15 = some (.ireturn, 16) := by decide +kernel
theorem pf_124_16 : pd_fetch 124 16 = some (.aload 0, 17) := by decide +kernel
theorem pf_124_17 : pd_fetch 124 17 = some (.aload 1, 18) := by decide +kernel
theorem pf_124_18 : pd_fetch 124 18 = some (.invokevirtual 118, 21) := by decide +kernel
theorem pf_124_21 : pd_fetch 124 21 = some (.istore 3, 22) := by decide +kernel
theorem pf_124_22 : pd_fetch 124 22 = some (.aload 0, 23) := by decide +kernel
theorem pf_124_23 : pd_fetch 124 23 = some (.aload 1, 24) := by decide +kernel
theorem pf_124_24 : pd_fetch 124 24 = some (.invokevirtual 119, 27) := by decide +kernel
theorem pf_124_27 : pd_fetch 124 27 = some (.istore 4, 29) := by decide +kernel
theorem pf_124_29 : pd_fetch 124 29 = some (.aload 1, 30) := by decide +kernel
theorem pf_124_30 : pd_fetch 124 30 = some (.iconst 20, 32) := by decide +kernel
theorem pf_124_32 : pd_fetch 124 32 = some (.iload 4, 34) := by decide +kernel
theorem pf_124_34 : pd_fetch 124 34 = some (.iadd, 35) := by decide +kernel
theorem pf_124_35 : pd_fetch 124 35 = some (.iaload, 36) := by decide +kernel
theorem pf_124_36 : pd_fetch 124 36 = some (.istore 5, 38) := by decide +kernel
theorem pf_124_38 : pd_fetch 124 38 = some (.aload 1, 39) := by decide +kernel
theorem pf_124_39 : pd_fetch 124 39 = some (.iconst 44, 41) := by decide +kernel
theorem pf_124_41 : pd_fetch 124 41 = some (.iload 4, 43) := by decide +kernel
theorem pf_124_43 : pd_fetch 124 43 = some (.iadd, 44) := by decide +kernel
theorem pf_124_44 : pd_fetch 124 44 = some (.iaload, 45) := by decide +kernel
theorem pf_124_45 : pd_fetch 124 45 = some (.istore 6, 47) := by decide +kernel
theorem pf_124_47 : pd_fetch 124 47 = some (.iconst 0, 48) := by decide +kernel
theorem pf_124_48 : pd_fetch 124 48 = some (.istore 7, 50) := by decide +kernel
theorem pf_124_50 : pd_fetch 124 50 = some (.iload 7, 52) := by decide +kernel
theorem pf_124_52 : pd_fetch 124 52 = some (.aload 0, 53) := by decide +kernel
theorem pf_124_53 : pd_fetch 124 53 = some (.getfield 607, 56) := by decide +kernel
theorem pf_124_56 : pd_fetch 124 56 = some (.if_icmp .ge (Int.ofNat 186), 59) := by decide +kernel
theorem pf_124_59 : pd_fetch 124 59 = some (.aload 0, 60) := by decide +kernel
theorem pf_124_60 : pd_fetch 124 60 = some (.aload 1, 61) := by decide +kernel
theorem pf_124_61 : pd_fetch 124 61 = some (.iload 7, 63) := by decide +kernel
theorem pf_124_63 : pd_fetch 124 63 = some (.invokevirtual 113, 66) := by decide +kernel
theorem pf_124_66 : pd_fetch 124 66 = some (.i2l, 67) := by decide +kernel
theorem pf_124_67 : pd_fetch 124 67 = some (.lstore 8, 69) := by decide +kernel
theorem pf_124_69 : pd_fetch 124 69 = some (.jsr (100), 72) := by decide +kernel
theorem pf_124_72 : pd_fetch 124 72 = some (.aload 0, 73) := by decide +kernel
theorem pf_124_73 : pd_fetch 124 73 = some (.aload 1, 74) := by decide +kernel
theorem pf_124_74 : pd_fetch 124 74 = some (.iload 7, 76) := by decide +kernel
theorem pf_124_76 : pd_fetch 124 76 = some (.iload 3, 77) := by decide +kernel
theorem pf_124_77 : pd_fetch 124 77 = some (.invokevirtual 114, 80) := by decide +kernel
theorem pf_124_80 : pd_fetch 124 80 = some (.i2l, 81) := by decide +kernel
theorem pf_124_81 : pd_fetch 124 81 = some (.lmul, 82) := by decide +kernel
theorem pf_124_82 : pd_fetch 124 82 = some (.lstore 10, 84) := by decide +kernel
theorem pf_124_84 : pd_fetch 124 84 = some (.jsr (100), 87) := by decide +kernel
theorem pf_124_87 : pd_fetch 124 87 = some (.aload 0, 88) := by decide +kernel
theorem pf_124_88 : pd_fetch 124 88 = some (.aload 1, 89) := by decide +kernel
theorem pf_124_89 : pd_fetch 124 89 = some (.iload 7, 91) := by decide +kernel
theorem pf_124_91 : pd_fetch 124 91 = some (.iload 5, 93) := by decide +kernel
theorem pf_124_93 : pd_fetch 124 93 = some (.invokevirtual 114, 96) := by decide +kernel
theorem pf_124_96 : pd_fetch 124 96 = some (.i2l, 97) := by decide +kernel
theorem pf_124_97 : pd_fetch 124 97 = some (.lmul, 98) := by decide +kernel
theorem pf_124_98 : pd_fetch 124 98 = some (.lstore 12, 100) := by decide +kernel
theorem pf_124_100 : pd_fetch 124 100 = some (.aload 0, 101) := by decide +kernel
theorem pf_124_101 : pd_fetch 124 101 = some (.getfield 622, 104) := by decide +kernel
theorem pf_124_104 : pd_fetch 124 104 = some (.iload 7, 106) := by decide +kernel
theorem pf_124_106 : pd_fetch 124 106 = some (.iload 2, 107) := by decide +kernel
theorem pf_124_107 : pd_fetch 124 107 = some (.ifCond .ne (Int.ofNat 119), 110) := by decide +kernel
theorem pf_124_110 : pd_fetch 124 110 = some (.jsr (100), 113) := by decide +kernel
theorem pf_124_113 : pd_fetch 124 113 = some (.lload 8, 115) := by decide +kernel
theorem pf_124_115 : pd_fetch 124 115 = some (.lmul, 116) := by decide +kernel
theorem pf_124_116 : pd_fetch 124 116 = some (.goto (Int.ofNat 138), 119) := by decide +kernel
theorem pf_124_119 : pd_fetch 124 119 = some (.iload 2, 120) := by decide +kernel
theorem pf_124_120 : pd_fetch 124 120 = some (.iconst 1, 121) := by decide +kernel
theorem pf_124_121 : pd_fetch 124 121 = some (.if_icmp .ne (Int.ofNat 136), 124) := by decide +kernel
theorem pf_124_124 : pd_fetch 124 124 = some (.iconst 100, 126) := by decide +kernel
theorem pf_124_126 : pd_fetch 124 126 = some (.iload 6, 128) := by decide +kernel
theorem pf_124_128 : pd_fetch 124 128 = some (.isub, 129) := by decide +kernel
theorem pf_124_129 : pd_fetch 124 129 = some (.i2l, 130) := by decide +kernel
theorem pf_124_130 : pd_fetch 124 130 = some (.lload 8, 132) := by decide +kernel
theorem pf_124_132 : pd_fetch 124 132 = some (.lmul, 133) := by decide +kernel
theorem pf_124_133 : pd_fetch 124 133 = some (.goto (Int.ofNat 138), 136) := by decide +kernel
theorem pf_124_136 : pd_fetch 124 136 = some (.lload 8, 138) := by decide +kernel
theorem pf_124_138 : pd_fetch 124 138 = some (.lastore, 139) := by decide +kernel
theorem pf_124_139 : pd_fetch 124 139 = some (.aload 0, 140) := by decide +kernel
theorem pf_124_140 : pd_fetch 124 140 = some (.getfield 623, 143) := by decide +kernel
theorem pf_124_143 : pd_fetch 124 143 = some (.iload 7, 145) := by decide +kernel
theorem pf_124_145 : pd_fetch 124 145 = some (.iload 2, 146) := by decide +kernel
theorem pf_124_146 : pd_fetch 124 146 = some (.ifCond .ne (Int.ofNat 157), 149) := by decide +kernel
theorem pf_124_149 : pd_fetch 124 149 = some (.lload 10, 151) := by decide +kernel
theorem pf_124_151 : pd_fetch 124 151 = some (.lload 8, 153) := by decide +kernel
theorem pf_124_153 : pd_fetch 124 153 = some (.lsub, 154) := by decide +kernel
theorem pf_124_154 : pd_fetch 124 154 = some (.goto (Int.ofNat 179), 157) := by decide +kernel
theorem pf_124_157 : pd_fetch 124 157 = some (.iload 2, 158) := by decide +kernel
theorem pf_124_158 : pd_fetch 124 158 = some (.iconst 1, 159) := by decide +kernel
theorem pf_124_159 : pd_fetch 124 159 = some (.if_icmp .ne (Int.ofNat 170), 162) := by decide +kernel
theorem pf_124_162 : pd_fetch 124 162 = some (.lload 8, 164) := by decide +kernel
theorem pf_124_164 : pd_fetch 124 164 = some (.lload 12, 166) := by decide +kernel
theorem pf_124_166 : pd_fetch 124 166 = some (.lsub, 167) := by decide +kernel
theorem pf_124_167 : pd_fetch 124 167 = some (.goto (Int.ofNat 179), 170) := by decide +kernel
theorem pf_124_170 : pd_fetch 124 170 = some (.lload 10, 172) := by decide +kernel
theorem pf_124_172 : pd_fetch 124 172 = some (.lload 12, 174) := by decide +kernel
theorem pf_124_174 : pd_fetch 124 174 = some (.lsub, 175) := by decide +kernel
theorem pf_124_175 : pd_fetch 124 175 = some (.jsr (100), 178) := by decide +kernel
theorem pf_124_178 : pd_fetch 124 178 = some (.ldiv, 179) := by decide +kernel
theorem pf_124_179 : pd_fetch 124 179 = some (.lastore, 180) := by decide +kernel
theorem pf_124_180 : pd_fetch 124 180 = some (.iinc 7 1, 183) := by decide +kernel
theorem pf_124_183 : pd_fetch 124 183 = some (.goto (Int.ofNat 50), 186) := by decide +kernel
theorem pf_124_186 : pd_fetch 124 186 = some (.iconst 0, 187) := by decide +kernel
theorem pf_124_187 : pd_fetch 124 187 = some (.istore 7, 189) := by decide +kernel
theorem pf_124_189 : pd_fetch 124 189 = some (.jsr (0), 190) := by decide +kernel
theorem pf_124_190 : pd_fetch 124 190 = some (.lstore 8, 192) := by decide +kernel
theorem pf_124_192 : pd_fetch 124 192 = some (.iconst 0, 193) := by decide +kernel
theorem pf_124_193 : pd_fetch 124 193 = some (.istore 10, 195) := by decide +kernel
theorem pf_124_195 : pd_fetch 124 195 = some (.iload 10, 197) := by decide +kernel
theorem pf_124_197 : pd_fetch 124 197 = some (.iload 2, 198) := by decide +kernel
theorem pf_124_198 : pd_fetch 124 198 = some (.ifCond .ne (Int.ofNat 206), 201) := by decide +kernel
theorem pf_124_201 : pd_fetch 124 201 = some (.iconst 100, 203) := by decide +kernel
theorem pf_124_203 : pd_fetch 124 203 = some (.goto (Int.ofNat 208), 206) := by decide +kernel
theorem pf_124_206 : pd_fetch 124 206 = some (.iload 6, 208) := by decide +kernel
theorem pf_124_208 : pd_fetch 124 208 = some (.if_icmp .gt (Int.ofNat 313), 211) := by decide +kernel
theorem pf_124_211 : pd_fetch 124 211 = some (.jsr (0), 212) := by decide +kernel
theorem pf_124_212 : pd_fetch 124 212 = some (.lstore 11, 214) := by decide +kernel
theorem pf_124_214 : pd_fetch 124 214 = some (.iconst 0, 215) := by decide +kernel
theorem pf_124_215 : pd_fetch 124 215 = some (.istore 13, 217) := by decide +kernel
theorem pf_124_217 : pd_fetch 124 217 = some (.iload 13, 219) := by decide +kernel
theorem pf_124_219 : pd_fetch 124 219 = some (.aload 0, 220) := by decide +kernel
theorem pf_124_220 : pd_fetch 124 220 = some (.getfield 607, 223) := by decide +kernel
theorem pf_124_223 : pd_fetch 124 223 = some (.if_icmp .ge (Int.ofNat 263), 226) := by decide +kernel
theorem pf_124_226 : pd_fetch 124 226 = some (.aload 0, 227) := by decide +kernel
theorem pf_124_227 : pd_fetch 124 227 = some (.getfield 622, 230) := by decide +kernel
theorem pf_124_230 : pd_fetch 124 230 = some (.iload 13, 232) := by decide +kernel
theorem pf_124_232 : pd_fetch 124 232 = some (.laload, 233) := by decide +kernel
theorem pf_124_233 : pd_fetch 124 233 = some (.iload 10, 235) := by decide +kernel
theorem pf_124_235 : pd_fetch 124 235 = some (.i2l, 236) := by decide +kernel
theorem pf_124_236 : pd_fetch 124 236 = some (.aload 0, 237) := by decide +kernel
theorem pf_124_237 : pd_fetch 124 237 = some (.getfield 623, 240) := by decide +kernel
theorem pf_124_240 : pd_fetch 124 240 = some (.iload 13, 242) := by decide +kernel
theorem pf_124_242 : pd_fetch 124 242 = some (.laload, 243) := by decide +kernel
theorem pf_124_243 : pd_fetch 124 243 = some (.lmul, 244) := by decide +kernel
theorem pf_124_244 : pd_fetch 124 244 = some (.ladd, 245) := by decide +kernel
theorem pf_124_245 : pd_fetch 124 245 = some (.lstore 14, 247) := by decide +kernel
theorem pf_124_247 : pd_fetch 124 247 = some (.lload 11, 249) := by decide +kernel
theorem pf_124_249 : pd_fetch 124 249 = some (.lload 14, 251) := by decide +kernel
theorem pf_124_251 : pd_fetch 124 251 = some (.lload 14, 253) := by decide +kernel
theorem pf_124_253 : pd_fetch 124 253 = some (.lmul, 254) := by decide +kernel
theorem pf_124_254 : pd_fetch 124 254 = some (.ladd, 255) := by decide +kernel
theorem pf_124_255 : pd_fetch 124 255 = some (.lstore 11, 257) := by decide +kernel
theorem pf_124_257 : pd_fetch 124 257 = some (.iinc 13 1, 260) := by decide +kernel
theorem pf_124_260 : pd_fetch 124 260 = some (.goto (Int.ofNat 217), 263) := by decide +kernel
theorem pf_124_263 : pd_fetch 124 263 = some (.iload 10, 265) := by decide +kernel
theorem pf_124_265 : pd_fetch 124 265 = some (.ifCond .eq (Int.ofNat 276), 268) := by decide +kernel
theorem pf_124_268 : pd_fetch 124 268 = some (.lload 11, 270) := by decide +kernel
theorem pf_124_270 : pd_fetch 124 270 = some (.lload 8, 272) := by decide +kernel
theorem pf_124_272 : pd_fetch 124 272 = some (.lcmp, 273) := by decide +kernel
theorem pf_124_273 : pd_fetch 124 273 = some (.ifCond .ge (Int.ofNat 281), 276) := by decide +kernel
theorem pf_124_276 : pd_fetch 124 276 = some (.iload 10, 278) := by decide +kernel
theorem pf_124_278 : pd_fetch 124 278 = some (.goto (Int.ofNat 283), 281) := by decide +kernel
theorem pf_124_281 : pd_fetch 124 281 = some (.iload 7, 283) := by decide +kernel
theorem pf_124_283 : pd_fetch 124 283 = some (.istore 7, 285) := by decide +kernel
theorem pf_124_285 : pd_fetch 124 285 = some (.iload 10, 287) := by decide +kernel
theorem pf_124_287 : pd_fetch 124 287 = some (.ifCond .eq (Int.ofNat 298), 290) := by decide +kernel
theorem pf_124_290 : pd_fetch 124 290 = some (.lload 11, 292) := by decide +kernel
theorem pf_124_292 : pd_fetch 124 292 = some (.lload 8, 294) := by decide +kernel
theorem pf_124_294 : pd_fetch 124 294 = some (.lcmp, 295) := by decide +kernel
theorem pf_124_295 : pd_fetch 124 295 = some (.ifCond .ge (Int.ofNat 303), 298) := by decide +kernel
theorem pf_124_298 : pd_fetch 124 298 = some (.lload 11, 300) := by decide +kernel
theorem pf_124_300 : pd_fetch 124 300 = some (.goto (Int.ofNat 305), 303) := by decide +kernel
theorem pf_124_303 : pd_fetch 124 303 = some (.lload 8, 305) := by decide +kernel
theorem pf_124_305 : pd_fetch 124 305 = some (.lstore 8, 307) := by decide +kernel
theorem pf_124_307 : pd_fetch 124 307 = some (.iinc 10 1, 310) := by decide +kernel
theorem pf_124_310 : pd_fetch 124 310 = some (.goto (Int.ofNat 195), 313) := by decide +kernel
theorem pf_124_313 : pd_fetch 124 313 = some (.iload 2, 314) := by decide +kernel
theorem pf_124_314 : pd_fetch 124 314 = some (.ifCond .ne (Int.ofNat 341), 317) := by decide +kernel
theorem pf_124_317 : pd_fetch 124 317 = some (.aload 0, 318) := by decide +kernel
theorem pf_124_318 : pd_fetch 124 318 = some (.aload 1, 319) := by decide +kernel
theorem pf_124_319 : pd_fetch 124 319 = some (.iconst 100, 321) := by decide +kernel
theorem pf_124_321 : pd_fetch 124 321 = some (.iload 7, 323) := by decide +kernel
theorem pf_124_323 : pd_fetch 124 323 = some (.isub, 324) := by decide +kernel
theorem pf_124_324 : pd_fetch 124 324 = some (.iconst 100, 326) := by decide +kernel
theorem pf_124_326 : pd_fetch 124 326 = some (.iconst (-9), 328) := by decide +kernel
theorem pf_124_328 : pd_fetch 124 328 = some (.invokevirtual 123, 331) := by decide +kernel
theorem pf_124_331 : pd_fetch 124 331 = some (.aload 1, 332) := by decide +kernel
theorem pf_124_332 : pd_fetch 124 332 = some (.iload 3, 333) := by decide +kernel
theorem pf_124_333 : pd_fetch 124 333 = some (.iload 7, 335) := by decide +kernel
theorem pf_124_335 : pd_fetch 124 335 = some (.invokestatic 121, 338) := by decide +kernel
theorem pf_124_338 : pd_fetch 124 338 = some (.goto (Int.ofNat 388), 341) := by decide +kernel
theorem pf_124_341 : pd_fetch 124 341 = some (.iload 2, 342) := by decide +kernel
theorem pf_124_342 : pd_fetch 124 342 = some (.iconst 1, 343) := by decide +kernel
theorem pf_124_343 : pd_fetch 124 343 = some (.if_icmp .ne (Int.ofNat 369), 346) := by decide +kernel
theorem pf_124_346 : pd_fetch 124 346 = some (.aload 0, 347) := by decide +kernel
theorem pf_124_347 : pd_fetch 124 347 = some (.aload 1, 348) := by decide +kernel
theorem pf_124_348 : pd_fetch 124 348 = some (.iconst 100, 350) := by decide +kernel
theorem pf_124_350 : pd_fetch 124 350 = some (.iload 6, 352) := by decide +kernel
theorem pf_124_352 : pd_fetch 124 352 = some (.isub, 353) := by decide +kernel
theorem pf_124_353 : pd_fetch 124 353 = some (.iload 7, 355) := by decide +kernel
theorem pf_124_355 : pd_fetch 124 355 = some (.iadd, 356) := by decide +kernel
theorem pf_124_356 : pd_fetch 124 356 = some (.iconst 100, 358) := by decide +kernel
theorem pf_124_358 : pd_fetch 124 358 = some (.iload 6, 360) := by decide +kernel
theorem pf_124_360 : pd_fetch 124 360 = some (.isub, 361) := by decide +kernel
theorem pf_124_361 : pd_fetch 124 361 = some (.iload 4, 363) := by decide +kernel
theorem pf_124_363 : pd_fetch 124 363 = some (.invokevirtual 123, 366) := by decide +kernel
theorem pf_124_366 : pd_fetch 124 366 = some (.goto (Int.ofNat 376), 369) := by decide +kernel
theorem pf_124_369 : pd_fetch 124 369 = some (.aload 1, 370) := by decide +kernel
theorem pf_124_370 : pd_fetch 124 370 = some (.iload 3, 371) := by decide +kernel
theorem pf_124_371 : pd_fetch 124 371 = some (.iload 7, 373) := by decide +kernel
theorem pf_124_373 : pd_fetch 124 373 = some (.invokestatic 121, 376) := by decide +kernel
theorem pf_124_376 : pd_fetch 124 376 = some (.aload 1, 377) := by decide +kernel
theorem pf_124_377 : pd_fetch 124 377 = some (.iconst 44, 379) := by decide +kernel
theorem pf_124_379 : pd_fetch 124 379 = some (.iload 4, 381) := by decide +kernel
theorem pf_124_381 : pd_fetch 124 381 = some (.iadd, 382) := by decide +kernel
theorem pf_124_382 : pd_fetch 124 382 = some (.dup2, 383) := by decide +kernel
theorem pf_124_383 : pd_fetch 124 383 = some (.iaload, 384) := by decide +kernel
theorem pf_124_384 : pd_fetch 124 384 = some (.iload 7, 386) := by decide +kernel
theorem pf_124_386 : pd_fetch 124 386 = some (.isub, 387) := by decide +kernel
theorem pf_124_387 : pd_fetch 124 387 = some (.iastore, 388) := by decide +kernel
theorem pf_124_388 : pd_fetch 124 388 = some (.aload 1, 389) := by decide +kernel
theorem pf_124_389 : pd_fetch 124 389 = some (.iconst 69, 391) := by decide +kernel
theorem pf_124_391 : pd_fetch 124 391 = some (.dup2, 392) := by decide +kernel
theorem pf_124_392 : pd_fetch 124 392 = some (.iaload, 393) := by decide +kernel
theorem pf_124_393 : pd_fetch 124 393 = some (.iconst 1, 394) := by decide +kernel
theorem pf_124_394 : pd_fetch 124 394 = some (.iadd, 395) := by decide +kernel
theorem pf_124_395 : pd_fetch 124 395 = some (.iastore, 396) := by decide +kernel
theorem pf_124_396 : pd_fetch 124 396 = some (.aload 1, 397) := by decide +kernel
theorem pf_124_397 : pd_fetch 124 397 = some (.iconst 70, 399) := by decide +kernel
theorem pf_124_399 : pd_fetch 124 399 = some (.dup2, 400) := by decide +kernel
theorem pf_124_400 : pd_fetch 124 400 = some (.iaload, 401) := by decide +kernel
theorem pf_124_401 : pd_fetch 124 401 = some (.aload 1, 402) := by decide +kernel
theorem pf_124_402 : pd_fetch 124 402 = some (.invokestatic 122, 405) := by decide +kernel
theorem pf_124_405 : pd_fetch 124 405 = some (.iadd, 406) := by decide +kernel
theorem pf_124_406 : pd_fetch 124 406 = some (.iastore, 407) := by decide +kernel
theorem pf_124_407 : pd_fetch 124 407 = some (.iload 7, 409) := by decide +kernel
theorem pf_124_409 : pd_fetch 124 409 = some (.ireturn, 410) := by decide +kernel
theorem pf_126_0 : pd_fetch 126 0 = some (.aload 0, 1) := by decide +kernel
theorem pf_126_1 : pd_fetch 126 1 = some (.iconst 20, 3) := by decide +kernel
theorem pf_126_3 : pd_fetch 126 3 = some (.iload 1, 4) := by decide +kernel
theorem pf_126_4 : pd_fetch 126 4 = some (.iastore, 5) := by decide +kernel
theorem pf_126_5 : pd_fetch 126 5 = some (.aload 0, 6) := by decide +kernel
theorem pf_126_6 : pd_fetch 126 6 = some (.iconst 44, 8) := by decide +kernel
theorem pf_126_8 : pd_fetch 126 8 = some (.iconst 100, 10) := by decide +kernel
theorem pf_126_10 : pd_fetch 126 10 = some (.iastore, 11) := by decide +kernel
theorem pf_126_11 : pd_fetch 126 11 = some (.aload 0, 12) := by decide +kernel
theorem pf_126_12 : pd_fetch 126 12 = some (.iconst 68, 14) := by decide +kernel
theorem pf_126_14 : pd_fetch 126 14 = some (.iconst 1, 15) := by decide +kernel
theorem pf_126_15 : pd_fetch 126 15 = some (.iastore, 16) := by decide +kernel
theorem pf_126_16 : pd_fetch 126 16 = some (.aload 0, 17) := by decide +kernel
theorem pf_126_17 : pd_fetch 126 17 = some (.iconst 69, 19) := by decide +kernel
theorem pf_126_19 : pd_fetch 126 19 = some (.iconst 0, 20) := by decide +kernel
theorem pf_126_20 : pd_fetch 126 20 = some (.iastore, 21) := by decide +kernel
theorem pf_126_21 : pd_fetch 126 21 = some (.aload 0, 22) := by decide +kernel
theorem pf_126_22 : pd_fetch 126 22 = some (.iconst 70, 24) := by decide +kernel
theorem pf_126_24 : pd_fetch 126 24 = some (.iconst 0, 25) := by decide +kernel
theorem pf_126_25 : pd_fetch 126 25 = some (.iastore, 26) := by decide +kernel
theorem pf_126_26 : pd_fetch 126 26 = some (.return_, 27) := by decide +kernel
theorem pf_128_0 : pd_fetch 128 0 = some (.aload 0, 1) := by decide +kernel
theorem pf_128_1 : pd_fetch 128 1 = some (.iconst 0, 2) := by decide +kernel
theorem pf_128_2 : pd_fetch 128 2 = some (.putfield 600, 5) := by decide +kernel
theorem pf_128_5 : pd_fetch 128 5 = some (.aload 0, 6) := by decide +kernel
theorem pf_128_6 : pd_fetch 128 6 = some (.getfield 602, 9) := by decide +kernel
theorem pf_128_9 : pd_fetch 128 9 = some (.istore 1, 10) := by decide +kernel
theorem pf_128_10 : pd_fetch 128 10 = some (.aload 0, 11) := by decide +kernel
theorem pf_128_11 : pd_fetch 128 11 = some (.iconst 0, 12) := by decide +kernel
theorem pf_128_12 : pd_fetch 128 12 = some (.putfield 602, 15) := by decide +kernel
theorem pf_128_15 : pd_fetch 128 15 = some (.iload 1, 16) := by decide +kernel
theorem pf_128_16 : pd_fetch 128 16 = some (.ireturn, 17) := by decide +kernel
theorem pf_130_0 : pd_fetch 130 0 = some (.aload 0, 1) := by decide +kernel
theorem pf_130_1 : pd_fetch 130 1 = some (.getfield 603, 4) := by decide +kernel
theorem pf_130_4 : pd_fetch 130 4 = some (.aload 0, 5) := by decide +kernel
theorem pf_130_5 : pd_fetch 130 5 = some (.getfield 602, 8) := by decide +kernel
theorem pf_130_8 : pd_fetch 130 8 = some (.if_icmp .ge (Int.ofNat 26), 11) := by decide +kernel
theorem pf_130_11 : pd_fetch 130 11 = some (.aload 0, 12) := by decide +kernel
theorem pf_130_12 : pd_fetch 130 12 = some (.getfield 601, 15) := by decide +kernel
theorem pf_130_15 : pd_fetch 130 15 = some (.aload 0, 16) := by decide +kernel
theorem pf_130_16 : pd_fetch 130 16 = some (.getfield 603, 19) := by decide +kernel
theorem pf_130_19 : pd_fetch 130 19 = some (.iaload, 20) := by decide +kernel
theorem pf_130_20 : pd_fetch 130 20 = some (.iconst 48, 22) := by decide +kernel
theorem pf_130_22 : pd_fetch 130 22 = some (.isub, 23) := by decide +kernel
theorem pf_130_23 : pd_fetch 130 23 = some (.goto (Int.ofNat 28), 26) := by decide +kernel
theorem pf_130_26 : pd_fetch 130 26 = some (.iconst (-9), 28) := by decide +kernel
theorem pf_130_28 : pd_fetch 130 28 = some (.istore 3, 29) := by decide +kernel
theorem pf_130_29 : pd_fetch 130 29 = some (.iload 3, 30) := by decide +kernel
theorem pf_130_30 : pd_fetch 130 30 = some (.i2l, 31) := by decide +kernel
theorem pf_130_31 : pd_fetch 130 31 = some (.iload 1, 32) := by decide +kernel
theorem pf_130_32 : pd_fetch 130 32 = some (.i2l, 33) := by decide +kernel
theorem pf_130_33 : pd_fetch 130 33 = some (.iload 2, 34) := by decide +kernel
theorem pf_130_34 : pd_fetch 130 34 = some (.i2l, 35) := by decide +kernel
theorem pf_130_35 : pd_fetch 130 35 = some (.invokestatic 109, 38) := by decide +kernel
theorem pf_130_38 : pd_fetch 130 38 = some (.istore 4, 40) := by decide +kernel
theorem pf_130_40 : pd_fetch 130 40 = some (.aload 0, 41) := by decide +kernel
theorem pf_130_41 : pd_fetch 130 41 = some (.dup, 42) := by decide +kernel
theorem pf_130_42 : pd_fetch 130 42 = some (.getfield 603, 45) := by decide +kernel
theorem pf_130_45 : pd_fetch 130 45 = some (.iload 4, 47) := by decide +kernel
theorem pf_130_47 : pd_fetch 130 47 = some (.ifCond .eq (Int.ofNat 54), 50) := by decide +kernel
theorem pf_130_50 : pd_fetch 130 50 = some (.iconst 1, 51) := by decide +kernel
theorem pf_130_51 : pd_fetch 130 51 = some (.goto (Int.ofNat 55), 54) := by decide +kernel
theorem pf_130_54 : pd_fetch 130 54 = some (.iconst 0, 55) := by decide +kernel
theorem pf_130_55 : pd_fetch 130 55 = some (.iadd, 56) := by decide +kernel
theorem pf_130_56 : pd_fetch 130 56 = some (.putfield 603, 59) := by decide +kernel
theorem pf_130_59 : pd_fetch 130 59 = some (.iload 4, 61) := by decide +kernel
theorem pf_130_61 : pd_fetch 130 61 = some (.ifCond .eq (Int.ofNat 68), 64) := by decide +kernel
theorem pf_130_64 : pd_fetch 130 64 = some (.iload 3, 65) := by decide +kernel
theorem pf_130_65 : pd_fetch 130 65 = some (.goto (Int.ofNat 70), 68) := by decide +kernel
theorem pf_130_68 : pd_fetch 130 68 = some (.iconst (-9), 70) := by decide +kernel
theorem pf_130_70 : pd_fetch 130 70 = some (.ireturn, 71) := by decide +kernel
theorem pf_132_0 : pd_fetch 132 0 = some (.iconst 0, 1) := by decide +kernel
theorem pf_132_1 : pd_fetch 132 1 = some (.istore 1, 2) := by decide +kernel
theorem pf_132_2 : pd_fetch 132 2 = some (.iload 1, 3) := by decide +kernel
theorem pf_132_3 : pd_fetch 132 3 = some (.aload 0, 4) := by decide +kernel
theorem pf_132_4 : pd_fetch 132 4 = some (.getfield 611, 7) := by decide +kernel
theorem pf_132_7 : pd_fetch 132 7 = some (.if_icmp .ge (Int.ofNat 33), 10) := by decide +kernel
theorem pf_132_10 : pd_fetch 132 10 = some (.aload 0, 11) := by decide +kernel
theorem pf_132_11 : pd_fetch 132 11 = some (.getfield 613, 14) := by decide +kernel
theorem pf_132_14 : pd_fetch 132 14 = some (.iload 1, 15) := by decide +kernel
theorem pf_132_15 : pd_fetch 132 15 = some (.aload 0, 16) := by decide +kernel
theorem pf_132_16 : pd_fetch 132 16 = some (.getfield 611, 19) := by decide +kernel
theorem pf_132_19 : pd_fetch 132 19 = some (.invokestatic 131, 22) := by decide +kernel
theorem pf_132_22 : pd_fetch 132 22 = some (.ifCond .ne (Int.ofNat 27), 25) := by decide +kernel
theorem pf_132_25 : pd_fetch 132 25 = some (.iconst 0, 26) := by decide +kernel
theorem pf_132_26 : pd_fetch 132 26 = some (.ireturn, 27) := by decide +kernel
theorem pf_132_27 : pd_fetch 132 27 = some (.iinc 1 1, 30) := by decide +kernel
theorem pf_132_30 : pd_fetch 132 30 = some (.goto (Int.ofNat 2), 33) := by decide +kernel
theorem pf_132_33 : pd_fetch 132 33 = some (.aload 0, 34) := by decide +kernel
theorem pf_132_34 : pd_fetch 132 34 = some (.getfield 611, 37) := by decide +kernel
theorem pf_132_37 : pd_fetch 132 37 = some (.istore 1, 38) := by decide +kernel
theorem pf_132_38 : pd_fetch 132 38 = some (.iload 1, 39) := by decide +kernel
theorem pf_132_39 : pd_fetch 132 39 = some (.ifCond .le (Int.ofNat 121), 42) := by decide +kernel
theorem pf_132_42 : pd_fetch 132 42 = some (.aload 0, 43) := by decide +kernel
theorem pf_132_43 : pd_fetch 132 43 = some (.getfield 613, 46) := by decide +kernel
theorem pf_132_46 : pd_fetch 132 46 = some (.iload 1, 47) := by decide +kernel
theorem pf_132_47 : pd_fetch 132 47 = some (.iload 1, 48) := by decide +kernel
theorem pf_132_48 : pd_fetch 132 48 = some (.iconst 1, 49) := by decide +kernel
theorem pf_132_49 : pd_fetch 132 49 = some (.isub, 50) := by decide +kernel
theorem pf_132_50 : pd_fetch 132 50 = some (.invokestatic 131, 53) := by decide +kernel
theorem pf_132_53 : pd_fetch 132 53 = some (.ifCond .ge (Int.ofNat 121), 56) := by decide +kernel
theorem pf_132_56 : pd_fetch 132 56 = some (.iconst 0, 57) := by decide +kernel
theorem pf_132_57 : pd_fetch 132 57 = some (.istore 2, 58) := by decide +kernel
theorem pf_132_58 : pd_fetch 132 58 = some (.iload 2, 59) := by decide +kernel
theorem pf_132_59 : pd_fetch 132 59 = some (.iconst 4, 60) := by decide +kernel
theorem pf_132_60 : pd_fetch 132 60 = some (.if_icmp .ge (Int.ofNat 115), 63) := by decide +kernel
theorem pf_132_63 : pd_fetch 132 63 = some (.aload 0, 64) := by decide +kernel
theorem pf_132_64 : pd_fetch 132 64 = some (.getfield 613, 67) := by decide +kernel
theorem pf_132_67 : pd_fetch 132 67 = some (.iconst 4, 68) := by decide +kernel
theorem pf_132_68 : pd_fetch 132 68 = some (.iload 1, 69) := by decide +kernel
theorem pf_132_69 : pd_fetch 132 69 = some (.imul, 70) := by decide +kernel
theorem pf_132_70 : pd_fetch 132 70 = some (.iload 2, 71) := by decide +kernel
theorem pf_132_71 : pd_fetch 132 71 = some (.iadd, 72) := by decide +kernel
theorem pf_132_72 : pd_fetch 132 72 = some (.iaload, 73) := by decide +kernel
theorem pf_132_73 : pd_fetch 132 73 = some (.istore 3, 74) := by decide +kernel
theorem pf_132_74 : pd_fetch 132 74 = some (.aload 0, 75) := by decide +kernel
theorem pf_132_75 : pd_fetch 132 75 = some (.getfield 613, 78) := by decide +kernel
theorem pf_132_78 : pd_fetch 132 78 = some (.iconst 4, 79) := by decide +kernel
theorem pf_132_79 : pd_fetch 132 79 = some (.iload 1, 80) := by decide +kernel
theorem pf_132_80 : pd_fetch 132 80 = some (.imul, 81) := by decide +kernel
theorem pf_132_81 : pd_fetch 132 81 = some (.iload 2, 82) := by decide +kernel
theorem pf_132_82 : pd_fetch 132 82 = some (.iadd, 83) := by decide +kernel
theorem pf_132_83 : pd_fetch 132 83 = some (.aload 0, 84) := by decide +kernel
theorem pf_132_84 : pd_fetch 132 84 = some (.getfield 613, 87) := by decide +kernel
theorem pf_132_87 : pd_fetch 132 87 = some (.iconst 4, 88) := by decide +kernel
theorem pf_132_88 : pd_fetch 132 88 = some (.iload 1, 89) := by decide +kernel
theorem pf_132_89 : pd_fetch 132 89 = some (.imul, 90) := by decide +kernel
theorem pf_132_90 : pd_fetch 132 90 = some (.iconst 4, 91) := by decide +kernel
theorem pf_132_91 : pd_fetch 132 91 = some (.isub, 92) := by decide +kernel
theorem pf_132_92 : pd_fetch 132 92 = some (.iload 2, 93) := by decide +kernel
theorem pf_132_93 : pd_fetch 132 93 = some (.iadd, 94) := by decide +kernel
theorem pf_132_94 : pd_fetch 132 94 = some (.iaload, 95) := by decide +kernel
theorem pf_132_95 : pd_fetch 132 95 = some (.iastore, 96) := by decide +kernel
theorem pf_132_96 : pd_fetch 132 96 = some (.aload 0, 97) := by decide +kernel
theorem pf_132_97 : pd_fetch 132 97 = some (.getfield 613, 100) := by decide +kernel
theorem pf_132_100 : pd_fetch 132 100 = some (.iconst 4, 101) := by decide +kernel
theorem pf_132_101 : pd_fetch 132 101 = some (.iload 1, 102) := by decide +kernel
theorem pf_132_102 : pd_fetch 132 102 = some (.imul, 103) := by decide +kernel
theorem pf_132_103 : pd_fetch 132 103 = some (.iconst 4, 104) := by decide +kernel
theorem pf_132_104 : pd_fetch 132 104 = some (.isub, 105) := by decide +kernel
theorem pf_132_105 : pd_fetch 132 105 = some (.iload 2, 106) := by decide +kernel
theorem pf_132_106 : pd_fetch 132 106 = some (.iadd, 107) := by decide +kernel
theorem pf_132_107 : pd_fetch 132 107 = some (.iload 3, 108) := by decide +kernel
theorem pf_132_108 : pd_fetch 132 108 = some (.iastore, 109) := by decide +kernel
theorem pf_132_109 : pd_fetch 132 109 = some (.iinc 2 1, 112) := by decide +kernel
theorem pf_132_112 : pd_fetch 132 112 = some (.goto (Int.ofNat 58), 115) := by decide +kernel
theorem pf_132_115 : pd_fetch 132 115 = some (.iinc 1 (-1), 118) := by decide +kernel
theorem pf_132_118 : pd_fetch 132 118 = some (.goto (Int.ofNat 38), 121) := by decide +kernel
theorem pf_132_121 : pd_fetch 132 121 = some (.aload 0, 122) := by decide +kernel
theorem pf_132_122 : pd_fetch 132 122 = some (.dup, 123) := by decide +kernel
theorem pf_132_123 : pd_fetch 132 123 = some (.getfield 611, 126) := by decide +kernel
theorem pf_132_126 : pd_fetch 132 126 = some (.iconst 1, 127) := by decide +kernel
theorem pf_132_127 : pd_fetch 132 127 = some (.iadd, 128) := by decide +kernel
theorem pf_132_128 : pd_fetch 132 128 = some (.putfield 611, 131) := by decide +kernel
theorem pf_132_131 : pd_fetch 132 131 = some (.iconst 1, 132) := by decide +kernel
theorem pf_132_132 : pd_fetch 132 132 = some (.ireturn, 133) := by decide +kernel
theorem pf_134_0 : pd_fetch 134 0 = some (.aload 0, 1) := by decide +kernel
theorem pf_134_1 : pd_fetch 134 1 = some (.invokevirtual 133, 4) := by decide +kernel
theorem pf_134_4 : pd_fetch 134 4 = some (.iload 1, 5) := by decide +kernel
theorem pf_134_5 : pd_fetch 134 5 = some (.ifCond .lt (Int.ofNat 22), 8) := by decide +kernel
theorem pf_134_8 : pd_fetch 134 8 = some (.aload 0, 9) := by decide +kernel
theorem pf_134_9 : pd_fetch 134 9 = some (.getfield 613, 12) := by decide +kernel
theorem pf_134_12 : pd_fetch 134 12 = some (.iconst 4, 13) := by decide +kernel
theorem pf_134_13 : pd_fetch 134 13 = some (.aload 0, 14) := by decide +kernel
theorem pf_134_14 : pd_fetch 134 14 = some (.getfield 611, 17) := by decide +kernel
theorem pf_134_17 : pd_fetch 134 17 = some (.imul, 18) := by decide +kernel
theorem pf_134_18 : pd_fetch 134 18 = some (.iload 1, 19) := by decide +kernel
theorem pf_134_19 : pd_fetch 134 19 = some (.iadd, 20) := by decide +kernel
theorem pf_134_20 : pd_fetch 134 20 = some (.iload 2, 21) := by decide +kernel
theorem pf_134_21 : pd_fetch 134 21 = some (.iastore, 22) := by decide +kernel
theorem pf_134_22 : pd_fetch 134 22 = some (.aload 0, 23) := by decide +kernel
theorem pf_134_23 : pd_fetch 134 23 = some (.invokevirtual 132, 26) := by decide +kernel
theorem pf_134_26 : pd_fetch 134 26 = some (.pop, 27) := by decide +kernel
theorem pf_134_27 : pd_fetch 134 27 = some (.return_, 28) := by decide +kernel
theorem pf_136_0 : pd_fetch 136 0 = some (.aload 0, 1) := by decide +kernel
theorem pf_136_1 : pd_fetch 136 1 = some (.iconst 1, 2) := by decide +kernel
theorem pf_136_2 : pd_fetch 136 2 = some (.iconst 8, 4) := by decide +kernel
theorem pf_136_4 : pd_fetch 136 4 = some (.invokevirtual 130, 7) := by decide +kernel
theorem pf_136_7 : pd_fetch 136 7 = some (.istore 1, 8) := by decide +kernel
theorem pf_136_8 : pd_fetch 136 8 = some (.iconst 0, 9) := by decide +kernel
theorem pf_136_9 : pd_fetch 136 9 = some (.istore 2, 10) := by decide +kernel
theorem pf_136_10 : pd_fetch 136 10 = some (.iload 2, 11) := by decide +kernel
theorem pf_136_11 : pd_fetch 136 11 = some (.iload 1, 12) := by decide +kernel
theorem pf_136_12 : pd_fetch 136 12 = some (.if_icmp .ge (Int.ofNat 93), 15) := by decide +kernel
theorem pf_136_15 : pd_fetch 136 15 = some (.aload 0, 16) := by decide +kernel
theorem pf_136_16 : pd_fetch 136 16 = some (.invokevirtual 133, 19) := by decide +kernel
theorem pf_136_19 : pd_fetch 136 19 = some (.iconst 0, 20) := by decide +kernel
theorem pf_136_20 : pd_fetch 136 20 = some (.istore 3, 21) := by decide +kernel
theorem pf_136_21 : pd_fetch 136 21 = some (.iload 3, 22) := by decide +kernel
theorem pf_136_22 : pd_fetch 136 22 = some (.aload 0, 23) := by decide +kernel
theorem pf_136_23 : pd_fetch 136 23 = some (.getfield 609, 26) := by decide +kernel
theorem pf_136_26 : pd_fetch 136 26 = some (.if_icmp .ge (Int.ofNat 68), 29) := by decide +kernel
theorem pf_136_29 : pd_fetch 136 29 = some (.aload 0, 30) := by decide +kernel
theorem pf_136_30 : pd_fetch 136 30 = some (.iconst 0, 31) := by decide +kernel
theorem pf_136_31 : pd_fetch 136 31 = some (.iconst 9, 33) := by decide +kernel
theorem pf_136_33 : pd_fetch 136 33 = some (.invokevirtual 130, 36) := by decide +kernel
theorem pf_136_36 : pd_fetch 136 36 = some (.istore 4, 38) := by decide +kernel
theorem pf_136_38 : pd_fetch 136 38 = some (.iload 4, 40) := by decide +kernel
theorem pf_136_40 : pd_fetch 136 40 = some (.iconst (-9), 42) := by decide +kernel
theorem pf_136_42 : pd_fetch 136 42 = some (.if_icmp .ne (Int.ofNat 47), 45) := by decide +kernel
theorem pf_136_45 : pd_fetch 136 45 = some (.iconst 0, 46) := by decide +kernel
theorem pf_136_46 : pd_fetch 136 46 = some (.ireturn, 47) := by decide +kernel
theorem pf_136_47 : pd_fetch 136 47 = some (.aload 0, 48) := by decide +kernel
theorem pf_136_48 : pd_fetch 136 48 = some (.getfield 613, 51) := by decide +kernel
theorem pf_136_51 : pd_fetch 136 51 = some (.iconst 4, 52) := by decide +kernel
theorem pf_136_52 : pd_fetch 136 52 = some (.aload 0, 53) := by decide +kernel
theorem pf_136_53 : pd_fetch 136 53 = some (.getfield 611, 56) := by decide +kernel
theorem pf_136_56 : pd_fetch 136 56 = some (.imul, 57) := by decide +kernel
theorem pf_136_57 : pd_fetch 136 57 = some (.iload 3, 58) := by decide +kernel
theorem pf_136_58 : pd_fetch 136 58 = some (.iadd, 59) := by decide +kernel
theorem pf_136_59 : pd_fetch 136 59 = some (.iload 4, 61) := by decide +kernel
theorem pf_136_61 : pd_fetch 136 61 = some (.iastore, 62) := by decide +kernel
theorem pf_136_62 : pd_fetch 136 62 = some (.iinc 3 1, 65) := by decide +kernel
theorem pf_136_65 : pd_fetch 136 65 = some (.goto (Int.ofNat 21), 68) := by decide +kernel
theorem pf_136_68 : pd_fetch 136 68 = some (.aload 0, 69) := by decide +kernel
theorem pf_136_69 : pd_fetch 136 69 = some (.invokevirtual 132, 72) := by decide +kernel
theorem pf_136_72 : pd_fetch 136 72 = some (.ifCond .ne (Int.ofNat 87), 75) := by decide +kernel
theorem pf_136_75 : pd_fetch 136 75 = some (.aload 0, 76) := by decide +kernel
theorem pf_136_76 : pd_fetch 136 76 = some (.dup, 77) := by decide +kernel
theorem pf_136_77 : pd_fetch 136 77 = some (.getfield 603, 80) := by decide +kernel
theorem pf_136_80 : pd_fetch 136 80 = some (.iconst 1, 81) := by decide +kernel
theorem pf_136_81 : pd_fetch 136 81 = some (.isub, 82) := by decide +kernel
theorem pf_136_82 : pd_fetch 136 82 = some (.putfield 603, 85) := by decide +kernel
theorem pf_136_85 : pd_fetch 136 85 = some (.iconst 0, 86) := by decide +kernel
theorem pf_136_86 : pd_fetch 136 86 = some (.ireturn, 87) := by decide +kernel
theorem pf_136_87 : pd_fetch 136 87 = some (.iinc 2 1, 90) := by decide +kernel
theorem pf_136_90 : pd_fetch 136 90 = some (.goto (Int.ofNat 10), 93) := by decide +kernel
theorem pf_136_93 : pd_fetch 136 93 = some (.iload 1, 94) := by decide +kernel
theorem pf_136_94 : pd_fetch 136 94 = some (.iconst (-9), 96) := by decide +kernel
theorem pf_136_96 : pd_fetch 136 96 = some (.if_icmp .eq (Int.ofNat 103), 99) := by decide +kernel
theorem pf_136_99 : pd_fetch 136 99 = some (.iconst 1, 100) := by decide +kernel
theorem pf_136_100 : pd_fetch 136 100 = some (.goto (Int.ofNat 104), 103) := by decide +kernel
theorem pf_136_103 : pd_fetch 136 103 = some (.iconst 0, 104) := by decide +kernel
theorem pf_136_104 : pd_fetch 136 104 = some (.ireturn, 105) := by decide +kernel
theorem pf_138_0 : pd_fetch 138 0 = some (.aload 0, 1) := by decide +kernel
theorem pf_138_1 : pd_fetch 138 1 = some (.iconst 45, 3) := by decide +kernel
theorem pf_138_3 : pd_fetch 138 3 = some (.invokevirtual 129, 6) := by decide +kernel
theorem pf_138_6 : pd_fetch 138 6 = some (.istore 2, 7) := by decide +kernel
theorem pf_138_7 : pd_fetch 138 7 = some (.iload 2, 8) := by decide +kernel
theorem pf_138_8 : pd_fetch 138 8 = some (.ifCond .ne (Int.ofNat 24), 11) := by decide +kernel
theorem pf_138_11 : pd_fetch 138 11 = some (.aload 0, 12) := by decide +kernel
theorem pf_138_12 : pd_fetch 138 12 = some (.iconst 43, 14) := by decide +kernel
theorem pf_138_14 : pd_fetch 138 14 = some (.invokevirtual 129, 17) := by decide +kernel
theorem pf_138_17 : pd_fetch 138 17 = some (.ifCond .ne (Int.ofNat 24), 20) := by decide +kernel
theorem pf_138_20 : pd_fetch 138 20 = some (.iconst 1000, 23) := by decide +kernel
theorem pf_138_23 : pd_fetch 138 23 = some (.ireturn, 24) := by decide +kernel
theorem pf_138_24 : pd_fetch 138 24 = some (.iconst 0, 25) := by decide +kernel
theorem pf_138_25 : pd_fetch 138 25 = some (.istore 3, 26) := by decide +kernel
theorem pf_138_26 : pd_fetch 138 26 = some (.iconst 0, 27) := by decide +kernel
theorem pf_138_27 : pd_fetch 138 27 = some (.istore 4, 29) := by decide +kernel
theorem pf_138_29 : pd_fetch 138 29 = some (.iload 4, 31) := by decide +kernel
theorem pf_138_31 : pd_fetch 138 31 = some (.iload 1, 32) := by decide +kernel
theorem pf_138_32 : pd_fetch 138 32 = some (.if_icmp .ge (Int.ofNat 69), 35) := by decide +kernel
theorem pf_138_35 : pd_fetch 138 35 = some (.aload 0, 36) := by decide +kernel
theorem pf_138_36 : pd_fetch 138 36 = some (.iconst 0, 37) := by decide +kernel
theorem pf_138_37 : pd_fetch 138 37 = some (.iconst 9, 39) := by decide +kernel
theorem pf_138_39 : pd_fetch 138 39 = some (.invokevirtual 130, 42) := by decide +kernel
theorem pf_138_42 : pd_fetch 138 42 = some (.istore 5, 44) := by decide +kernel
theorem pf_138_44 : pd_fetch 138 44 = some (.iload 5, 46) := by decide +kernel
theorem pf_138_46 : pd_fetch 138 46 = some (.iconst (-9), 48) := by decide +kernel
theorem pf_138_48 : pd_fetch 138 48 = some (.if_icmp .ne (Int.ofNat 55), 51) := by decide +kernel
theorem pf_138_51 : pd_fetch 138 51 = some (.iconst 1000, 54) := by decide +kernel
theorem pf_138_54 : pd_fetch 138 54 = some (.ireturn, 55) := by decide +kernel
theorem pf_138_55 : pd_fetch 138 55 = some (.iconst 10, 57) := by decide +kernel
theorem pf_138_57 : pd_fetch 138 57 = some (.iload 3, 58) := by decide +kernel
theorem pf_138_58 : pd_fetch 138 58 = some (.imul, 59) := by decide +kernel
theorem pf_138_59 : pd_fetch 138 59 = some (.iload 5, 61) := by decide +kernel
theorem pf_138_61 : pd_fetch 138 61 = some (.iadd, 62) := by decide +kernel
theorem pf_138_62 : pd_fetch 138 62 = some (.istore 3, 63) := by decide +kernel
theorem pf_138_63 : pd_fetch 138 63 = some (.iinc 4 1, 66) := by decide +kernel
theorem pf_138_66 : pd_fetch 138 66 = some (.goto (Int.ofNat 29), 69) := by decide +kernel
theorem pf_138_69 : pd_fetch 138 69 = some (.iload 2, 70) := by decide +kernel
theorem pf_138_70 : pd_fetch 138 70 = some (.ifCond .eq (Int.ofNat 78), 73) := by decide +kernel
theorem pf_138_73 : pd_fetch 138 73 = some (.iload 3, 74) := by decide +kernel
theorem pf_138_74 : pd_fetch 138 74 = some (.ineg, 75) := by decide +kernel
theorem pf_138_75 : pd_fetch 138 75 = some (.goto (Int.ofNat 79), 78) := by decide +kernel
theorem pf_138_78 : pd_fetch 138 78 = some (.iload 3, 79) := by decide +kernel
theorem pf_138_79 : pd_fetch 138 79 = some (.ireturn, 80) := by decide +kernel
theorem pf_140_0 : pd_fetch 140 0 = some (.aload 0, 1) := by decide +kernel
theorem pf_140_1 : pd_fetch 140 1 = some (.iconst 0, 2) := by decide +kernel
theorem pf_140_2 : pd_fetch 140 2 = some (.putfield 603, 5) := by decide +kernel
theorem pf_140_5 : pd_fetch 140 5 = some (.aload 0, 6) := by decide +kernel
theorem pf_140_6 : pd_fetch 140 6 = some (.iconst 0, 7) := by decide +kernel
theorem pf_140_7 : pd_fetch 140 7 = some (.putfield 611, 10) := by decide +kernel
theorem pf_140_10 : pd_fetch 140 10 = some (.aload 0, 11) := by decide +kernel
theorem pf_140_11 : pd_fetch 140 11 = some (.iconst 0, 12) := by decide +kernel
theorem pf_140_12 : pd_fetch 140 12 = some (.putfield 612, 15) := by decide +kernel
theorem pf_140_15 : pd_fetch 140 15 = some (.iconst 0, 16) := by decide +kernel
theorem pf_140_16 : pd_fetch 140 16 = some (.istore 1, 17) := by decide +kernel
theorem pf_140_17 : pd_fetch 140 17 = some (.iload 1, 18) := by decide +kernel
theorem pf_140_18 : pd_fetch 140 18 = some (.iconst 72, 20) := by decide +kernel
theorem pf_140_20 : pd_fetch 140 20 = some (.if_icmp .ge (Int.ofNat 36), 23) := by decide +kernel
theorem pf_140_23 : pd_fetch 140 23 = some (.aload 0, 24) := by decide +kernel
theorem pf_140_24 : pd_fetch 140 24 = some (.getfield 614, 27) := by decide +kernel
theorem pf_140_27 : pd_fetch 140 27 = some (.iload 1, 28) := by decide +kernel
theorem pf_140_28 : pd_fetch 140 28 = some (.iconst 0, 29) := by decide +kernel
theorem pf_140_29 : pd_fetch 140 29 = some (.iastore, 30) := by decide +kernel
theorem pf_140_30 : pd_fetch 140 30 = some (.iinc 1 1, 33) := by decide +kernel
theorem pf_140_33 : pd_fetch 140 33 = some (.goto (Int.ofNat 17), 36) := by decide +kernel
theorem pf_140_36 : pd_fetch 140 36 = some (.aload 0, 37) := by decide +kernel
theorem pf_140_37 : pd_fetch 140 37 = some (.iconst 80, 39) := by decide +kernel
theorem pf_140_39 : pd_fetch 140 39 = some (.invokevirtual 129, 42) := by decide +kernel
theorem pf_140_42 : pd_fetch 140 42 = some (.ifCond .ne (Int.ofNat 47), 45) := by decide +kernel
theorem pf_140_45 : pd_fetch 140 45 = some (.iconst 0, 46) := by decide +kernel
theorem pf_140_46 : pd_fetch 140 46 = some (.ireturn, 47) := by decide +kernel
theorem pf_140_47 : pd_fetch 140 47 = some (.aload 0, 48) := by decide +kernel
theorem pf_140_48 : pd_fetch 140 48 = some (.aload 0, 49) := by decide +kernel
theorem pf_140_49 : pd_fetch 140 49 = some (.iconst 1, 50) := by decide +kernel
theorem pf_140_50 : pd_fetch 140 50 = some (.iconst 4, 51) := by decide +kernel
theorem pf_140_51 : pd_fetch 140 51 = some (.invokevirtual 130, 54) := by decide +kernel
theorem pf_140_54 : pd_fetch 140 54 = some (.putfield 609, 57) := by decide +kernel
theorem pf_140_57 : pd_fetch 140 57 = some (.aload 0, 58) := by decide +kernel
theorem pf_140_58 : pd_fetch 140 58 = some (.getfield 609, 61) := by decide +kernel
theorem pf_140_61 : pd_fetch 140 61 = some (.iconst (-9), 63) := by decide +kernel
theorem pf_140_63 : pd_fetch 140 63 = some (.if_icmp .eq (Int.ofNat 80), 66) := by decide +kernel
theorem pf_140_66 : pd_fetch 140 66 = some (.aload 0, 67) := by decide +kernel
theorem pf_140_67 : pd_fetch 140 67 = some (.invokevirtual 137, 70) := by decide +kernel
theorem pf_140_70 : pd_fetch 140 70 = some (.ifCond .eq (Int.ofNat 80), 73) := by decide +kernel
theorem pf_140_73 : pd_fetch 140 73 = some (.aload 0, 74) := by decide +kernel
theorem pf_140_74 : pd_fetch 140 74 = some (.invokevirtual 139, 77) := by decide +kernel
theorem pf_140_77 : pd_fetch 140 77 = some (.ifCond .ne (Int.ofNat 82), 80) := by decide +kernel
theorem pf_140_80 : pd_fetch 140 80 = some (.iconst 0, 81) := by decide +kernel
theorem pf_140_81 : pd_fetch 140 81 = some (.ireturn, 82) := by decide +kernel
theorem pf_140_82 : pd_fetch 140 82 = some (.aload 0, 83) := by decide +kernel
theorem pf_140_83 : pd_fetch 140 83 = some (.getfield 603, 86) := by decide +kernel
theorem pf_140_86 : pd_fetch 140 86 = some (.aload 0, 87) := by decide +kernel
theorem pf_140_87 : pd_fetch 140 87 = some (.getfield 602, 90) := by decide +kernel
theorem pf_140_90 : pd_fetch 140 90 = some (.if_icmp .ge (Int.ofNat 110), 93) := by decide +kernel
theorem pf_140_93 : pd_fetch 140 93 = some (.aload 0, 94) := by decide +kernel
theorem pf_140_94 : pd_fetch 140 94 = some (.getfield 612, 97) := by decide +kernel
theorem pf_140_97 : pd_fetch 140 97 = some (.iconst 4, 98) := by decide +kernel
theorem pf_140_98 : pd_fetch 140 98 = some (.if_icmp .eq (Int.ofNat 108), 101) := by decide +kernel
theorem pf_140_101 : pd_fetch 140 101 = some (.aload 0, 102) := by decide +kernel
theorem pf_140_102 : pd_fetch 140 102 = some (.invokevirtual 139, 105) := by decide +kernel
theorem pf_140_105 : pd_fetch 140 105 = some (.ifCond .ne (Int.ofNat 82), 108) := by decide +kernel
theorem pf_140_108 : pd_fetch 140 108 = some (.iconst 0, 109) := by decide +kernel
theorem pf_140_109 : pd_fetch 140 109 = some (.ireturn, 110) := by decide +kernel
theorem pf_140_110 : pd_fetch 140 110 = some (.iconst 1, 111) := by decide +kernel
theorem pf_140_111 : pd_fetch 140 111 = some (.ireturn, 112) := by decide +kernel
theorem pf_142_0 : pd_fetch 142 0 = some (.aload 0, 1) := by decide +kernel
theorem pf_142_1 : pd_fetch 142 1 = some (.aload 0, 2) := by decide +kernel
theorem pf_142_2 : pd_fetch 142 2 = some (.invokevirtual 140, 5) := by decide +kernel
theorem pf_142_5 : pd_fetch 142 5 = some (.ifCond .eq (Int.ofNat 12), 8) := by decide +kernel
theorem pf_142_8 : pd_fetch 142 8 = some (.iconst 0, 9) := by decide +kernel
theorem pf_142_9 : pd_fetch 142 9 = some (.goto (Int.ofNat 13), 12) := by decide +kernel
theorem pf_142_12 : pd_fetch 142 12 = some (.iconst 1, 13) := by decide +kernel
theorem pf_142_13 : pd_fetch 142 13 = some (.invokevirtual 108, 16) := by decide +kernel
theorem pf_142_16 : pd_fetch 142 16 = some (.ifCond .eq (Int.ofNat 21), 19) := by decide +kernel
theorem pf_142_19 : pd_fetch 142 19 = some (.iconst 0, 20) := by decide +kernel
theorem pf_142_20 : pd_fetch 142 20 = some (.ireturn, 21) := by decide +kernel
theorem pf_142_21 : pd_fetch 142 21 = some (.aload 0, 22) := by decide +kernel
theorem pf_142_22 : pd_fetch 142 22 = some (.aload 0, 23) := by decide +kernel
theorem pf_142_23 : pd_fetch 142 23 = some (.getfield 609, 26) := by decide +kernel
theorem pf_142_26 : pd_fetch 142 26 = some (.putfield 604, 29) := by decide +kernel
theorem pf_142_29 : pd_fetch 142 29 = some (.aload 0, 30) := by decide +kernel
theorem pf_142_30 : pd_fetch 142 30 = some (.aload 0, 31) := by decide +kernel
theorem pf_142_31 : pd_fetch 142 31 = some (.getfield 610, 34) := by decide +kernel
theorem pf_142_34 : pd_fetch 142 34 = some (.putfield 605, 37) := by decide +kernel
theorem pf_142_37 : pd_fetch 142 37 = some (.aload 0, 38) := by decide +kernel
theorem pf_142_38 : pd_fetch 142 38 = some (.aload 0, 39) := by decide +kernel
theorem pf_142_39 : pd_fetch 142 39 = some (.getfield 611, 42) := by decide +kernel
theorem pf_142_42 : pd_fetch 142 42 = some (.putfield 606, 45) := by decide +kernel
theorem pf_142_45 : pd_fetch 142 45 = some (.aload 0, 46) := by decide +kernel
theorem pf_142_46 : pd_fetch 142 46 = some (.aload 0, 47) := by decide +kernel
theorem pf_142_47 : pd_fetch 142 47 = some (.getfield 612, 50) := by decide +kernel
theorem pf_142_50 : pd_fetch 142 50 = some (.putfield 607, 53) := by decide +kernel
theorem pf_142_53 : pd_fetch 142 53 = some (.iconst 0, 54) := by decide +kernel
theorem pf_142_54 : pd_fetch 142 54 = some (.istore 1, 55) := by decide +kernel
theorem pf_142_55 : pd_fetch 142 55 = some (.iload 1, 56) := by decide +kernel
theorem pf_142_56 : pd_fetch 142 56 = some (.iconst 4, 57) := by decide +kernel
theorem pf_142_57 : pd_fetch 142 57 = some (.aload 0, 58) := by decide +kernel
theorem pf_142_58 : pd_fetch 142 58 = some (.getfield 606, 61) := by decide +kernel
theorem pf_142_61 : pd_fetch 142 61 = some (.imul, 62) := by decide +kernel
theorem pf_142_62 : pd_fetch 142 62 = some (.if_icmp .ge (Int.ofNat 83), 65) := by decide +kernel
theorem pf_142_65 : pd_fetch 142 65 = some (.aload 0, 66) := by decide +kernel
theorem pf_142_66 : pd_fetch 142 66 = some (.getfield 608, 69) := by decide +kernel
theorem pf_142_69 : pd_fetch 142 69 = some (.iload 1, 70) := by decide +kernel
theorem pf_142_70 : pd_fetch 142 70 = some (.aload 0, 71) := by decide +kernel
theorem pf_142_71 : pd_fetch 142 71 = some (.getfield 613, 74) := by decide +kernel
theorem pf_142_74 : pd_fetch 142 74 = some (.iload 1, 75) := by decide +kernel
theorem pf_142_75 : pd_fetch 142 75 = some (.iaload, 76) := by decide +kernel
theorem pf_142_76 : pd_fetch 142 76 = some (.iastore, 77) := by decide +kernel
theorem pf_142_77 : pd_fetch 142 77 = some (.iinc 1 1, 80) := by decide +kernel
theorem pf_142_80 : pd_fetch 142 80 = some (.goto (Int.ofNat 55), 83) := by decide +kernel
theorem pf_142_83 : pd_fetch 142 83 = some (.aload 0, 84) := by decide +kernel
theorem pf_142_84 : pd_fetch 142 84 = some (.getfield 614, 87) := by decide +kernel
theorem pf_142_87 : pd_fetch 142 87 = some (.iconst 0, 88) := by decide +kernel
theorem pf_142_88 : pd_fetch 142 88 = some (.aload 0, 89) := by decide +kernel
theorem pf_142_89 : pd_fetch 142 89 = some (.getfield 615, 92) := by decide +kernel
theorem pf_142_92 : pd_fetch 142 92 = some (.iconst 0, 93) := by decide +kernel
theorem pf_142_93 : pd_fetch 142 93 = some (.invokestatic 110, 96) := by decide +kernel
theorem pf_142_96 : pd_fetch 142 96 = some (.aload 0, 97) := by decide +kernel
theorem pf_142_97 : pd_fetch 142 97 = some (.getfield 615, 100) := by decide +kernel
theorem pf_142_100 : pd_fetch 142 100 = some (.iconst 0, 101) := by decide +kernel
theorem pf_142_101 : pd_fetch 142 101 = some (.invokestatic 126, 104) := by decide +kernel
theorem pf_142_104 : pd_fetch 142 104 = some (.aload 0, 105) := by decide +kernel
theorem pf_142_105 : pd_fetch 142 105 = some (.iconst 0, 106) := by decide +kernel
theorem pf_142_106 : pd_fetch 142 106 = some (.putfield 618, 109) := by decide +kernel
theorem pf_142_109 : pd_fetch 142 109 = some (.aload 0, 110) := by decide +kernel
theorem pf_142_110 : pd_fetch 142 110 = some (.getfield 620, 113) := by decide +kernel
theorem pf_142_113 : pd_fetch 142 113 = some (.iconst 0, 114) := by decide +kernel
theorem pf_142_114 : pd_fetch 142 114 = some (.iconst 0, 115) := by decide +kernel
theorem pf_142_115 : pd_fetch 142 115 = some (.bastore, 116) := by decide +kernel
theorem pf_142_116 : pd_fetch 142 116 = some (.aload 0, 117) := by decide +kernel
theorem pf_142_117 : pd_fetch 142 117 = some (.getfield 620, 120) := by decide +kernel
theorem pf_142_120 : pd_fetch 142 120 = some (.iconst 1, 121) := by decide +kernel
theorem pf_142_121 : pd_fetch 142 121 = some (.iconst 0, 122) := by decide +kernel
theorem pf_142_122 : pd_fetch 142 122 = some (.bastore, 123) := by decide +kernel
theorem pf_142_123 : pd_fetch 142 123 = some (.aload 0, 124) := by decide +kernel
theorem pf_142_124 : pd_fetch 142 124 = some (.getfield 606, 127) := by decide +kernel
theorem pf_142_127 : pd_fetch 142 127 = some (.ireturn, 128) := by decide +kernel
theorem pf_144_0 : pd_fetch 144 0 = some (.aload 0, 1) := by decide +kernel
theorem pf_144_1 : pd_fetch 144 1 = some (.aload 0, 2) := by decide +kernel
theorem pf_144_2 : pd_fetch 144 2 = some (.iload 1, 3) := by decide +kernel
theorem pf_144_3 : pd_fetch 144 3 = some (.invokevirtual 111, 6) := by decide +kernel
theorem pf_144_6 : pd_fetch 144 6 = some (.ifCond .eq (Int.ofNat 29), 9) := by decide +kernel
theorem pf_144_9 : pd_fetch 144 9 = some (.iload 2, 10) := by decide +kernel
theorem pf_144_10 : pd_fetch 144 10 = some (.i2l, 11) := by decide +kernel
theorem pf_144_11 : pd_fetch 144 11 = some (.jsr (0), 12) := by decide +kernel
theorem pf_144_12 : pd_fetch 144 12 = some (.aload 0, 13) := by decide +kernel
theorem pf_144_13 : pd_fetch 144 13 = some (.getfield 604, 16) := by decide +kernel
theorem pf_144_16 : pd_fetch 144 16 = some (.iconst 1, 17) := by decide +kernel
theorem pf_144_17 : pd_fetch 144 17 = some (.isub, 18) := by decide +kernel
theorem pf_144_18 : pd_fetch 144 18 = some (.i2l, 19) := by decide +kernel
theorem pf_144_19 : pd_fetch 144 19 = some (.invokestatic 109, 22) := by decide +kernel
theorem pf_144_22 : pd_fetch 144 22 = some (.ifCond .eq (Int.ofNat 29), 25) := by decide +kernel
theorem pf_144_25 : pd_fetch 144 25 = some (.iconst 0, 26) := by decide +kernel
theorem pf_144_26 : pd_fetch 144 26 = some (.goto (Int.ofNat 30), 29) := by decide +kernel
theorem pf_144_29 : pd_fetch 144 29 = some (.iconst 1, 30) := by decide +kernel
theorem pf_144_30 : pd_fetch 144 30 = some (.invokevirtual 108, 33) := by decide +kernel
theorem pf_144_33 : pd_fetch 144 33 = some (.ifCond .eq (Int.ofNat 40), 36) := by decide +kernel
theorem pf_144_36 : pd_fetch 144 36 = some (.iconst 0, 37) := by decide +kernel
theorem pf_144_37 : pd_fetch 144 37 = some (.goto (Int.ofNat 50), 40) := by decide +kernel
theorem pf_144_40 : pd_fetch 144 40 = some (.aload 0, 41) := by decide +kernel
theorem pf_144_41 : pd_fetch 144 41 = some (.getfield 608, 44) := by decide +kernel
theorem pf_144_44 : pd_fetch 144 44 = some (.iconst 4, 45) := by decide +kernel
theorem pf_144_45 : pd_fetch 144 45 = some (.iload 1, 46) := by decide +kernel
theorem pf_144_46 : pd_fetch 144 46 = some (.imul, 47) := by decide +kernel
theorem pf_144_47 : pd_fetch 144 47 = some (.iload 2, 48) := by decide +kernel
theorem pf_144_48 : pd_fetch 144 48 = some (.iadd, 49) := by decide +kernel
theorem pf_144_49 : pd_fetch 144 49 = some (.iaload, 50) := by decide +kernel
theorem pf_144_50 : pd_fetch 144 50 = some (.ireturn, 51) := by decide +kernel
theorem pf_146_0 : pd_fetch 146 0 = some (.iconst 5, 1) := by decide +kernel
theorem pf_146_1 : pd_fetch 146 1 = some (.iload 1, 2) := by decide +kernel
theorem pf_146_2 : pd_fetch 146 2 = some (.imul, 3) := by decide +kernel
theorem pf_146_3 : pd_fetch 146 3 = some (.iload 2, 4) := by decide +kernel
theorem pf_146_4 : pd_fetch 146 4 = some (.aload 0, 5) := by decide +kernel
theorem pf_146_5 : pd_fetch 146 5 = some (.getfield 604, 8) := by decide +kernel
theorem pf_146_8 : pd_fetch 146 8 = some (.if_icmp .ne (Int.ofNat 15), 11) := by decide +kernel
theorem pf_146_11 : pd_fetch 146 11 = some (.iconst 4, 12) := by decide +kernel
theorem pf_146_12 : pd_fetch 146 12 = some (.goto (Int.ofNat 16), 15) := by decide +kernel
theorem pf_146_15 : pd_fetch 146 15 = some (.iload 2, 16) := by decide +kernel
theorem pf_146_16 : pd_fetch 146 16 = some (.iadd, 17) := by decide +kernel
theorem pf_146_17 : pd_fetch 146 17 = some (.ireturn, 18) := by decide +kernel
theorem pf_148_0 : pd_fetch 148 0 = some (.aload 0, 1) := by decide +kernel
theorem pf_148_1 : pd_fetch 148 1 = some (.iload 1, 2) := by decide +kernel
theorem pf_148_2 : pd_fetch 148 2 = some (.i2l, 3) := by decide +kernel
theorem pf_148_3 : pd_fetch 148 3 = some (.jsr (0), 4) := by decide +kernel
theorem pf_148_4 : pd_fetch 148 4 = some (.aload 0, 5) := by decide +kernel
theorem pf_148_5 : pd_fetch 148 5 = some (.getfield 615, 8) := by decide +kernel
theorem pf_148_8 : pd_fetch 148 8 = some (.iconst 68, 10) := by decide +kernel
theorem pf_148_10 : pd_fetch 148 10 = some (.iaload, 11) := by decide +kernel
theorem pf_148_11 : pd_fetch 148 11 = some (.iconst 1, 12) := by decide +kernel
theorem pf_148_12 : pd_fetch 148 12 = some (.isub, 13) := by decide +kernel
theorem pf_148_13 : pd_fetch 148 13 = some (.i2l, 14) := by decide +kernel
theorem pf_148_14 : pd_fetch 148 14 = some (.invokestatic 109, 17) := by decide +kernel
theorem pf_148_17 : pd_fetch 148 17 = some (.ifCond .ne (Int.ofNat 24), 20) := by decide +kernel
theorem pf_148_20 : pd_fetch 148 20 = some (.iconst 1, 21) := by decide +kernel
theorem pf_148_21 : pd_fetch 148 21 = some (.goto (Int.ofNat 39), 24) := by decide +kernel
theorem pf_148_24 : pd_fetch 148 24 = some (.iload 2, 25) := by decide +kernel
theorem pf_148_25 : pd_fetch 148 25 = some (.i2l, 26) := by decide +kernel
theorem pf_148_26 : pd_fetch 148 26 = some (.jsr (0), 27) := by decide +kernel
theorem pf_148_27 : pd_fetch 148 27 = some (.jsr (1), 28) := by decide +kernel
theorem pf_148_28 : pd_fetch 148 28 = some (.invokestatic 109, 31) := by decide +kernel
theorem pf_148_31 : pd_fetch 148 31 = some (.ifCond .ne (Int.ofNat 38), 34) := by decide +kernel
theorem pf_148_34 : pd_fetch 148 34 = some (.iconst 2, 35) := by decide +kernel
theorem pf_148_35 : pd_fetch 148 35 = some (.goto (Int.ofNat 39), 38) := by decide +kernel
theorem pf_148_38 : pd_fetch 148 38 = some (.iconst 0, 39) := by decide +kernel
theorem pf_148_39 : pd_fetch 148 39 = some (.invokevirtual 108, 42) := by decide +kernel
theorem pf_148_42 : pd_fetch 148 42 = some (.ifCond .eq (Int.ofNat 47), 45) := by decide +kernel
theorem pf_148_45 : pd_fetch 148 45 = some (.iconst 0, 46) := by decide +kernel
theorem pf_148_46 : pd_fetch 148 46 = some (.ireturn, 47) := by decide +kernel
theorem pf_148_47 : pd_fetch 148 47 = some (.iload 2, 48) := by decide +kernel
theorem pf_148_48 : pd_fetch 148 48 = some (.ifCond .ne (Int.ofNat 63), 51) := by decide +kernel
theorem pf_148_51 : pd_fetch 148 51 = some (.aload 0, 52) := by decide +kernel
theorem pf_148_52 : pd_fetch 148 52 = some (.getfield 615, 55) := by decide +kernel
theorem pf_148_55 : pd_fetch 148 55 = some (.iconst 20, 57) := by decide +kernel
theorem pf_148_57 : pd_fetch 148 57 = some (.iload 1, 58) := by decide +kernel
theorem pf_148_58 : pd_fetch 148 58 = some (.iadd, 59) := by decide +kernel
theorem pf_148_59 : pd_fetch 148 59 = some (.iaload, 60) := by decide +kernel
theorem pf_148_60 : pd_fetch 148 60 = some (.goto (Int.ofNat 72), 63) := by decide +kernel
theorem pf_148_63 : pd_fetch 148 63 = some (.aload 0, 64) := by decide +kernel
theorem pf_148_64 : pd_fetch 148 64 = some (.getfield 615, 67) := by decide +kernel
theorem pf_148_67 : pd_fetch 148 67 = some (.iconst 44, 69) := by decide +kernel
theorem pf_148_69 : pd_fetch 148 69 = some (.iload 1, 70) := by decide +kernel
theorem pf_148_70 : pd_fetch 148 70 = some (.iadd, 71) := by decide +kernel
theorem pf_148_71 : pd_fetch 148 71 = some (.iaload, 72) := by decide +kernel
theorem pf_148_72 : pd_fetch 148 72 = some (.ireturn, 73) := by decide +kernel
theorem pf_150_0 : pd_fetch 150 0 = some (.aload 0, 1) := by decide +kernel
theorem pf_150_1 : pd_fetch 150 1 = some (.getfield 618, 4) := by decide +kernel
theorem pf_150_4 : pd_fetch 150 4 = some (.iconst 14, 6) := by decide +kernel
theorem pf_150_6 : pd_fetch 150 6 = some (.if_icmp .ne (Int.ofNat 49), 9) := by decide +kernel
theorem pf_150_9 : pd_fetch 150 9 = some (.iconst 0, 10) := by decide +kernel
theorem pf_150_10 : pd_fetch 150 10 = some (.istore 1, 11) := by decide +kernel
theorem pf_150_11 : pd_fetch 150 11 = some (.iload 1, 12) := by decide +kernel
theorem pf_150_12 : pd_fetch 150 12 = some (.iconst 936, 15) := by decide +kernel
theorem pf_150_15 : pd_fetch 150 15 = some (.if_icmp .ge (Int.ofNat 39), 18) := by decide +kernel
theorem pf_150_18 : pd_fetch 150 18 = some (.aload 0, 19) := by decide +kernel
theorem pf_150_19 : pd_fetch 150 19 = some (.getfield 617, 22) := by decide +kernel
theorem pf_150_22 : pd_fetch 150 22 = some (.iload 1, 23) := by decide +kernel
theorem pf_150_23 : pd_fetch 150 23 = some (.aload 0, 24) := by decide +kernel
theorem pf_150_24 : pd_fetch 150 24 = some (.getfield 617, 27) := by decide +kernel
theorem pf_150_27 : pd_fetch 150 27 = some (.iload 1, 28) := by decide +kernel
theorem pf_150_28 : pd_fetch 150 28 = some (.iconst 72, 30) := by decide +kernel
theorem pf_150_30 : pd_fetch 150 30 = some (.iadd, 31) := by decide +kernel
theorem pf_150_31 : pd_fetch 150 31 = some (.iaload, 32) := by decide +kernel
theorem pf_150_32 : pd_fetch 150 32 = some (.iastore, 33) := by decide +kernel
theorem pf_150_33 : pd_fetch 150 33 = some (.iinc 1 1, 36) := by decide +kernel
theorem pf_150_36 : pd_fetch 150 36 = some (.goto (Int.ofNat 11), 39) := by decide +kernel
theorem pf_150_39 : pd_fetch 150 39 = some (.aload 0, 40) := by decide +kernel
theorem pf_150_40 : pd_fetch 150 40 = some (.dup, 41) := by decide +kernel
theorem pf_150_41 : pd_fetch 150 41 = some (.getfield 618, 44) := by decide +kernel
theorem pf_150_44 : pd_fetch 150 44 = some (.iconst 1, 45) := by decide +kernel
theorem pf_150_45 : pd_fetch 150 45 = some (.isub, 46) := by decide +kernel
theorem pf_150_46 : pd_fetch 150 46 = some (.putfield 618, 49) := by decide +kernel
theorem pf_150_49 : pd_fetch 150 49 = some (.aload 0, 50) := by decide +kernel
theorem pf_150_50 : pd_fetch 150 50 = some (.getfield 615, 53) := by decide +kernel
theorem pf_150_53 : pd_fetch 150 53 = some (.iconst 0, 54) := by decide +kernel
theorem pf_150_54 : pd_fetch 150 54 = some (.aload 0, 55) := by decide +kernel
theorem pf_150_55 : pd_fetch 150 55 = some (.getfield 617, 58) := by decide +kernel
theorem pf_150_58 : pd_fetch 150 58 = some (.iconst 72, 60) := by decide +kernel
theorem pf_150_60 : pd_fetch 150 60 = some (.aload 0, 61) := by decide +kernel
theorem pf_150_61 : pd_fetch 150 61 = some (.getfield 618, 64) := by decide +kernel
theorem pf_150_64 : pd_fetch 150 64 = some (.imul, 65) := by decide +kernel
theorem pf_150_65 : pd_fetch 150 65 = some (.invokestatic 110, 68) := by decide +kernel
theorem pf_150_68 : pd_fetch 150 68 = some (.aload 0, 69) := by decide +kernel
theorem pf_150_69 : pd_fetch 150 69 = some (.dup, 70) := by decide +kernel
theorem pf_150_70 : pd_fetch 150 70 = some (.getfield 618, 73) := by decide +kernel
theorem pf_150_73 : pd_fetch 150 73 = some (.iconst 1, 74) := by decide +kernel
theorem pf_150_74 : pd_fetch 150 74 = some (.iadd, 75) := by decide +kernel
theorem pf_150_75 : pd_fetch 150 75 = some (.putfield 618, 78) := by decide +kernel
theorem pf_150_78 : pd_fetch 150 78 = some (.return_, 79) := by decide +kernel
theorem pf_152_0 : pd_fetch 152 0 = some (.aload 0, 1) := by decide +kernel
theorem pf_152_1 : pd_fetch 152 1 = some (.iload 1, 2) := by decide +kernel
theorem pf_152_2 : pd_fetch 152 2 = some (.i2l, 3) := by decide +kernel
theorem pf_152_3 : pd_fetch 152 3 = some (.jsr (0), 4) := by decide +kernel
theorem pf_152_4 : pd_fetch 152 4 = some (.jsr (2), 7) := by decide +kernel
theorem pf_152_7 : pd_fetch 152 7 = some (.invokestatic 109, 10) := by decide +kernel
theorem pf_152_10 : pd_fetch 152 10 = some (.ifCond .eq (Int.ofNat 29), 13) := by decide +kernel
theorem pf_152_13 : pd_fetch 152 13 = some (.iload 2, 14) := by decide +kernel
theorem pf_152_14 : pd_fetch 152 14 = some (.i2l, 15) := by decide +kernel
theorem pf_152_15 : pd_fetch 152 15 = some (.jsr (1), 16) := by decide +kernel
theorem pf_152_16 : pd_fetch 152 16 = some (.jsr (50), 19) := by decide +kernel
theorem pf_152_19 : pd_fetch 152 19 = some (.invokestatic 109, 22) := by decide +kernel
theorem pf_152_22 : pd_fetch 152 22 = some (.ifCond .eq (Int.ofNat 29), 25) := by decide +kernel
theorem pf_152_25 : pd_fetch 152 25 = some (.iconst 0, 26) := by decide +kernel
theorem pf_152_26 : pd_fetch 152 26 = some (.goto (Int.ofNat 30), 29) := by decide +kernel
theorem pf_152_29 : pd_fetch 152 29 = some (.iconst 1, 30) := by decide +kernel
theorem pf_152_30 : pd_fetch 152 30 = some (.invokevirtual 108, 33) := by decide +kernel
theorem pf_152_33 : pd_fetch 152 33 = some (.ifCond .eq (Int.ofNat 38), 36) := by decide +kernel
theorem pf_152_36 : pd_fetch 152 36 = some (.iconst 0, 37) := by decide +kernel
theorem pf_152_37 : pd_fetch 152 37 = some (.ireturn, 38) := by decide +kernel
theorem pf_152_38 : pd_fetch 152 38 = some (.aload 0, 39) := by decide +kernel
theorem pf_152_39 : pd_fetch 152 39 = some (.invokevirtual 150, 42) := by decide +kernel
theorem pf_152_42 : pd_fetch 152 42 = some (.iconst 0, 43) := by decide +kernel
theorem pf_152_43 : pd_fetch 152 43 = some (.istore 3, 44) := by decide +kernel
theorem pf_152_44 : pd_fetch 152 44 = some (.iconst 1, 45) := by decide +kernel
theorem pf_152_45 : pd_fetch 152 45 = some (.istore 4, 47) := by decide +kernel
theorem pf_152_47 : pd_fetch 152 47 = some (.iload 4, 49) := by decide +kernel
theorem pf_152_49 : pd_fetch 152 49 = some (.ifCond .eq (Int.ofNat 111), 52) := by decide +kernel
theorem pf_152_52 : pd_fetch 152 52 = some (.iload 3, 53) := by decide +kernel
theorem pf_152_53 : pd_fetch 152 53 = some (.iload 2, 54) := by decide +kernel
theorem pf_152_54 : pd_fetch 152 54 = some (.if_icmp .ge (Int.ofNat 111), 57) := by decide +kernel
theorem pf_152_57 : pd_fetch 152 57 = some (.aload 0, 58) := by decide +kernel
theorem pf_152_58 : pd_fetch 152 58 = some (.aload 0, 59) := by decide +kernel
theorem pf_152_59 : pd_fetch 152 59 = some (.getfield 615, 62) := by decide +kernel
theorem pf_152_62 : pd_fetch 152 62 = some (.invokevirtual 120, 65) := by decide +kernel
theorem pf_152_65 : pd_fetch 152 65 = some (.jsr (0), 66) := by decide +kernel
theorem pf_152_66 : pd_fetch 152 66 = some (.lcmp, 67) := by decide +kernel
theorem pf_152_67 : pd_fetch 152 67 = some (.ifCond .eq (Int.ofNat 111), 70) := by decide +kernel
theorem pf_152_70 : pd_fetch 152 70 = some (.aload 0, 71) := by decide +kernel
theorem pf_152_71 : pd_fetch 152 71 = some (.aload 0, 72) := by decide +kernel
theorem pf_152_72 : pd_fetch 152 72 = some (.getfield 615, 75) := by decide +kernel
theorem pf_152_75 : pd_fetch 152 75 = some (.iload 1, 76) := by decide +kernel
theorem pf_152_76 : pd_fetch 152 76 = some (.invokevirtual 124, 79) := by decide +kernel
theorem pf_152_79 : pd_fetch 152 79 = some (.istore 5, 81) := by decide +kernel
theorem pf_152_81 : pd_fetch 152 81 = some (.iload 3, 82) := by decide +kernel
theorem pf_152_82 : pd_fetch 152 82 = some (.iload 5, 84) := by decide +kernel
theorem pf_152_84 : pd_fetch 152 84 = some (.iconst (-9), 86) := by decide +kernel
theorem pf_152_86 : pd_fetch 152 86 = some (.if_icmp .ne (Int.ofNat 93), 89) := by decide +kernel
theorem pf_152_89 : pd_fetch 152 89 = some (.iconst 0, 90) := by decide +kernel
theorem pf_152_90 : pd_fetch 152 90 = some (.goto (Int.ofNat 94), 93) := by decide +kernel
theorem pf_152_93 : pd_fetch 152 93 = some (.iconst 1, 94) := by decide +kernel
theorem pf_152_94 : pd_fetch 152 94 = some (.iadd, 95) := by decide +kernel
theorem pf_152_95 : pd_fetch 152 95 = some (.istore 3, 96) := by decide +kernel
theorem pf_152_96 : pd_fetch 152 96 = some (.iload 5, 98) := by decide +kernel
theorem pf_152_98 : pd_fetch 152 98 = some (.ifCond .le (Int.ofNat 105), 101) := by decide +kernel
theorem pf_152_101 : pd_fetch 152 101 = some (.iconst 1, 102) := by decide +kernel
theorem pf_152_102 : pd_fetch 152 102 = some (.goto (Int.ofNat 106), 105) := by decide +kernel
theorem pf_152_105 : pd_fetch 152 105 = some (.iconst 0, 106) := by decide +kernel
theorem pf_152_106 : pd_fetch 152 106 = some (.istore 4, 108) := by decide +kernel
theorem pf_152_108 : pd_fetch 152 108 = some (.goto (Int.ofNat 47), 111) := by decide +kernel
theorem pf_152_111 : pd_fetch 152 111 = some (.iload 3, 112) := by decide +kernel
theorem pf_152_112 : pd_fetch 152 112 = some (.ireturn, 113) := by decide +kernel
theorem pf_154_0 : pd_fetch 154 0 = some (.aload 0, 1) := by decide +kernel
theorem pf_154_1 : pd_fetch 154 1 = some (.aload 0, 2) := by decide +kernel
theorem pf_154_2 : pd_fetch 154 2 = some (.iload 1, 3) := by decide +kernel
theorem pf_154_3 : pd_fetch 154 3 = some (.invokevirtual 111, 6) := by decide +kernel
theorem pf_154_6 : pd_fetch 154 6 = some (.ifCond .eq (Int.ofNat 13), 9) := by decide +kernel
theorem pf_154_9 : pd_fetch 154 9 = some (.iconst 0, 10) := by decide +kernel
theorem pf_154_10 : pd_fetch 154 10 = some (.goto (Int.ofNat 14), 13) := by decide +kernel
theorem pf_154_13 : pd_fetch 154 13 = some (.iconst 1, 14) := by decide +kernel
theorem pf_154_14 : pd_fetch 154 14 = some (.invokevirtual 108, 17) := by decide +kernel
theorem pf_154_17 : pd_fetch 154 17 = some (.ifCond .eq (Int.ofNat 22), 20) := by decide +kernel
theorem pf_154_20 : pd_fetch 154 20 = some (.iconst 0, 21) := by decide +kernel
theorem pf_154_21 : pd_fetch 154 21 = some (.ireturn, 22) := by decide +kernel
theorem pf_154_22 : pd_fetch 154 22 = some (.aload 0, 23) := by decide +kernel
theorem pf_154_23 : pd_fetch 154 23 = some (.invokevirtual 150, 26) := by decide +kernel
theorem pf_154_26 : pd_fetch 154 26 = some (.aload 0, 27) := by decide +kernel
theorem pf_154_27 : pd_fetch 154 27 = some (.getfield 615, 30) := by decide +kernel
theorem pf_154_30 : pd_fetch 154 30 = some (.iconst 68, 32) := by decide +kernel
theorem pf_154_32 : pd_fetch 154 32 = some (.iaload, 33) := by decide +kernel
theorem pf_154_33 : pd_fetch 154 33 = some (.istore 2, 34) := by decide +kernel
theorem pf_154_34 : pd_fetch 154 34 = some (.aload 0, 35) := by decide +kernel
theorem pf_154_35 : pd_fetch 154 35 = some (.getfield 615, 38) := by decide +kernel
theorem pf_154_38 : pd_fetch 154 38 = some (.iload 1, 39) := by decide +kernel
theorem pf_154_39 : pd_fetch 154 39 = some (.invokestatic 126, 42) := by decide +kernel
theorem pf_154_42 : pd_fetch 154 42 = some (.iload 2, 43) := by decide +kernel
theorem pf_154_43 : pd_fetch 154 43 = some (.ireturn, 44) := by decide +kernel
theorem pf_156_0 : pd_fetch 156 0 = some (.aload 0, 1) := by decide +kernel
theorem pf_156_1 : pd_fetch 156 1 = some (.aload 0, 2) := by decide +kernel
theorem pf_156_2 : pd_fetch 156 2 = some (.getfield 618, 5) := by decide +kernel
theorem pf_156_5 : pd_fetch 156 5 = some (.ifCond .ne (Int.ofNat 12), 8) := by decide +kernel
theorem pf_156_8 : pd_fetch 156 8 = some (.iconst 1, 9) := by decide +kernel
theorem pf_156_9 : pd_fetch 156 9 = some (.goto (Int.ofNat 13), 12) := by decide +kernel
theorem pf_156_12 : pd_fetch 156 12 = some (.iconst 0, 13) := by decide +kernel
theorem pf_156_13 : pd_fetch 156 13 = some (.invokevirtual 108, 16) := by decide +kernel
theorem pf_156_16 : pd_fetch 156 16 = some (.ifCond .eq (Int.ofNat 21), 19) := by decide +kernel
theorem pf_156_19 : pd_fetch 156 19 = some (.iconst 0, 20) := by decide +kernel
theorem pf_156_20 : pd_fetch 156 20 = some (.ireturn, 21) := by decide +kernel
theorem pf_156_21 : pd_fetch 156 21 = some (.aload 0, 22) := by decide +kernel
theorem pf_156_22 : pd_fetch 156 22 = some (.dup, 23) := by decide +kernel
theorem pf_156_23 : pd_fetch 156 23 = some (.getfield 618, 26) := by decide +kernel
theorem pf_156_26 : pd_fetch 156 26 = some (.iconst 1, 27) := by decide +kernel
theorem pf_156_27 : pd_fetch 156 27 = some (.isub, 28) := by decide +kernel
theorem pf_156_28 : pd_fetch 156 28 = some (.putfield 618, 31) := by decide +kernel
theorem pf_156_31 : pd_fetch 156 31 = some (.aload 0, 32) := by decide +kernel
theorem pf_156_32 : pd_fetch 156 32 = some (.getfield 617, 35) := by decide +kernel
theorem pf_156_35 : pd_fetch 156 35 = some (.iconst 72, 37) := by decide +kernel
theorem pf_156_37 : pd_fetch 156 37 = some (.aload 0, 38) := by decide +kernel
theorem pf_156_38 : pd_fetch 156 38 = some (.getfield 618, 41) := by decide +kernel
theorem pf_156_41 : pd_fetch 156 41 = some (.imul, 42) := by decide +kernel
theorem pf_156_42 : pd_fetch 156 42 = some (.aload 0, 43) := by decide +kernel
theorem pf_156_43 : pd_fetch 156 43 = some (.getfield 615, 46) := by decide +kernel
theorem pf_156_46 : pd_fetch 156 46 = some (.iconst 0, 47) := by decide +kernel
theorem pf_156_47 : pd_fetch 156 47 = some (.invokestatic 110, 50) := by decide +kernel
theorem pf_156_50 : pd_fetch 156 50 = some (.aload 0, 51) := by decide +kernel
theorem pf_156_51 : pd_fetch 156 51 = some (.getfield 618, 54) := by decide +kernel
theorem pf_156_54 : pd_fetch 156 54 = some (.ireturn, 55) := by decide +kernel
theorem pf_158_0 : pd_fetch 158 0 = some (.aload 0, 1) := by decide +kernel
theorem pf_158_1 : pd_fetch 158 1 = some (.iload 1, 2) := by decide +kernel
theorem pf_158_2 : pd_fetch 158 2 = some (.i2l, 3) := by decide +kernel
theorem pf_158_3 : pd_fetch 158 3 = some (.jsr (0), 4) := by decide +kernel
theorem pf_158_4 : pd_fetch 158 4 = some (.aload 0, 5) := by decide +kernel
theorem pf_158_5 : pd_fetch 158 5 = some (.getfield 607, 8) := by decide +kernel
theorem pf_158_8 : pd_fetch 158 8 = some (.iconst 1, 9) := by decide +kernel
theorem pf_158_9 : pd_fetch 158 9 = some (.isub, 10) := by decide +kernel
theorem pf_158_10 : pd_fetch 158 10 = some (.i2l, 11) := by decide +kernel
theorem pf_158_11 : pd_fetch 158 11 = some (.invokestatic 109, 14) := by decide +kernel
theorem pf_158_14 : pd_fetch 158 14 = some (.ifCond .eq (Int.ofNat 21), 17) := by decide +kernel
theorem pf_158_17 : pd_fetch 158 17 = some (.iconst 0, 18) := by decide +kernel
theorem pf_158_18 : pd_fetch 158 18 = some (.goto (Int.ofNat 22), 21) := by decide +kernel
theorem pf_158_21 : pd_fetch 158 21 = some (.iconst 1, 22) := by decide +kernel
theorem pf_158_22 : pd_fetch 158 22 = some (.invokevirtual 108, 25) := by decide +kernel
theorem pf_158_25 : pd_fetch 158 25 = some (.ifCond .eq (Int.ofNat 32), 28) := by decide +kernel
theorem pf_158_28 : pd_fetch 158 28 = some (.iconst 0, 29) := by decide +kernel
theorem pf_158_29 : pd_fetch 158 29 = some (.goto (Int.ofNat 41), 32) := by decide +kernel
theorem pf_158_32 : pd_fetch 158 32 = some (.aload 0, 33) := by decide +kernel
theorem pf_158_33 : pd_fetch 158 33 = some (.aload 0, 34) := by decide +kernel
theorem pf_158_34 : pd_fetch 158 34 = some (.getfield 615, 37) := by decide +kernel
theorem pf_158_37 : pd_fetch 158 37 = some (.iload 1, 38) := by decide +kernel
theorem pf_158_38 : pd_fetch 158 38 = some (.invokevirtual 113, 41) := by decide +kernel
theorem pf_158_41 : pd_fetch 158 41 = some (.ireturn, 42) := by decide +kernel
theorem pf_160_0 : pd_fetch 160 0 = some (.aload 0, 1) := by decide +kernel
theorem pf_160_1 : pd_fetch 160 1 = some (.iconst 0, 2) := by decide +kernel
theorem pf_160_2 : pd_fetch 160 2 = some (.putfield 600, 5) := by decide +kernel
theorem pf_160_5 : pd_fetch 160 5 = some (.aload 0, 6) := by decide +kernel
theorem pf_160_6 : pd_fetch 160 6 = some (.aload 0, 7) := by decide +kernel
theorem pf_160_7 : pd_fetch 160 7 = some (.getfield 615, 10) := by decide +kernel
theorem pf_160_10 : pd_fetch 160 10 = some (.invokevirtual 115, 13) := by decide +kernel
theorem pf_160_13 : pd_fetch 160 13 = some (.lreturn, 14) := by decide +kernel
theorem pf_162_0 : pd_fetch 162 0 = some (.aload 0, 1) := by decide +kernel
theorem pf_162_1 : pd_fetch 162 1 = some (.iconst 0, 2) := by decide +kernel
theorem pf_162_2 : pd_fetch 162 2 = some (.putfield 600, 5) := by decide +kernel
theorem pf_162_5 : pd_fetch 162 5 = some (.aload 0, 6) := by decide +kernel
theorem pf_162_6 : pd_fetch 162 6 = some (.aload 0, 7) := by decide +kernel
theorem pf_162_7 : pd_fetch 162 7 = some (.getfield 615, 10) := by decide +kernel
theorem pf_162_10 : pd_fetch 162 10 = some (.invokevirtual 118, 13) := by decide +kernel
theorem pf_162_13 : pd_fetch 162 13 = some (.ireturn, 14) := by decide +kernel
theorem pf_164_0 : pd_fetch 164 0 = some (.aload 0, 1) := by decide +kernel
theorem pf_164_1 : pd_fetch 164 1 = some (.iconst 0, 2) := by decide +kernel
theorem pf_164_2 : pd_fetch 164 2 = some (.putfield 600, 5) := by decide +kernel
theorem pf_164_5 : pd_fetch 164 5 = some (.aload 0, 6) := by decide +kernel
theorem pf_164_6 : pd_fetch 164 6 = some (.aload 0, 7) := by decide +kernel
theorem pf_164_7 : pd_fetch 164 7 = some (.getfield 615, 10) := by decide +kernel
theorem pf_164_10 : pd_fetch 164 10 = some (.aload 0, 11) := by decide +kernel
theorem pf_164_11 : pd_fetch 164 11 = some (.aload 0, 12) := by decide +kernel
theorem pf_164_12 : pd_fetch 164 12 = some (.getfield 615, 15) := by decide +kernel
theorem pf_164_15 : pd_fetch 164 15 = some (.invokevirtual 118, 18) := by decide +kernel
theorem pf_164_18 : pd_fetch 164 18 = some (.invokevirtual 117, 21) := by decide +kernel
theorem pf_164_21 : pd_fetch 164 21 = some (.lstore 1, 22) := by decide +kernel
theorem pf_164_22 : pd_fetch 164 22 = some (.iconst 0, 23) := by decide +kernel
theorem pf_164_23 : pd_fetch 164 23 = some (.istore 3, 24) := by decide +kernel
theorem pf_164_24 : pd_fetch 164 24 = some (.iconst 0, 25) := by decide +kernel
theorem pf_164_25 : pd_fetch 164 25 = some (.istore 4, 27) := by decide +kernel
theorem pf_164_27 : pd_fetch 164 27 = some (.iload 4, 29) := by decide +kernel
theorem pf_164_29 : pd_fetch 164 29 = some (.aload 0, 30) := by decide +kernel
theorem pf_164_30 : pd_fetch 164 30 = some (.getfield 606, 33) := by decide +kernel
theorem pf_164_33 : pd_fetch 164 33 = some (.if_icmp .ge (Int.ofNat 68), 36) := by decide +kernel
theorem pf_164_36 : pd_fetch 164 36 = some (.iload 3, 37) := by decide +kernel
theorem pf_164_37 : pd_fetch 164 37 = some (.aload 0, 38) := by decide +kernel
theorem pf_164_38 : pd_fetch 164 38 = some (.aload 0, 39) := by decide +kernel
theorem pf_164_39 : pd_fetch 164 39 = some (.getfield 615, 42) := by decide +kernel
theorem pf_164_42 : pd_fetch 164 42 = some (.iload 4, 44) := by decide +kernel
theorem pf_164_44 : pd_fetch 164 44 = some (.invokevirtual 117, 47) := by decide +kernel
theorem pf_164_47 : pd_fetch 164 47 = some (.lload 1, 48) := by decide +kernel
theorem pf_164_48 : pd_fetch 164 48 = some (.lcmp, 49) := by decide +kernel
theorem pf_164_49 : pd_fetch 164 49 = some (.ifCond .ne (Int.ofNat 59), 52) := by decide +kernel
theorem pf_164_52 : pd_fetch 164 52 = some (.iconst 1, 53) := by decide +kernel
theorem pf_164_53 : pd_fetch 164 53 = some (.iload 4, 55) := by decide +kernel
theorem pf_164_55 : pd_fetch 164 55 = some (.ishl, 56) := by decide +kernel
theorem pf_164_56 : pd_fetch 164 56 = some (.goto (Int.ofNat 60), 59) := by decide +kernel
theorem pf_164_59 : pd_fetch 164 59 = some (.iconst 0, 60) := by decide +kernel
theorem pf_164_60 : pd_fetch 164 60 = some (.ior, 61) := by decide +kernel
theorem pf_164_61 : pd_fetch 164 61 = some (.istore 3, 62) := by decide +kernel
theorem pf_164_62 : pd_fetch 164 62 = some (.iinc 4 1, 65) := by decide +kernel
theorem pf_164_65 : pd_fetch 164 65 = some (.goto (Int.ofNat 27), 68) := by decide +kernel
theorem pf_164_68 : pd_fetch 164 68 = some (.iload 3, 69) := by decide +kernel
theorem pf_164_69 : pd_fetch 164 69 = some (.ireturn, 70) := by decide +kernel
theorem pf_166_0 : pd_fetch 166 0 = some (.aload 0, 1) := by decide +kernel
theorem pf_166_1 : pd_fetch 166 1 = some (.iconst 0, 2) := by decide +kernel
theorem pf_166_2 : pd_fetch 166 2 = some (.putfield 600, 5) := by decide +kernel
theorem pf_166_5 : pd_fetch 166 5 = some (.iconst 0, 6) := by decide +kernel
theorem pf_166_6 : pd_fetch 166 6 = some (.istore 1, 7) := by decide +kernel
theorem pf_166_7 : pd_fetch 166 7 = some (.jsr (0), 8) := by decide +kernel
theorem pf_166_8 : pd_fetch 166 8 = some (.lstore 2, 9) := by decide +kernel
theorem pf_166_9 : pd_fetch 166 9 = some (.iconst 0, 10) := by decide +kernel
theorem pf_166_10 : pd_fetch 166 10 = some (.istore 4, 12) := by decide +kernel
theorem pf_166_12 : pd_fetch 166 12 = some (.iload 4, 14) := by decide +kernel
theorem pf_166_14 : pd_fetch 166 14 = some (.aload 0, 15) := by decide +kernel
theorem pf_166_15 : pd_fetch 166 15 = some (.getfield 606, 18) := by decide +kernel
theorem pf_166_18 : pd_fetch 166 18 = some (.if_icmp .ge (Int.ofNat 111), 21) := by decide +kernel
theorem pf_166_21 : pd_fetch 166 21 = some (.jsr (0), 22) := by decide +kernel
theorem pf_166_22 : pd_fetch 166 22 = some (.lstore 5, 24) := by decide +kernel
theorem pf_166_24 : pd_fetch 166 24 = some (.iconst 0, 25) := by decide +kernel
theorem pf_166_25 : pd_fetch 166 25 = some (.istore 7, 27) := by decide +kernel
theorem pf_166_27 : pd_fetch 166 27 = some (.iload 7, 29) := by decide +kernel
theorem pf_166_29 : pd_fetch 166 29 = some (.aload 0, 30) := by decide +kernel
theorem pf_166_30 : pd_fetch 166 30 = some (.getfield 607, 33) := by decide +kernel
theorem pf_166_33 : pd_fetch 166 33 = some (.if_icmp .ge (Int.ofNat 67), 36) := by decide +kernel
theorem pf_166_36 : pd_fetch 166 36 = some (.aload 0, 37) := by decide +kernel
theorem pf_166_37 : pd_fetch 166 37 = some (.aload 0, 38) := by decide +kernel
theorem pf_166_38 : pd_fetch 166 38 = some (.getfield 615, 41) := by decide +kernel
theorem pf_166_41 : pd_fetch 166 41 = some (.iload 7, 43) := by decide +kernel
theorem pf_166_43 : pd_fetch 166 43 = some (.iload 4, 45) := by decide +kernel
theorem pf_166_45 : pd_fetch 166 45 = some (.invokevirtual 114, 48) := by decide +kernel
theorem pf_166_48 : pd_fetch 166 48 = some (.i2l, 49) := by decide +kernel
theorem pf_166_49 : pd_fetch 166 49 = some (.lstore 8, 51) := by decide +kernel
theorem pf_166_51 : pd_fetch 166 51 = some (.lload 5, 53) := by decide +kernel
theorem pf_166_53 : pd_fetch 166 53 = some (.lload 8, 55) := by decide +kernel
theorem pf_166_55 : pd_fetch 166 55 = some (.lload 8, 57) := by decide +kernel
theorem pf_166_57 : pd_fetch 166 57 = some (.lmul, 58) := by decide +kernel
theorem pf_166_58 : pd_fetch 166 58 = some (.ladd, 59) := by decide +kernel
theorem pf_166_59 : pd_fetch 166 59 = some (.lstore 5, 61) := by decide +kernel
theorem pf_166_61 : pd_fetch 166 61 = some (.iinc 7 1, 64) := by decide +kernel
theorem pf_166_64 : pd_fetch 166 64 = some (.goto (Int.ofNat 27), 67) := by decide +kernel
theorem pf_166_67 : pd_fetch 166 67 = some (.iload 4, 69) := by decide +kernel
theorem pf_166_69 : pd_fetch 166 69 = some (.ifCond .eq (Int.ofNat 79), 72) := by decide +kernel
theorem pf_166_72 : pd_fetch 166 72 = some (.lload 5, 74) := by decide +kernel
theorem pf_166_74 : pd_fetch 166 74 = some (.lload 2, 75) := by decide +kernel
theorem pf_166_75 : pd_fetch 166 75 = some (.lcmp, 76) := by decide +kernel
theorem pf_166_76 : pd_fetch 166 76 = some (.ifCond .ge (Int.ofNat 84), 79) := by decide +kernel
theorem pf_166_79 : pd_fetch 166 79 = some (.iload 4, 81) := by decide +kernel
theorem pf_166_81 : pd_fetch 166 81 = some (.goto (Int.ofNat 85), 84) := by decide +kernel
theorem pf_166_84 : pd_fetch 166 84 = some (.iload 1, 85) := by decide +kernel
theorem pf_166_85 : pd_fetch 166 85 = some (.istore 1, 86) := by decide +kernel
theorem pf_166_86 : pd_fetch 166 86 = some (.iload 4, 88) := by decide +kernel
theorem pf_166_88 : pd_fetch 166 88 = some (.ifCond .eq (Int.ofNat 98), 91) := by decide +kernel
theorem pf_166_91 : pd_fetch 166 91 = some (.lload 5, 93) := by decide +kernel
theorem pf_166_93 : pd_fetch 166 93 = some (.lload 2, 94) := by decide +kernel
theorem pf_166_94 : pd_fetch 166 94 = some (.lcmp, 95) := by decide +kernel
theorem pf_166_95 : pd_fetch 166 95 = some (.ifCond .ge (Int.ofNat 103), 98) := by decide +kernel
theorem pf_166_98 : pd_fetch 166 98 = some (.lload 5, 100) := by decide +kernel
theorem pf_166_100 : pd_fetch 166 100 = some (.goto (Int.ofNat 104), 103) := by decide +kernel
theorem pf_166_103 : pd_fetch 166 103 = some (.lload 2, 104) := by decide +kernel
theorem pf_166_104 : pd_fetch 166 104 = some (.lstore 2, 105) := by decide +kernel
theorem pf_166_105 : pd_fetch 166 105 = some (.iinc 4 1, 108) := by decide +kernel
theorem pf_166_108 : pd_fetch 166 108 = some (.goto (Int.ofNat 12), 111) := by decide +kernel
theorem pf_166_111 : pd_fetch 166 111 = some (.iload 1, 112) := by decide +kernel
theorem pf_166_112 : pd_fetch 166 112 = some (.ireturn, 113) := by decide +kernel
theorem pf_168_0 : pd_fetch 168 0 = some (.aload 0, 1) := by decide +kernel
theorem pf_168_1 : pd_fetch 168 1 = some (.aload 0, 2) := by decide +kernel
theorem pf_168_2 : pd_fetch 168 2 = some (.iload 1, 3) := by decide +kernel
theorem pf_168_3 : pd_fetch 168 3 = some (.invokevirtual 111, 6) := by decide +kernel
theorem pf_168_6 : pd_fetch 168 6 = some (.ifCond .eq (Int.ofNat 21), 9) := by decide +kernel
theorem pf_168_9 : pd_fetch 168 9 = some (.aload 0, 10) := by decide +kernel
theorem pf_168_10 : pd_fetch 168 10 = some (.iload 2, 11) := by decide +kernel
theorem pf_168_11 : pd_fetch 168 11 = some (.invokevirtual 111, 14) := by decide +kernel
theorem pf_168_14 : pd_fetch 168 14 = some (.ifCond .eq (Int.ofNat 21), 17) := by decide +kernel
theorem pf_168_17 : pd_fetch 168 17 = some (.iconst 0, 18) := by decide +kernel
theorem pf_168_18 : pd_fetch 168 18 = some (.goto (Int.ofNat 22), 21) := by decide +kernel
theorem pf_168_21 : pd_fetch 168 21 = some (.iconst 1, 22) := by decide +kernel
theorem pf_168_22 : pd_fetch 168 22 = some (.invokevirtual 108, 25) := by decide +kernel
theorem pf_168_25 : pd_fetch 168 25 = some (.ifCond .eq (Int.ofNat 30), 28) := by decide +kernel
theorem pf_168_28 : pd_fetch 168 28 = some (.jsr (0), 29) := by decide +kernel
theorem pf_168_29 : pd_fetch 168 29 = some (.lreturn, 30) := by decide +kernel
theorem pf_168_30 : pd_fetch 168 30 = some (.jsr (0), 31) := by decide +kernel
theorem pf_168_31 : pd_fetch 168 31 = some (.lstore 4, 33) := by decide +kernel
theorem pf_168_33 : pd_fetch 168 33 = some (.jsr (0), 34) := by decide +kernel
theorem pf_168_34 : pd_fetch 168 34 = some (.lstore 6, 36) := by decide +kernel
theorem pf_168_36 : pd_fetch 168 36 = some (.iconst 0, 37) := by decide +kernel
theorem pf_168_37 : pd_fetch 168 37 = some (.istore 8, 39) := by decide +kernel
theorem pf_168_39 : pd_fetch 168 39 = some (.iload 8, 41) := by decide +kernel
theorem pf_168_41 : pd_fetch 168 41 = some (.aload 0, 42) := by decide +kernel
theorem pf_168_42 : pd_fetch 168 42 = some (.getfield 607, 45) := by decide +kernel
theorem pf_168_45 : pd_fetch 168 45 = some (.if_icmp .ge (Int.ofNat 105), 48) := by decide +kernel
theorem pf_168_48 : pd_fetch 168 48 = some (.aload 0, 49) := by decide +kernel
theorem pf_168_49 : pd_fetch 168 49 = some (.aload 0, 50) := by decide +kernel
theorem pf_168_50 : pd_fetch 168 50 = some (.getfield 615, 53) := by decide +kernel
theorem pf_168_53 : pd_fetch 168 53 = some (.iload 8, 55) := by decide +kernel
theorem pf_168_55 : pd_fetch 168 55 = some (.iload 1, 56) := by decide +kernel
theorem pf_168_56 : pd_fetch 168 56 = some (.invokevirtual 114, 59) := by decide +kernel
theorem pf_168_59 : pd_fetch 168 59 = some (.i2l, 60) := by decide +kernel
theorem pf_168_60 : pd_fetch 168 60 = some (.lstore 9, 62) := by decide +kernel
theorem pf_168_62 : pd_fetch 168 62 = some (.aload 0, 63) := by decide +kernel
theorem pf_168_63 : pd_fetch 168 63 = some (.aload 0, 64) := by decide +kernel
theorem pf_168_64 : pd_fetch 168 64 = some (.getfield 615, 67) := by decide +kernel
theorem pf_168_67 : pd_fetch 168 67 = some (.iload 8, 69) := by decide +kernel
theorem pf_168_69 : pd_fetch 168 69 = some (.iload 2, 70) := by decide +kernel
theorem pf_168_70 : pd_fetch 168 70 = some (.invokevirtual 114, 73) := by decide +kernel
theorem pf_168_73 : pd_fetch 168 73 = some (.i2l, 74) := by decide +kernel
theorem pf_168_74 : pd_fetch 168 74 = some (.lload 9, 76) := by decide +kernel
theorem pf_168_76 : pd_fetch 168 76 = some (.lsub, 77) := by decide +kernel
theorem pf_168_77 : pd_fetch 168 77 = some (.lstore 11, 79) := by decide +kernel
theorem pf_168_79 : pd_fetch 168 79 = some (.lload 4, 81) := by decide +kernel
theorem pf_168_81 : pd_fetch 168 81 = some (.lload 9, 83) := by decide +kernel
theorem pf_168_83 : pd_fetch 168 83 = some (.lload 11, 85) := by decide +kernel
theorem pf_168_85 : pd_fetch 168 85 = some (.lmul, 86) := by decide +kernel
theorem pf_168_86 : pd_fetch 168 86 = some (.lsub, 87) := by decide +kernel
theorem pf_168_87 : pd_fetch 168 87 = some (.lstore 4, 89) := by decide +kernel
theorem pf_168_89 : pd_fetch 168 89 = some (.lload 6, 91) := by decide +kernel
theorem pf_168_91 : pd_fetch 168 91 = some (.lload 11, 93) := by decide +kernel
theorem pf_168_93 : pd_fetch 168 93 = some (.lload 11, 95) := by decide +kernel
theorem pf_168_95 : pd_fetch 168 95 = some (.lmul, 96) := by decide +kernel
theorem pf_168_96 : pd_fetch 168 96 = some (.ladd, 97) := by decide +kernel
theorem pf_168_97 : pd_fetch 168 97 = some (.lstore 6, 99) := by decide +kernel
theorem pf_168_99 : pd_fetch 168 99 = some (.iinc 8 1, 102) := by decide +kernel
theorem pf_168_102 : pd_fetch 168 102 = some (.goto (Int.ofNat 39), 105) := by decide +kernel
theorem pf_168_105 : pd_fetch 168 105 = some (.lload 4, 107) := by decide +kernel
theorem pf_168_107 : pd_fetch 168 107 = some (.jsr (0), 108) := by decide +kernel
theorem pf_168_108 : pd_fetch 168 108 = some (.lcmp, 109) := by decide +kernel
theorem pf_168_109 : pd_fetch 168 109 = some (.ifCond .gt (Int.ofNat 122), 112) := by decide +kernel
theorem pf_168_112 : pd_fetch 168 112 = some (.iload 3, 113) := by decide +kernel
theorem pf_168_113 : pd_fetch 168 113 = some (.ifCond .eq (Int.ofNat 120), 116) := by decide +kernel
theorem pf_168_116 : pd_fetch 168 116 = some (.jsr (0), 117) := by decide +kernel
theorem pf_168_117 : pd_fetch 168 117 = some (.goto (Int.ofNat 121), 120) := by decide +kernel
theorem pf_168_120 : pd_fetch 168 120 = some (.jsr (1), 121) := by decide +kernel
theorem pf_168_121 : pd_fetch 168 121 = some (.lreturn, 122) := by decide +kernel
theorem pf_168_122 : pd_fetch 168 122 = some (.lload 4, 124) := by decide +kernel
theorem pf_168_124 : pd_fetch 168 124 = some (.lload 6, 126) := by decide +kernel
theorem pf_168_126 : pd_fetch 168 126 = some (.lcmp, 127) := by decide +kernel
theorem pf_168_127 : pd_fetch 168 127 = some (.ifCond .lt (Int.ofNat 132), 130) := by decide +kernel
theorem pf_168_130 : pd_fetch 168 130 = some (.jsr (1), 131) := by decide +kernel
theorem pf_168_131 : pd_fetch 168 131 = some (.lreturn, 132) := by decide +kernel
theorem pf_168_132 : pd_fetch 168 132 = some (.lload 6, 134) := by decide +kernel
theorem pf_168_134 : pd_fetch 168 134 = some (.lload 4, 136) := by decide +kernel
theorem pf_168_136 : pd_fetch 168 136 = some (.invokestatic 167, 139) := by decide +kernel
theorem pf_168_139 : pd_fetch 168 139 = some (.lstore 8, 141) := by decide +kernel
theorem pf_168_141 : pd_fetch 168 141 = some (.iload 3, 142) := by decide +kernel
theorem pf_168_142 : pd_fetch 168 142 = some (.ifCond .eq (Int.ofNat 153), 145) := by decide +kernel
theorem pf_168_145 : pd_fetch 168 145 = some (.lload 4, 147) := by decide +kernel
theorem pf_168_147 : pd_fetch 168 147 = some (.lload 8, 149) := by decide +kernel
theorem pf_168_149 : pd_fetch 168 149 = some (.ldiv, 150) := by decide +kernel
theorem pf_168_150 : pd_fetch 168 150 = some (.goto (Int.ofNat 158), 153) := by decide +kernel
theorem pf_168_153 : pd_fetch 168 153 = some (.lload 6, 155) := by decide +kernel
theorem pf_168_155 : pd_fetch 168 155 = some (.lload 8, 157) := by decide +kernel
theorem pf_168_157 : pd_fetch 168 157 = some (.ldiv, 158) := by decide +kernel
theorem pf_168_158 : pd_fetch 168 158 = some (.lreturn, 159) := by decide +kernel
theorem pf_170_0 : pd_fetch 170 0 = some (.aload 0, 1) := by decide +kernel
theorem pf_170_1 : pd_fetch 170 1 = some (.iload 1, 2) := by decide +kernel
theorem pf_170_2 : pd_fetch 170 2 = some (.i2l, 3) := by decide +kernel
theorem pf_170_3 : pd_fetch 170 3 = some (.jsr (0), 4) := by decide +kernel
theorem pf_170_4 : pd_fetch 170 4 = some (.jsr (2), 7) := by decide +kernel
theorem pf_170_7 : pd_fetch 170 7 = some (.invokestatic 109, 10) := by decide +kernel
theorem pf_170_10 : pd_fetch 170 10 = some (.ifCond .eq (Int.ofNat 23), 13) := by decide +kernel
theorem pf_170_13 : pd_fetch 170 13 = some (.lload 2, 14) := by decide +kernel
theorem pf_170_14 : pd_fetch 170 14 = some (.jsr (0), 15) := by decide +kernel
theorem pf_170_15 : pd_fetch 170 15 = some (.lcmp, 16) := by decide +kernel
theorem pf_170_16 : pd_fetch 170 16 = some (.ifCond .lt (Int.ofNat 23), 19) := by decide +kernel
theorem pf_170_19 : pd_fetch 170 19 = some (.iconst 0, 20) := by decide +kernel
theorem pf_170_20 : pd_fetch 170 20 = some (.goto (Int.ofNat 24), 23) := by decide +kernel
theorem pf_170_23 : pd_fetch 170 23 = some (.iconst 1, 24) := by decide +kernel
theorem pf_170_24 : pd_fetch 170 24 = some (.invokevirtual 108, 27) := by decide +kernel
theorem pf_170_27 : pd_fetch 170 27 = some (.ifCond .eq (Int.ofNat 32), 30) := by decide +kernel
theorem pf_170_30 : pd_fetch 170 30 = some (.iconst 0, 31) := by decide +kernel
theorem pf_170_31 : pd_fetch 170 31 = some (.ireturn, 32) := by decide +kernel
theorem pf_170_32 : pd_fetch 170 32 = some (.aload 0, 33) := by decide +kernel
theorem pf_170_33 : pd_fetch 170 33 = some (.getfield 615, 36) := by decide +kernel
theorem pf_170_36 : pd_fetch 170 36 = some (.iconst 0, 37) := by decide +kernel
theorem pf_170_37 : pd_fetch 170 37 = some (.aload 0, 38) := by decide +kernel
theorem pf_170_38 : pd_fetch 170 38 = some (.getfield 616, 41) := by decide +kernel
theorem pf_170_41 : pd_fetch 170 41 = some (.iconst 0, 42) := by decide +kernel
theorem pf_170_42 : pd_fetch 170 42 = some (.invokestatic 110, 45) := by decide +kernel
theorem pf_170_45 : pd_fetch 170 45 = some (.iconst 0, 46) := by decide +kernel
theorem pf_170_46 : pd_fetch 170 46 = some (.istore 4, 48) := by decide +kernel
theorem pf_170_48 : pd_fetch 170 48 = some (.iload 4, 50) := by decide +kernel
theorem pf_170_50 : pd_fetch 170 50 = some (.iconst 50, 52) := by decide +kernel
theorem pf_170_52 : pd_fetch 170 52 = some (.if_icmp .gt (Int.ofNat 101), 55) := by decide +kernel
theorem pf_170_55 : pd_fetch 170 55 = some (.aload 0, 56) := by decide +kernel
theorem pf_170_56 : pd_fetch 170 56 = some (.aload 0, 57) := by decide +kernel
theorem pf_170_57 : pd_fetch 170 57 = some (.getfield 616, 60) := by decide +kernel
theorem pf_170_60 : pd_fetch 170 60 = some (.invokevirtual 120, 63) := by decide +kernel
theorem pf_170_63 : pd_fetch 170 63 = some (.lload 2, 64) := by decide +kernel
theorem pf_170_64 : pd_fetch 170 64 = some (.lcmp, 65) := by decide +kernel
theorem pf_170_65 : pd_fetch 170 65 = some (.ifCond .gt (Int.ofNat 71), 68) := by decide +kernel
theorem pf_170_68 : pd_fetch 170 68 = some (.iload 4, 70) := by decide +kernel
theorem pf_170_70 : pd_fetch 170 70 = some (.ireturn, 71) := by decide +kernel
theorem pf_170_71 : pd_fetch 170 71 = some (.iload 4, 73) := by decide +kernel
theorem pf_170_73 : pd_fetch 170 73 = some (.iconst 50, 75) := by decide +kernel
theorem pf_170_75 : pd_fetch 170 75 = some (.if_icmp .ge (Int.ofNat 95), 78) := by decide +kernel
theorem pf_170_78 : pd_fetch 170 78 = some (.aload 0, 79) := by decide +kernel
theorem pf_170_79 : pd_fetch 170 79 = some (.aload 0, 80) := by decide +kernel
theorem pf_170_80 : pd_fetch 170 80 = some (.getfield 616, 83) := by decide +kernel
theorem pf_170_83 : pd_fetch 170 83 = some (.iload 1, 84) := by decide +kernel
theorem pf_170_84 : pd_fetch 170 84 = some (.invokevirtual 124, 87) := by decide +kernel
theorem pf_170_87 : pd_fetch 170 87 = some (.iconst (-9), 89) := by decide +kernel
theorem pf_170_89 : pd_fetch 170 89 = some (.if_icmp .ne (Int.ofNat 95), 92) := by decide +kernel
theorem pf_170_92 : pd_fetch 170 92 = some (.iconst (-9), 94) := by decide +kernel
theorem pf_170_94 : pd_fetch 170 94 = some (.ireturn, 95) := by decide +kernel
theorem pf_170_95 : pd_fetch 170 95 = some (.iinc 4 1, 98) := by decide +kernel
theorem pf_170_98 : pd_fetch 170 98 = some (.goto (Int.ofNat 48), 101) := by decide +kernel
theorem pf_170_101 : pd_fetch 170 101 = some (.iconst (-9), 103) := by decide +kernel
theorem pf_170_103 : pd_fetch 170 103 = some (.ireturn, 104) := by decide +kernel
theorem pf_172_0 : pd_fetch 172 0 = some (.iload 1, 1) := by decide +kernel
theorem pf_172_1 : pd_fetch 172 1 = some (.tableswitch (Int.ofNat 233) 1 8 #[Int.ofNat 48, Int.ofNat 55, Int.ofNat 79, Int.ofNat 112, Int.ofNat 133, Int.ofNat 155, Int.ofNat 185, Int.ofNat 212], 48) := by decide +kernel
theorem pf_172_48 : pd_fetch 172 48 = some (.aload 0, 49) := by decide +kernel
theorem pf_172_49 : pd_fetch 172 49 = some (.iload 2, 50) := by decide +kernel
theorem pf_172_50 : pd_fetch 172 50 = some (.iload 3, 51) := by decide +kernel
theorem pf_172_51 : pd_fetch 172 51 = some (.invokevirtual 171, 54) := by decide +kernel
theorem pf_172_54 : pd_fetch 172 54 = some (.ireturn, 55) := by decide +kernel
theorem pf_172_55 : pd_fetch 172 55 = some (.iload 2, 56) := by decide +kernel
theorem pf_172_56 : pd_fetch 172 56 = some (.ifCond .ne (Int.ofNat 67), 59) := by decide +kernel
theorem pf_172_59 : pd_fetch 172 59 = some (.aload 0, 60) := by decide +kernel
theorem pf_172_60 : pd_fetch 172 60 = some (.iload 3, 61) := by decide +kernel
theorem pf_172_61 : pd_fetch 172 61 = some (.invokevirtual 111, 64) := by decide +kernel
theorem pf_172_64 : pd_fetch 172 64 = some (.ifCond .ne (Int.ofNat 69), 67) := by decide +kernel
theorem pf_172_67 : pd_fetch 172 67 = some (.iconst 0, 68) := by decide +kernel
theorem pf_172_68 : pd_fetch 172 68 = some (.ireturn, 69) := by decide +kernel
theorem pf_172_69 : pd_fetch 172 69 = some (.aload 0, 70) := by decide +kernel
theorem pf_172_70 : pd_fetch 172 70 = some (.getfield 616, 73) := by decide +kernel
theorem pf_172_73 : pd_fetch 172 73 = some (.iload 3, 74) := by decide +kernel
theorem pf_172_74 : pd_fetch 172 74 = some (.invokestatic 126, 77) := by decide +kernel
theorem pf_172_77 : pd_fetch 172 77 = some (.iconst 1, 78) := by decide +kernel
theorem pf_172_78 : pd_fetch 172 78 = some (.ireturn, 79) := by decide +kernel
theorem pf_172_79 : pd_fetch 172 79 = some (.iload 2, 80) := by decide +kernel
theorem pf_172_80 : pd_fetch 172 80 = some (.aload 0, 81) := by decide +kernel
theorem pf_172_81 : pd_fetch 172 81 = some (.getfield 616, 84) := by decide +kernel
theorem pf_172_84 : pd_fetch 172 84 = some (.iconst 68, 86) := by decide +kernel
theorem pf_172_86 : pd_fetch 172 86 = some (.iaload, 87) := by decide +kernel
theorem pf_172_87 : pd_fetch 172 87 = some (.if_icmp .ge (Int.ofNat 98), 90) := by decide +kernel
theorem pf_172_90 : pd_fetch 172 90 = some (.aload 0, 91) := by decide +kernel
theorem pf_172_91 : pd_fetch 172 91 = some (.iload 3, 92) := by decide +kernel
theorem pf_172_92 : pd_fetch 172 92 = some (.invokevirtual 111, 95) := by decide +kernel
theorem pf_172_95 : pd_fetch 172 95 = some (.ifCond .ne (Int.ofNat 100), 98) := by decide +kernel
theorem pf_172_98 : pd_fetch 172 98 = some (.iconst 0, 99) := by decide +kernel
theorem pf_172_99 : pd_fetch 172 99 = some (.ireturn, 100) := by decide +kernel
theorem pf_172_100 : pd_fetch 172 100 = some (.aload 0, 101) := by decide +kernel
theorem pf_172_101 : pd_fetch 172 101 = some (.getfield 616, 104) := by decide +kernel
theorem pf_172_104 : pd_fetch 172 104 = some (.iload 2, 105) := by decide +kernel
theorem pf_172_105 : pd_fetch 172 105 = some (.iload 3, 106) := by decide +kernel
theorem pf_172_106 : pd_fetch 172 106 = some (.iconst 1, 107) := by decide +kernel
theorem pf_172_107 : pd_fetch 172 107 = some (.invokestatic 125, 110) := by decide +kernel
theorem pf_172_110 : pd_fetch 172 110 = some (.iconst 1, 111) := by decide +kernel
theorem pf_172_111 : pd_fetch 172 111 = some (.ireturn, 112) := by decide +kernel
theorem pf_172_112 : pd_fetch 172 112 = some (.iload 2, 113) := by decide +kernel
theorem pf_172_113 : pd_fetch 172 113 = some (.ifCond .ne (Int.ofNat 131), 116) := by decide +kernel
theorem pf_172_116 : pd_fetch 172 116 = some (.aload 0, 117) := by decide +kernel
theorem pf_172_117 : pd_fetch 172 117 = some (.getfield 616, 120) := by decide +kernel
theorem pf_172_120 : pd_fetch 172 120 = some (.iconst 68, 122) := by decide +kernel
theorem pf_172_122 : pd_fetch 172 122 = some (.iaload, 123) := by decide +kernel
theorem pf_172_123 : pd_fetch 172 123 = some (.iload 3, 124) := by decide +kernel
theorem pf_172_124 : pd_fetch 172 124 = some (.if_icmp .ne (Int.ofNat 131), 127) := by decide +kernel
theorem pf_172_127 : pd_fetch 172 127 = some (.iconst 1, 128) := by decide +kernel
theorem pf_172_128 : pd_fetch 172 128 = some (.goto (Int.ofNat 132), 131) := by decide +kernel
theorem pf_172_131 : pd_fetch 172 131 = some (.iconst 0, 132) := by decide +kernel
theorem pf_172_132 : pd_fetch 172 132 = some (.ireturn, 133) := by decide +kernel
theorem pf_172_133 : pd_fetch 172 133 = some (.iload 2, 134) := by decide +kernel
theorem pf_172_134 : pd_fetch 172 134 = some (.ifCond .ne (Int.ofNat 153), 137) := by decide +kernel
theorem pf_172_137 : pd_fetch 172 137 = some (.aload 0, 138) := by decide +kernel
theorem pf_172_138 : pd_fetch 172 138 = some (.aload 0, 139) := by decide +kernel
theorem pf_172_139 : pd_fetch 172 139 = some (.getfield 616, 142) := by decide +kernel
theorem pf_172_142 : pd_fetch 172 142 = some (.invokevirtual 118, 145) := by decide +kernel
theorem pf_172_145 : pd_fetch 172 145 = some (.iload 3, 146) := by decide +kernel
theorem pf_172_146 : pd_fetch 172 146 = some (.if_icmp .ne (Int.ofNat 153), 149) := by decide +kernel
theorem pf_172_149 : pd_fetch 172 149 = some (.iconst 1, 150) := by decide +kernel
theorem pf_172_150 : pd_fetch 172 150 = some (.goto (Int.ofNat 154), 153) := by decide +kernel
theorem pf_172_153 : pd_fetch 172 153 = some (.iconst 0, 154) := by decide +kernel
theorem pf_172_154 : pd_fetch 172 154 = some (.ireturn, 155) := by decide +kernel
theorem pf_172_155 : pd_fetch 172 155 = some (.iload 2, 156) := by decide +kernel
theorem pf_172_156 : pd_fetch 172 156 = some (.aload 0, 157) := by decide +kernel
theorem pf_172_157 : pd_fetch 172 157 = some (.getfield 616, 160) := by decide +kernel
theorem pf_172_160 : pd_fetch 172 160 = some (.iconst 68, 162) := by decide +kernel
theorem pf_172_162 : pd_fetch 172 162 = some (.iaload, 163) := by decide +kernel
theorem pf_172_163 : pd_fetch 172 163 = some (.if_icmp .ge (Int.ofNat 183), 166) := by decide +kernel
theorem pf_172_166 : pd_fetch 172 166 = some (.aload 0, 167) := by decide +kernel
theorem pf_172_167 : pd_fetch 172 167 = some (.getfield 616, 170) := by decide +kernel
theorem pf_172_170 : pd_fetch 172 170 = some (.iconst 44, 172) := by decide +kernel
theorem pf_172_172 : pd_fetch 172 172 = some (.iload 2, 173) := by decide +kernel
theorem pf_172_173 : pd_fetch 172 173 = some (.iadd, 174) := by decide +kernel
theorem pf_172_174 : pd_fetch 172 174 = some (.iaload, 175) := by decide +kernel
theorem pf_172_175 : pd_fetch 172 175 = some (.iload 3, 176) := by decide +kernel
theorem pf_172_176 : pd_fetch 172 176 = some (.if_icmp .lt (Int.ofNat 183), 179) := by decide +kernel
theorem pf_172_179 : pd_fetch 172 179 = some (.iconst 1, 180) := by decide +kernel
theorem pf_172_180 : pd_fetch 172 180 = some (.goto (Int.ofNat 184), 183) := by decide +kernel
theorem pf_172_183 : pd_fetch 172 183 = some (.iconst 0, 184) := by decide +kernel
theorem pf_172_184 : pd_fetch 172 184 = some (.ireturn, 185) := by decide +kernel
theorem pf_172_185 : pd_fetch 172 185 = some (.iload 2, 186) := by decide +kernel
theorem pf_172_186 : pd_fetch 172 186 = some (.ifCond .ne (Int.ofNat 210), 189) := by decide +kernel
theorem pf_172_189 : pd_fetch 172 189 = some (.iload 3, 190) := by decide +kernel
theorem pf_172_190 : pd_fetch 172 190 = some (.ifCond .ne (Int.ofNat 210), 193) := by decide +kernel
theorem pf_172_193 : pd_fetch 172 193 = some (.aload 0, 194) := by decide +kernel
theorem pf_172_194 : pd_fetch 172 194 = some (.aload 0, 195) := by decide +kernel
theorem pf_172_195 : pd_fetch 172 195 = some (.getfield 616, 198) := by decide +kernel
theorem pf_172_198 : pd_fetch 172 198 = some (.invokevirtual 120, 201) := by decide +kernel
theorem pf_172_201 : pd_fetch 172 201 = some (.jsr (0), 202) := by decide +kernel
theorem pf_172_202 : pd_fetch 172 202 = some (.lcmp, 203) := by decide +kernel
theorem pf_172_203 : pd_fetch 172 203 = some (.ifCond .ne (Int.ofNat 210), 206) := by decide +kernel
theorem pf_172_206 : pd_fetch 172 206 = some (.iconst 1, 207) := by decide +kernel
theorem pf_172_207 : pd_fetch 172 207 = some (.goto (Int.ofNat 211), 210) := by decide +kernel
theorem pf_172_210 : pd_fetch 172 210 = some (.iconst 0, 211) := by decide +kernel
theorem pf_172_211 : pd_fetch 172 211 = some (.ireturn, 212) := by decide +kernel
theorem pf_172_212 : pd_fetch 172 212 = some (.iload 2, 213) := by decide +kernel
theorem pf_172_213 : pd_fetch 172 213 = some (.ifCond .ne (Int.ofNat 231), 216) := by decide +kernel
theorem pf_172_216 : pd_fetch 172 216 = some (.aload 0, 217) := by decide +kernel
theorem pf_172_217 : pd_fetch 172 217 = some (.getfield 616, 220) := by decide +kernel
theorem pf_172_220 : pd_fetch 172 220 = some (.iconst 70, 222) := by decide +kernel
theorem pf_172_222 : pd_fetch 172 222 = some (.iaload, 223) := by decide +kernel
theorem pf_172_223 : pd_fetch 172 223 = some (.iload 3, 224) := by decide +kernel
theorem pf_172_224 : pd_fetch 172 224 = some (.if_icmp .ne (Int.ofNat 231), 227) := by decide +kernel
theorem pf_172_227 : pd_fetch 172 227 = some (.iconst 1, 228) := by decide +kernel
theorem pf_172_228 : pd_fetch 172 228 = some (.goto (Int.ofNat 232), 231) := by decide +kernel
theorem pf_172_231 : pd_fetch 172 231 = some (.iconst 0, 232) := by decide +kernel
theorem pf_172_232 : pd_fetch 172 232 = some (.ireturn, 233) := by decide +kernel
theorem pf_172_233 : pd_fetch 172 233 = some (.iconst 0, 234) := by decide +kernel
theorem pf_172_234 : pd_fetch 172 234 = some (.ireturn, 235) := by decide +kernel
theorem pf_174_0 : pd_fetch 174 0 = some (.aload 0, 1) := by decide +kernel
theorem pf_174_1 : pd_fetch 174 1 = some (.iload 1, 2) := by decide +kernel
theorem pf_174_2 : pd_fetch 174 2 = some (.i2l, 3) := by decide +kernel
theorem pf_174_3 : pd_fetch 174 3 = some (.jsr (1), 4) := by decide +kernel
theorem pf_174_4 : pd_fetch 174 4 = some (.jsr (4), 7) := by decide +kernel
theorem pf_174_7 : pd_fetch 174 7 = some (.invokestatic 109, 10) := by decide +kernel
theorem pf_174_10 : pd_fetch 174 10 = some (.ifCond .eq (Int.ofNat 33), 13) := by decide +kernel
theorem pf_174_13 : pd_fetch 174 13 = some (.lload 2, 14) := by decide +kernel
theorem pf_174_14 : pd_fetch 174 14 = some (.jsr (0), 15) := by decide +kernel
theorem pf_174_15 : pd_fetch 174 15 = some (.iconst 4, 16) := by decide +kernel
theorem pf_174_16 : pd_fetch 174 16 = some (.iload 1, 17) := by decide +kernel
theorem pf_174_17 : pd_fetch 174 17 = some (.imul, 18) := by decide +kernel
theorem pf_174_18 : pd_fetch 174 18 = some (.invokestatic 173, 21) := by decide +kernel
theorem pf_174_21 : pd_fetch 174 21 = some (.jsr (1), 22) := by decide +kernel
theorem pf_174_22 : pd_fetch 174 22 = some (.lsub, 23) := by decide +kernel
theorem pf_174_23 : pd_fetch 174 23 = some (.invokestatic 109, 26) := by decide +kernel
theorem pf_174_26 : pd_fetch 174 26 = some (.ifCond .eq (Int.ofNat 33), 29) := by decide +kernel
theorem pf_174_29 : pd_fetch 174 29 = some (.iconst 0, 30) := by decide +kernel
theorem pf_174_30 : pd_fetch 174 30 = some (.goto (Int.ofNat 34), 33) := by decide +kernel
theorem pf_174_33 : pd_fetch 174 33 = some (.iconst 1, 34) := by decide +kernel
theorem pf_174_34 : pd_fetch 174 34 = some (.invokevirtual 108, 37) := by decide +kernel
theorem pf_174_37 : pd_fetch 174 37 = some (.ifCond .eq (Int.ofNat 42), 40) := by decide +kernel
theorem pf_174_40 : pd_fetch 174 40 = some (.iconst 0, 41) := by decide +kernel
theorem pf_174_41 : pd_fetch 174 41 = some (.ireturn, 42) := by decide +kernel
theorem pf_174_42 : pd_fetch 174 42 = some (.aload 0, 43) := by decide +kernel
theorem pf_174_43 : pd_fetch 174 43 = some (.getfield 615, 46) := by decide +kernel
theorem pf_174_46 : pd_fetch 174 46 = some (.iconst 0, 47) := by decide +kernel
theorem pf_174_47 : pd_fetch 174 47 = some (.aload 0, 48) := by decide +kernel
theorem pf_174_48 : pd_fetch 174 48 = some (.getfield 616, 51) := by decide +kernel
theorem pf_174_51 : pd_fetch 174 51 = some (.iconst 0, 52) := by decide +kernel
theorem pf_174_52 : pd_fetch 174 52 = some (.invokestatic 110, 55) := by decide +kernel
theorem pf_174_55 : pd_fetch 174 55 = some (.iconst 0, 56) := by decide +kernel
theorem pf_174_56 : pd_fetch 174 56 = some (.istore 4, 58) := by decide +kernel
theorem pf_174_58 : pd_fetch 174 58 = some (.iload 4, 60) := by decide +kernel
theorem pf_174_60 : pd_fetch 174 60 = some (.iload 1, 61) := by decide +kernel
theorem pf_174_61 : pd_fetch 174 61 = some (.if_icmp .ge (Int.ofNat 119), 64) := by decide +kernel
theorem pf_174_64 : pd_fetch 174 64 = some (.lload 2, 65) := by decide +kernel
theorem pf_174_65 : pd_fetch 174 65 = some (.iconst 4, 66) := by decide +kernel
theorem pf_174_66 : pd_fetch 174 66 = some (.iload 1, 67) := by decide +kernel
theorem pf_174_67 : pd_fetch 174 67 = some (.iconst 1, 68) := by decide +kernel
theorem pf_174_68 : pd_fetch 174 68 = some (.isub, 69) := by decide +kernel
theorem pf_174_69 : pd_fetch 174 69 = some (.iload 4, 71) := by decide +kernel
theorem pf_174_71 : pd_fetch 174 71 = some (.isub, 72) := by decide +kernel
theorem pf_174_72 : pd_fetch 174 72 = some (.imul, 73) := by decide +kernel
theorem pf_174_73 : pd_fetch 174 73 = some (.invokestatic 173, 76) := by decide +kernel
theorem pf_174_76 : pd_fetch 174 76 = some (.ldiv, 77) := by decide +kernel
theorem pf_174_77 : pd_fetch 174 77 = some (.jsr (10000), 80) := by decide +kernel
theorem pf_174_80 : pd_fetch 174 80 = some (.lrem, 81) := by decide +kernel
theorem pf_174_81 : pd_fetch 174 81 = some (.l2i, 82) := by decide +kernel
theorem pf_174_82 : pd_fetch 174 82 = some (.istore 5, 84) := by decide +kernel
theorem pf_174_84 : pd_fetch 174 84 = some (.aload 0, 85) := by decide +kernel
theorem pf_174_85 : pd_fetch 174 85 = some (.iload 5, 87) := by decide +kernel
theorem pf_174_87 : pd_fetch 174 87 = some (.iconst 1000, 90) := by decide +kernel
theorem pf_174_90 : pd_fetch 174 90 = some (.idiv, 91) := by decide +kernel
theorem pf_174_91 : pd_fetch 174 91 = some (.iload 5, 93) := by decide +kernel
theorem pf_174_93 : pd_fetch 174 93 = some (.iconst 100, 95) := by decide +kernel
theorem pf_174_95 : pd_fetch 174 95 = some (.idiv, 96) := by decide +kernel
theorem pf_174_96 : pd_fetch 174 96 = some (.iconst 10, 98) := by decide +kernel
theorem pf_174_98 : pd_fetch 174 98 = some (.irem, 99) := by decide +kernel
theorem pf_174_99 : pd_fetch 174 99 = some (.iload 5, 101) := by decide +kernel
theorem pf_174_101 : pd_fetch 174 101 = some (.iconst 100, 103) := by decide +kernel
theorem pf_174_103 : pd_fetch 174 103 = some (.irem, 104) := by decide +kernel
theorem pf_174_104 : pd_fetch 174 104 = some (.invokevirtual 172, 107) := by decide +kernel
theorem pf_174_107 : pd_fetch 174 107 = some (.ifCond .ne (Int.ofNat 113), 110) := by decide +kernel
theorem pf_174_110 : pd_fetch 174 110 = some (.iload 4, 112) := by decide +kernel
theorem pf_174_112 : pd_fetch 174 112 = some (.ireturn, 113) := by decide +kernel
theorem pf_174_113 : pd_fetch 174 113 = some (.iinc 4 1, 116) := by decide +kernel
theorem pf_174_116 : pd_fetch 174 116 = some (.goto (Int.ofNat 58), 119) := by decide +kernel
theorem pf_174_119 : pd_fetch 174 119 = some (.iconst (-9), 121) := by decide +kernel
theorem pf_174_121 : pd_fetch 174 121 = some (.ireturn, 122) := by decide +kernel
theorem pf_176_0 : pd_fetch 176 0 = some (.aload 0, 1) := by decide +kernel
theorem pf_176_1 : pd_fetch 176 1 = some (.iload 1, 2) := by decide +kernel
theorem pf_176_2 : pd_fetch 176 2 = some (.i2l, 3) := by decide +kernel
theorem pf_176_3 : pd_fetch 176 3 = some (.jsr (0), 4) := by decide +kernel
theorem pf_176_4 : pd_fetch 176 4 = some (.jsr (1), 5) := by decide +kernel
theorem pf_176_5 : pd_fetch 176 5 = some (.invokestatic 109, 8) := by decide +kernel
theorem pf_176_8 : pd_fetch 176 8 = some (.ifCond .eq (Int.ofNat 15), 11) := by decide +kernel
theorem pf_176_11 : pd_fetch 176 11 = some (.iconst 0, 12) := by decide +kernel
theorem pf_176_12 : pd_fetch 176 12 = some (.goto (Int.ofNat 16), 15) := by decide +kernel
theorem pf_176_15 : pd_fetch 176 15 = some (.iconst 1, 16) := by decide +kernel
theorem pf_176_16 : pd_fetch 176 16 = some (.invokevirtual 108, 19) := by decide +kernel
theorem pf_176_19 : pd_fetch 176 19 = some (.ifCond .eq (Int.ofNat 24), 22) := by decide +kernel
theorem pf_176_22 : pd_fetch 176 22 = some (.iconst 0, 23) := by decide +kernel
theorem pf_176_23 : pd_fetch 176 23 = some (.ireturn, 24) := by decide +kernel
theorem pf_176_24 : pd_fetch 176 24 = some (.aload 0, 25) := by decide +kernel
theorem pf_176_25 : pd_fetch 176 25 = some (.getfield 620, 28) := by decide +kernel
theorem pf_176_28 : pd_fetch 176 28 = some (.iload 1, 29) := by decide +kernel
theorem pf_176_29 : pd_fetch 176 29 = some (.iconst 1, 30) := by decide +kernel
theorem pf_176_30 : pd_fetch 176 30 = some (.bastore, 31) := by decide +kernel
theorem pf_176_31 : pd_fetch 176 31 = some (.aload 0, 32) := by decide +kernel
theorem pf_176_32 : pd_fetch 176 32 = some (.getfield 615, 35) := by decide +kernel
theorem pf_176_35 : pd_fetch 176 35 = some (.iconst 0, 36) := by decide +kernel
theorem pf_176_36 : pd_fetch 176 36 = some (.aload 0, 37) := by decide +kernel
theorem pf_176_37 : pd_fetch 176 37 = some (.getfield 619, 40) := by decide +kernel
theorem pf_176_40 : pd_fetch 176 40 = some (.iconst 72, 42) := by decide +kernel
theorem pf_176_42 : pd_fetch 176 42 = some (.iload 1, 43) := by decide +kernel
theorem pf_176_43 : pd_fetch 176 43 = some (.imul, 44) := by decide +kernel
theorem pf_176_44 : pd_fetch 176 44 = some (.invokestatic 110, 47) := by decide +kernel
theorem pf_176_47 : pd_fetch 176 47 = some (.aload 0, 48) := by decide +kernel
theorem pf_176_48 : pd_fetch 176 48 = some (.getfield 615, 51) := by decide +kernel
theorem pf_176_51 : pd_fetch 176 51 = some (.iconst 68, 53) := by decide +kernel
theorem pf_176_53 : pd_fetch 176 53 = some (.iaload, 54) := by decide +kernel
theorem pf_176_54 : pd_fetch 176 54 = some (.ireturn, 55) := by decide +kernel
