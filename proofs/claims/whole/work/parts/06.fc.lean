theorem pf_62_0 : pd_fetch 62 0 = some (.aload 0, 1) := by decide +kernel
theorem pf_62_1 : pd_fetch 62 1 = some (.invokespecial 1000, 4) := by decide +kernel
theorem pf_62_4 : pd_fetch 62 4 = some (.aload 0, 5) := by decide +kernel
theorem pf_62_5 : pd_fetch 62 5 = some (.iconst 90, 7) := by decide +kernel
theorem pf_62_7 : pd_fetch 62 7 = some (.newarray .int, 9) := by decide +kernel
theorem pf_62_9 : pd_fetch 62 9 = some (.putfield 500, 12) := by decide +kernel
theorem pf_62_12 : pd_fetch 62 12 = some (.aload 0, 13) := by decide +kernel
theorem pf_62_13 : pd_fetch 62 13 = some (.iconst 0, 14) := by decide +kernel
theorem pf_62_14 : pd_fetch 62 14 = some (.putfield 501, 17) := by decide +kernel
theorem pf_62_17 : pd_fetch 62 17 = some (.aload 0, 18) := by decide +kernel
theorem pf_62_18 : pd_fetch 62 18 = some (.new 3, 21) := by decide +kernel
theorem pf_62_21 : pd_fetch 62 21 = some (.dup, 22) := by decide +kernel
theorem pf_62_22 : pd_fetch 62 22 = some (.aload 0, 23) := by decide +kernel
theorem pf_62_23 : pd_fetch 62 23 = some (.getfield 500, 26) := by decide +kernel
theorem pf_62_26 : pd_fetch 62 26 = some (.invokespecial 40, 29) := by decide +kernel
theorem pf_62_29 : pd_fetch 62 29 = some (.putfield 502, 32) := by decide +kernel
theorem pf_62_32 : pd_fetch 62 32 = some (.aload 0, 33) := by decide +kernel
theorem pf_62_33 : pd_fetch 62 33 = some (.new 2, 36) := by decide +kernel
theorem pf_62_36 : pd_fetch 62 36 = some (.dup, 37) := by decide +kernel
theorem pf_62_37 : pd_fetch 62 37 = some (.invokespecial 25, 40) := by decide +kernel
theorem pf_62_40 : pd_fetch 62 40 = some (.putfield 503, 43) := by decide +kernel
theorem pf_62_43 : pd_fetch 62 43 = some (.aload 0, 44) := by decide +kernel
theorem pf_62_44 : pd_fetch 62 44 = some (.iconst 4, 45) := by decide +kernel
theorem pf_62_45 : pd_fetch 62 45 = some (.newarray .int, 47) := by decide +kernel
theorem pf_62_47 : pd_fetch 62 47 = some (.putfield 510, 50) := by decide +kernel
theorem pf_62_50 : pd_fetch 62 50 = some (.aload 0, 51) := by decide +kernel
theorem pf_62_51 : pd_fetch 62 51 = some (.getfield 510, 54) := by decide +kernel
theorem pf_62_54 : pd_fetch 62 54 = some (.iconst 0, 55) := by decide +kernel
theorem pf_62_55 : pd_fetch 62 55 = some (.iconst 1, 56) := by decide +kernel
theorem pf_62_56 : pd_fetch 62 56 = some (.iastore, 57) := by decide +kernel
theorem pf_62_57 : pd_fetch 62 57 = some (.aload 0, 58) := by decide +kernel
theorem pf_62_58 : pd_fetch 62 58 = some (.getfield 503, 61) := by decide +kernel
theorem pf_62_61 : pd_fetch 62 61 = some (.iconst 1, 62) := by decide +kernel
theorem pf_62_62 : pd_fetch 62 62 = some (.iconst 0, 63) := by decide +kernel
theorem pf_62_63 : pd_fetch 62 63 = some (.invokevirtual 26, 66) := by decide +kernel
theorem pf_62_66 : pd_fetch 62 66 = some (.aload 0, 67) := by decide +kernel
theorem pf_62_67 : pd_fetch 62 67 = some (.getfield 503, 70) := by decide +kernel
theorem pf_62_70 : pd_fetch 62 70 = some (.aload 0, 71) := by decide +kernel
theorem pf_62_71 : pd_fetch 62 71 = some (.getfield 510, 74) := by decide +kernel
theorem pf_62_74 : pd_fetch 62 74 = some (.invokevirtual 33, 77) := by decide +kernel
theorem pf_62_77 : pd_fetch 62 77 = some (.aload 0, 78) := by decide +kernel
theorem pf_62_78 : pd_fetch 62 78 = some (.new 0, 81) := by decide +kernel
theorem pf_62_81 : pd_fetch 62 81 = some (.dup, 82) := by decide +kernel
theorem pf_62_82 : pd_fetch 62 82 = some (.aload 0, 83) := by decide +kernel
theorem pf_62_83 : pd_fetch 62 83 = some (.getfield 503, 86) := by decide +kernel
theorem pf_62_86 : pd_fetch 62 86 = some (.invokespecial 0, 89) := by decide +kernel
theorem pf_62_89 : pd_fetch 62 89 = some (.putfield 504, 92) := by decide +kernel
theorem pf_62_92 : pd_fetch 62 92 = some (.aload 0, 93) := by decide +kernel
theorem pf_62_93 : pd_fetch 62 93 = some (.new 4, 96) := by decide +kernel
theorem pf_62_96 : pd_fetch 62 96 = some (.dup, 97) := by decide +kernel
theorem pf_62_97 : pd_fetch 62 97 = some (.invokespecial 51, 100) := by decide +kernel
theorem pf_62_100 : pd_fetch 62 100 = some (.putfield 505, 103) := by decide +kernel
theorem pf_62_103 : pd_fetch 62 103 = some (.aload 0, 104) := by decide +kernel
theorem pf_62_104 : pd_fetch 62 104 = some (.getfield 505, 107) := by decide +kernel
theorem pf_62_107 : pd_fetch 62 107 = some (.iconst 1, 108) := by decide +kernel
theorem pf_62_108 : pd_fetch 62 108 = some (.putfield 400, 111) := by decide +kernel
theorem pf_62_111 : pd_fetch 62 111 = some (.aload 0, 112) := by decide +kernel
theorem pf_62_112 : pd_fetch 62 112 = some (.getfield 505, 115) := by decide +kernel
theorem pf_62_115 : pd_fetch 62 115 = some (.getfield 401, 118) := by decide +kernel
theorem pf_62_118 : pd_fetch 62 118 = some (.iconst 0, 119) := by decide +kernel
theorem pf_62_119 : pd_fetch 62 119 = some (.iconst 1, 120) := by decide +kernel
theorem pf_62_120 : pd_fetch 62 120 = some (.iastore, 121) := by decide +kernel
theorem pf_62_121 : pd_fetch 62 121 = some (.aload 0, 122) := by decide +kernel
theorem pf_62_122 : pd_fetch 62 122 = some (.getfield 505, 125) := by decide +kernel
theorem pf_62_125 : pd_fetch 62 125 = some (.iconst 0, 126) := by decide +kernel
theorem pf_62_126 : pd_fetch 62 126 = some (.invokevirtual 58, 129) := by decide +kernel
theorem pf_62_129 : pd_fetch 62 129 = some (.aload 0, 130) := by decide +kernel
theorem pf_62_130 : pd_fetch 62 130 = some (.new 4, 133) := by decide +kernel
theorem pf_62_133 : pd_fetch 62 133 = some (.dup, 134) := by decide +kernel
theorem pf_62_134 : pd_fetch 62 134 = some (.invokespecial 51, 137) := by decide +kernel
theorem pf_62_137 : pd_fetch 62 137 = some (.putfield 506, 140) := by decide +kernel
theorem pf_62_140 : pd_fetch 62 140 = some (.aload 0, 141) := by decide +kernel
theorem pf_62_141 : pd_fetch 62 141 = some (.new 1, 144) := by decide +kernel
theorem pf_62_144 : pd_fetch 62 144 = some (.dup, 145) := by decide +kernel
theorem pf_62_145 : pd_fetch 62 145 = some (.invokespecial 21, 148) := by decide +kernel
theorem pf_62_148 : pd_fetch 62 148 = some (.putfield 507, 151) := by decide +kernel
theorem pf_62_151 : pd_fetch 62 151 = some (.aload 0, 152) := by decide +kernel
theorem pf_62_152 : pd_fetch 62 152 = some (.iconst 2, 153) := by decide +kernel
theorem pf_62_153 : pd_fetch 62 153 = some (.anewarray 4, 156) := by decide +kernel
theorem pf_62_156 : pd_fetch 62 156 = some (.putfield 508, 159) := by decide +kernel
theorem pf_62_159 : pd_fetch 62 159 = some (.iconst 0, 160) := by decide +kernel
theorem pf_62_160 : pd_fetch 62 160 = some (.istore 1, 161) := by decide +kernel
theorem pf_62_161 : pd_fetch 62 161 = some (.iload 1, 162) := by decide +kernel
theorem pf_62_162 : pd_fetch 62 162 = some (.iconst 2, 163) := by decide +kernel
theorem pf_62_163 : pd_fetch 62 163 = some (.if_icmp .ge (Int.ofNat 185), 166) := by decide +kernel
theorem pf_62_166 : pd_fetch 62 166 = some (.aload 0, 167) := by decide +kernel
theorem pf_62_167 : pd_fetch 62 167 = some (.getfield 508, 170) := by decide +kernel
theorem pf_62_170 : pd_fetch 62 170 = some (.iload 1, 171) := by decide +kernel
theorem pf_62_171 : pd_fetch 62 171 = some (.new 4, 174) := by decide +kernel
theorem pf_62_174 : pd_fetch 62 174 = some (.dup, 175) := by decide +kernel
theorem pf_62_175 : pd_fetch 62 175 = some (.invokespecial 51, 178) := by decide +kernel
theorem pf_62_178 : pd_fetch 62 178 = some (.aastore, 179) := by decide +kernel
theorem pf_62_179 : pd_fetch 62 179 = some (.iinc 1 1, 182) := by decide +kernel
theorem pf_62_182 : pd_fetch 62 182 = some (.goto (Int.ofNat 161), 185) := by decide +kernel
theorem pf_62_185 : pd_fetch 62 185 = some (.aload 0, 186) := by decide +kernel
theorem pf_62_186 : pd_fetch 62 186 = some (.iconst 2, 187) := by decide +kernel
theorem pf_62_187 : pd_fetch 62 187 = some (.newarray .boolean, 189) := by decide +kernel
theorem pf_62_189 : pd_fetch 62 189 = some (.putfield 509, 192) := by decide +kernel
theorem pf_62_192 : pd_fetch 62 192 = some (.aload 0, 193) := by decide +kernel
theorem pf_62_193 : pd_fetch 62 193 = some (.iconst 4, 194) := by decide +kernel
theorem pf_62_194 : pd_fetch 62 194 = some (.newarray .long, 196) := by decide +kernel
theorem pf_62_196 : pd_fetch 62 196 = some (.putfield 511, 199) := by decide +kernel
theorem pf_62_199 : pd_fetch 62 199 = some (.aload 0, 200) := by decide +kernel
theorem pf_62_200 : pd_fetch 62 200 = some (.iconst 4, 201) := by decide +kernel
theorem pf_62_201 : pd_fetch 62 201 = some (.newarray .int, 203) := by decide +kernel
theorem pf_62_203 : pd_fetch 62 203 = some (.putfield 512, 206) := by decide +kernel
theorem pf_62_206 : pd_fetch 62 206 = some (.return_, 207) := by decide +kernel
theorem pf_63_0 : pd_fetch 63 0 = some (.iload 1, 1) := by decide +kernel
theorem pf_63_1 : pd_fetch 63 1 = some (.ifCond .lt (Int.ofNat 15), 4) := by decide +kernel
theorem pf_63_4 : pd_fetch 63 4 = some (.iload 1, 5) := by decide +kernel
theorem pf_63_5 : pd_fetch 63 5 = some (.iconst 255, 8) := by decide +kernel
theorem pf_63_8 : pd_fetch 63 8 = some (.if_icmp .gt (Int.ofNat 15), 11) := by decide +kernel
theorem pf_63_11 : pd_fetch 63 11 = some (.iconst 1, 12) := by decide +kernel
theorem pf_63_12 : pd_fetch 63 12 = some (.goto (Int.ofNat 16), 15) := by decide +kernel
theorem pf_63_15 : pd_fetch 63 15 = some (.iconst 0, 16) := by decide +kernel
theorem pf_63_16 : pd_fetch 63 16 = some (.invokestatic 96, 19) := by decide +kernel
theorem pf_63_19 : pd_fetch 63 19 = some (.aload 0, 20) := by decide +kernel
theorem pf_63_20 : pd_fetch 63 20 = some (.getfield 501, 23) := by decide +kernel
theorem pf_63_23 : pd_fetch 63 23 = some (.ifCond .lt (Int.ofNat 35), 26) := by decide +kernel
theorem pf_63_26 : pd_fetch 63 26 = some (.aload 0, 27) := by decide +kernel
theorem pf_63_27 : pd_fetch 63 27 = some (.getfield 501, 30) := by decide +kernel
theorem pf_63_30 : pd_fetch 63 30 = some (.iconst 90, 32) := by decide +kernel
theorem pf_63_32 : pd_fetch 63 32 = some (.if_icmp .lt (Int.ofNat 45), 35) := by decide +kernel
theorem pf_63_35 : pd_fetch 63 35 = some (.new 1001, 38) := by decide +kernel
theorem pf_63_38 : pd_fetch 63 38 = some (.dup, 39) := by decide +kernel
theorem pf_63_45 : pd_fetch 63 45 = some (.aload 0, 46) := by decide +kernel
theorem pf_63_46 : pd_fetch 63 46 = some (.getfield 500, 49) := by decide +kernel
theorem pf_63_49 : pd_fetch 63 49 = some (.aload 0, 50) := by decide +kernel
theorem pf_63_50 : pd_fetch 63 50 = some (.getfield 501, 53) := by decide +kernel
theorem pf_63_53 : pd_fetch 63 53 = some (.iload 1, 54) := by decide +kernel
theorem pf_63_54 : pd_fetch 63 54 = some (.iastore, 55) := by decide +kernel
theorem pf_63_55 : pd_fetch 63 55 = some (.aload 0, 56) := by decide +kernel
theorem pf_63_56 : pd_fetch 63 56 = some (.dup, 57) := by decide +kernel
theorem pf_63_57 : pd_fetch 63 57 = some (.getfield 501, 60) := by decide +kernel
theorem pf_63_60 : pd_fetch 63 60 = some (.iconst 1, 61) := by decide +kernel
theorem pf_63_61 : pd_fetch 63 61 = some (.iadd, 62) := by decide +kernel
theorem pf_63_62 : pd_fetch 63 62 = some (.putfield 501, 65) := by decide +kernel
theorem pf_63_65 : pd_fetch 63 65 = some (.aload 0, 66) := by decide +kernel
theorem pf_63_66 : pd_fetch 63 66 = some (.getfield 501, 69) := by decide +kernel
theorem pf_63_69 : pd_fetch 63 69 = some (.ireturn, 70) := by decide +kernel
theorem pf_64_0 : pd_fetch 64 0 = some (.aload 0, 1) := by decide +kernel
theorem pf_64_1 : pd_fetch 64 1 = some (.getfield 501, 4) := by decide +kernel
theorem pf_64_4 : pd_fetch 64 4 = some (.istore 1, 5) := by decide +kernel
theorem pf_64_5 : pd_fetch 64 5 = some (.aload 0, 6) := by decide +kernel
theorem pf_64_6 : pd_fetch 64 6 = some (.iconst 0, 7) := by decide +kernel
theorem pf_64_7 : pd_fetch 64 7 = some (.putfield 501, 10) := by decide +kernel
theorem pf_64_10 : pd_fetch 64 10 = some (.iload 1, 11) := by decide +kernel
theorem pf_64_11 : pd_fetch 64 11 = some (.ireturn, 12) := by decide +kernel
theorem pf_65_0 : pd_fetch 65 0 = some (.aload 0, 1) := by decide +kernel
theorem pf_65_1 : pd_fetch 65 1 = some (.getfield 502, 4) := by decide +kernel
theorem pf_65_4 : pd_fetch 65 4 = some (.aload 0, 5) := by decide +kernel
theorem pf_65_5 : pd_fetch 65 5 = some (.getfield 501, 8) := by decide +kernel
theorem pf_65_8 : pd_fetch 65 8 = some (.invokevirtual 41, 11) := by decide +kernel
theorem pf_65_11 : pd_fetch 65 11 = some (.ireturn, 12) := by decide +kernel
theorem pf_66_0 : pd_fetch 66 0 = some (.aload 0, 1) := by decide +kernel
theorem pf_66_1 : pd_fetch 66 1 = some (.getfield 502, 4) := by decide +kernel
theorem pf_66_4 : pd_fetch 66 4 = some (.aload 0, 5) := by decide +kernel
theorem pf_66_5 : pd_fetch 66 5 = some (.getfield 501, 8) := by decide +kernel
theorem pf_66_8 : pd_fetch 66 8 = some (.invokevirtual 41, 11) := by decide +kernel
theorem pf_66_11 : pd_fetch 66 11 = some (.iconst (-9), 13) := by decide +kernel
theorem pf_66_13 : pd_fetch 66 13 = some (.if_icmp .eq (Int.ofNat 26), 16) := by decide +kernel
theorem pf_66_16 : pd_fetch 66 16 = some (.new 1001, 19) := by decide +kernel
theorem pf_66_19 : pd_fetch 66 19 = some (.dup, 20) := by decide +kernel
theorem pf_66_26 : pd_fetch 66 26 = some (.aload 0, 27) := by decide +kernel
theorem pf_66_27 : pd_fetch 66 27 = some (.getfield 503, 30) := by decide +kernel
theorem pf_66_30 : pd_fetch 66 30 = some (.aload 0, 31) := by decide +kernel
theorem pf_66_31 : pd_fetch 66 31 = some (.getfield 502, 34) := by decide +kernel
theorem pf_66_34 : pd_fetch 66 34 = some (.getfield 304, 37) := by decide +kernel
theorem pf_66_37 : pd_fetch 66 37 = some (.invokevirtual 27, 40) := by decide +kernel
theorem pf_66_40 : pd_fetch 66 40 = some (.aload 0, 41) := by decide +kernel
theorem pf_66_41 : pd_fetch 66 41 = some (.getfield 505, 44) := by decide +kernel
theorem pf_66_44 : pd_fetch 66 44 = some (.aload 0, 45) := by decide +kernel
theorem pf_66_45 : pd_fetch 66 45 = some (.getfield 502, 48) := by decide +kernel
theorem pf_66_48 : pd_fetch 66 48 = some (.getfield 305, 51) := by decide +kernel
theorem pf_66_51 : pd_fetch 66 51 = some (.invokevirtual 53, 54) := by decide +kernel
theorem pf_66_54 : pd_fetch 66 54 = some (.aload 0, 55) := by decide +kernel
theorem pf_66_55 : pd_fetch 66 55 = some (.getfield 505, 58) := by decide +kernel
theorem pf_66_58 : pd_fetch 66 58 = some (.iconst 0, 59) := by decide +kernel
theorem pf_66_59 : pd_fetch 66 59 = some (.invokevirtual 58, 62) := by decide +kernel
theorem pf_66_62 : pd_fetch 66 62 = some (.aload 0, 63) := by decide +kernel
theorem pf_66_63 : pd_fetch 66 63 = some (.getfield 507, 66) := by decide +kernel
theorem pf_66_66 : pd_fetch 66 66 = some (.invokevirtual 24, 69) := by decide +kernel
theorem pf_66_69 : pd_fetch 66 69 = some (.iconst 0, 70) := by decide +kernel
theorem pf_66_70 : pd_fetch 66 70 = some (.istore 1, 71) := by decide +kernel
theorem pf_66_71 : pd_fetch 66 71 = some (.iload 1, 72) := by decide +kernel
theorem pf_66_72 : pd_fetch 66 72 = some (.iconst 2, 73) := by decide +kernel
theorem pf_66_73 : pd_fetch 66 73 = some (.if_icmp .ge (Int.ofNat 89), 76) := by decide +kernel
theorem pf_66_76 : pd_fetch 66 76 = some (.aload 0, 77) := by decide +kernel
theorem pf_66_77 : pd_fetch 66 77 = some (.getfield 509, 80) := by decide +kernel
theorem pf_66_80 : pd_fetch 66 80 = some (.iload 1, 81) := by decide +kernel
theorem pf_66_81 : pd_fetch 66 81 = some (.iconst 0, 82) := by decide +kernel
theorem pf_66_82 : pd_fetch 66 82 = some (.bastore, 83) := by decide +kernel
theorem pf_66_83 : pd_fetch 66 83 = some (.iinc 1 1, 86) := by decide +kernel
theorem pf_66_86 : pd_fetch 66 86 = some (.goto (Int.ofNat 71), 89) := by decide +kernel
theorem pf_66_89 : pd_fetch 66 89 = some (.aload 0, 90) := by decide +kernel
theorem pf_66_90 : pd_fetch 66 90 = some (.getfield 503, 93) := by decide +kernel
theorem pf_66_93 : pd_fetch 66 93 = some (.getfield 202, 96) := by decide +kernel
theorem pf_66_96 : pd_fetch 66 96 = some (.ireturn, 97) := by decide +kernel
theorem pf_67_0 : pd_fetch 67 0 = some (.iload 1, 1) := by decide +kernel
theorem pf_67_1 : pd_fetch 67 1 = some (.tableswitch (Int.ofNat 100) 0 6 #[Int.ofNat 44, Int.ofNat 52, Int.ofNat 60, Int.ofNat 68, Int.ofNat 76, Int.ofNat 84, Int.ofNat 92], 44) := by decide +kernel
theorem pf_67_44 : pd_fetch 67 44 = some (.aload 0, 45) := by decide +kernel
theorem pf_67_45 : pd_fetch 67 45 = some (.getfield 503, 48) := by decide +kernel
theorem pf_67_48 : pd_fetch 67 48 = some (.getfield 200, 51) := by decide +kernel
theorem pf_67_51 : pd_fetch 67 51 = some (.ireturn, 52) := by decide +kernel
theorem pf_67_52 : pd_fetch 67 52 = some (.aload 0, 53) := by decide +kernel
theorem pf_67_53 : pd_fetch 67 53 = some (.getfield 503, 56) := by decide +kernel
theorem pf_67_56 : pd_fetch 67 56 = some (.getfield 201, 59) := by decide +kernel
theorem pf_67_59 : pd_fetch 67 59 = some (.ireturn, 60) := by decide +kernel
theorem pf_67_60 : pd_fetch 67 60 = some (.aload 0, 61) := by decide +kernel
theorem pf_67_61 : pd_fetch 67 61 = some (.getfield 503, 64) := by decide +kernel
theorem pf_67_64 : pd_fetch 67 64 = some (.getfield 202, 67) := by decide +kernel
theorem pf_67_67 : pd_fetch 67 67 = some (.ireturn, 68) := by decide +kernel
theorem pf_67_68 : pd_fetch 67 68 = some (.aload 0, 69) := by decide +kernel
theorem pf_67_69 : pd_fetch 67 69 = some (.getfield 505, 72) := by decide +kernel
theorem pf_67_72 : pd_fetch 67 72 = some (.getfield 400, 75) := by decide +kernel
theorem pf_67_75 : pd_fetch 67 75 = some (.ireturn, 76) := by decide +kernel
theorem pf_67_76 : pd_fetch 67 76 = some (.aload 0, 77) := by decide +kernel
theorem pf_67_77 : pd_fetch 67 77 = some (.getfield 505, 80) := by decide +kernel
theorem pf_67_80 : pd_fetch 67 80 = some (.getfield 402, 83) := by decide +kernel
theorem pf_67_83 : pd_fetch 67 83 = some (.ireturn, 84) := by decide +kernel
theorem pf_67_84 : pd_fetch 67 84 = some (.aload 0, 85) := by decide +kernel
theorem pf_67_85 : pd_fetch 67 85 = some (.getfield 505, 88) := by decide +kernel
theorem pf_67_88 : pd_fetch 67 88 = some (.getfield 405, 91) := by decide +kernel
theorem pf_67_91 : pd_fetch 67 91 = some (.ireturn, 92) := by decide +kernel
theorem pf_67_92 : pd_fetch 67 92 = some (.aload 0, 93) := by decide +kernel
theorem pf_67_93 : pd_fetch 67 93 = some (.getfield 505, 96) := by decide +kernel
theorem pf_67_96 : pd_fetch 67 96 = some (.getfield 406, 99) := by decide +kernel
theorem pf_67_99 : pd_fetch 67 99 = some (.ireturn, 100) := by decide +kernel
theorem pf_67_100 : pd_fetch 67 100 = some (.new 1000, 103) := by decide +kernel
theorem pf_67_103 : pd_fetch 67 103 = some (.dup, 104) := by decide +kernel
theorem pf_68_0 : pd_fetch 68 0 = some (.iload 1, 1) := by decide +kernel
theorem pf_68_1 : pd_fetch 68 1 = some (.aload 0, 2) := by decide +kernel
theorem pf_68_2 : pd_fetch 68 2 = some (.getfield 503, 5) := by decide +kernel
theorem pf_68_5 : pd_fetch 68 5 = some (.getfield 202, 8) := by decide +kernel
theorem pf_68_8 : pd_fetch 68 8 = some (.invokestatic 95, 11) := by decide +kernel
theorem pf_68_11 : pd_fetch 68 11 = some (.iload 2, 12) := by decide +kernel
theorem pf_68_12 : pd_fetch 68 12 = some (.aload 0, 13) := by decide +kernel
theorem pf_68_13 : pd_fetch 68 13 = some (.getfield 503, 16) := by decide +kernel
theorem pf_68_16 : pd_fetch 68 16 = some (.getfield 200, 19) := by decide +kernel
theorem pf_68_19 : pd_fetch 68 19 = some (.invokestatic 95, 22) := by decide +kernel
theorem pf_68_22 : pd_fetch 68 22 = some (.aload 0, 23) := by decide +kernel
theorem pf_68_23 : pd_fetch 68 23 = some (.getfield 503, 26) := by decide +kernel
theorem pf_68_26 : pd_fetch 68 26 = some (.iload 1, 27) := by decide +kernel
theorem pf_68_27 : pd_fetch 68 27 = some (.iload 2, 28) := by decide +kernel
theorem pf_68_28 : pd_fetch 68 28 = some (.invokevirtual 28, 31) := by decide +kernel
theorem pf_68_31 : pd_fetch 68 31 = some (.ireturn, 32) := by decide +kernel
theorem pf_69_0 : pd_fetch 69 0 = some (.iload 1, 1) := by decide +kernel
theorem pf_69_1 : pd_fetch 69 1 = some (.aload 0, 2) := by decide +kernel
theorem pf_69_2 : pd_fetch 69 2 = some (.getfield 505, 5) := by decide +kernel
theorem pf_69_5 : pd_fetch 69 5 = some (.getfield 400, 8) := by decide +kernel
theorem pf_69_8 : pd_fetch 69 8 = some (.invokestatic 95, 11) := by decide +kernel
theorem pf_69_11 : pd_fetch 69 11 = some (.iload 2, 12) := by decide +kernel
theorem pf_69_12 : pd_fetch 69 12 = some (.aload 0, 13) := by decide +kernel
theorem pf_69_13 : pd_fetch 69 13 = some (.getfield 503, 16) := by decide +kernel
theorem pf_69_16 : pd_fetch 69 16 = some (.getfield 200, 19) := by decide +kernel
theorem pf_69_19 : pd_fetch 69 19 = some (.iconst 1, 20) := by decide +kernel
theorem pf_69_20 : pd_fetch 69 20 = some (.iadd, 21) := by decide +kernel
theorem pf_69_21 : pd_fetch 69 21 = some (.invokestatic 95, 24) := by decide +kernel
theorem pf_69_24 : pd_fetch 69 24 = some (.aload 0, 25) := by decide +kernel
theorem pf_69_25 : pd_fetch 69 25 = some (.getfield 505, 28) := by decide +kernel
theorem pf_69_28 : pd_fetch 69 28 = some (.getfield 401, 31) := by decide +kernel
theorem pf_69_31 : pd_fetch 69 31 = some (.aload 0, 32) := by decide +kernel
theorem pf_69_32 : pd_fetch 69 32 = some (.iload 1, 33) := by decide +kernel
theorem pf_69_33 : pd_fetch 69 33 = some (.iload 2, 34) := by decide +kernel
theorem pf_69_34 : pd_fetch 69 34 = some (.invokevirtual 100, 37) := by decide +kernel
theorem pf_69_37 : pd_fetch 69 37 = some (.iaload, 38) := by decide +kernel
theorem pf_69_38 : pd_fetch 69 38 = some (.ireturn, 39) := by decide +kernel
theorem pf_70_0 : pd_fetch 70 0 = some (.iload 1, 1) := by decide +kernel
theorem pf_70_1 : pd_fetch 70 1 = some (.aload 0, 2) := by decide +kernel
theorem pf_70_2 : pd_fetch 70 2 = some (.getfield 505, 5) := by decide +kernel
theorem pf_70_5 : pd_fetch 70 5 = some (.getfield 402, 8) := by decide +kernel
theorem pf_70_8 : pd_fetch 70 8 = some (.invokestatic 95, 11) := by decide +kernel
theorem pf_70_11 : pd_fetch 70 11 = some (.iload 2, 12) := by decide +kernel
theorem pf_70_12 : pd_fetch 70 12 = some (.ifCond .eq (Int.ofNat 20), 15) := by decide +kernel
theorem pf_70_15 : pd_fetch 70 15 = some (.iload 2, 16) := by decide +kernel
theorem pf_70_16 : pd_fetch 70 16 = some (.iconst 1, 17) := by decide +kernel
theorem pf_70_17 : pd_fetch 70 17 = some (.if_icmp .ne (Int.ofNat 24), 20) := by decide +kernel
theorem pf_70_20 : pd_fetch 70 20 = some (.iconst 1, 21) := by decide +kernel
theorem pf_70_21 : pd_fetch 70 21 = some (.goto (Int.ofNat 25), 24) := by decide +kernel
theorem pf_70_24 : pd_fetch 70 24 = some (.iconst 0, 25) := by decide +kernel
theorem pf_70_25 : pd_fetch 70 25 = some (.invokestatic 96, 28) := by decide +kernel
theorem pf_70_28 : pd_fetch 70 28 = some (.iload 2, 29) := by decide +kernel
theorem pf_70_29 : pd_fetch 70 29 = some (.ifCond .ne (Int.ofNat 44), 32) := by decide +kernel
theorem pf_70_32 : pd_fetch 70 32 = some (.aload 0, 33) := by decide +kernel
theorem pf_70_33 : pd_fetch 70 33 = some (.getfield 505, 36) := by decide +kernel
theorem pf_70_36 : pd_fetch 70 36 = some (.getfield 403, 39) := by decide +kernel
theorem pf_70_39 : pd_fetch 70 39 = some (.iload 1, 40) := by decide +kernel
theorem pf_70_40 : pd_fetch 70 40 = some (.iaload, 41) := by decide +kernel
theorem pf_70_41 : pd_fetch 70 41 = some (.goto (Int.ofNat 53), 44) := by decide +kernel
theorem pf_70_44 : pd_fetch 70 44 = some (.aload 0, 45) := by decide +kernel
theorem pf_70_45 : pd_fetch 70 45 = some (.getfield 505, 48) := by decide +kernel
theorem pf_70_48 : pd_fetch 70 48 = some (.getfield 404, 51) := by decide +kernel
theorem pf_70_51 : pd_fetch 70 51 = some (.iload 1, 52) := by decide +kernel
theorem pf_70_52 : pd_fetch 70 52 = some (.iaload, 53) := by decide +kernel
theorem pf_70_53 : pd_fetch 70 53 = some (.ireturn, 54) := by decide +kernel
theorem pf_71_0 : pd_fetch 71 0 = some (.aload 0, 1) := by decide +kernel
theorem pf_71_1 : pd_fetch 71 1 = some (.getfield 510, 4) := by decide +kernel
theorem pf_71_4 : pd_fetch 71 4 = some (.iconst 0, 5) := by decide +kernel
theorem pf_71_5 : pd_fetch 71 5 = some (.iload 1, 6) := by decide +kernel
theorem pf_71_6 : pd_fetch 71 6 = some (.iastore, 7) := by decide +kernel
theorem pf_71_7 : pd_fetch 71 7 = some (.aload 0, 8) := by decide +kernel
theorem pf_71_8 : pd_fetch 71 8 = some (.getfield 510, 11) := by decide +kernel
theorem pf_71_11 : pd_fetch 71 11 = some (.iconst 1, 12) := by decide +kernel
theorem pf_71_12 : pd_fetch 71 12 = some (.iload 2, 13) := by decide +kernel
theorem pf_71_13 : pd_fetch 71 13 = some (.iastore, 14) := by decide +kernel
theorem pf_71_14 : pd_fetch 71 14 = some (.aload 0, 15) := by decide +kernel
theorem pf_71_15 : pd_fetch 71 15 = some (.getfield 510, 18) := by decide +kernel
theorem pf_71_18 : pd_fetch 71 18 = some (.iconst 2, 19) := by decide +kernel
theorem pf_71_19 : pd_fetch 71 19 = some (.iload 3, 20) := by decide +kernel
theorem pf_71_20 : pd_fetch 71 20 = some (.iastore, 21) := by decide +kernel
theorem pf_71_21 : pd_fetch 71 21 = some (.aload 0, 22) := by decide +kernel
theorem pf_71_22 : pd_fetch 71 22 = some (.getfield 510, 25) := by decide +kernel
theorem pf_71_25 : pd_fetch 71 25 = some (.iconst 3, 26) := by decide +kernel
theorem pf_71_26 : pd_fetch 71 26 = some (.iload 4, 28) := by decide +kernel
theorem pf_71_28 : pd_fetch 71 28 = some (.iastore, 29) := by decide +kernel
theorem pf_71_29 : pd_fetch 71 29 = some (.aload 0, 30) := by decide +kernel
theorem pf_71_30 : pd_fetch 71 30 = some (.getfield 503, 33) := by decide +kernel
theorem pf_71_33 : pd_fetch 71 33 = some (.aload 0, 34) := by decide +kernel
theorem pf_71_34 : pd_fetch 71 34 = some (.getfield 510, 37) := by decide +kernel
theorem pf_71_37 : pd_fetch 71 37 = some (.invokevirtual 30, 40) := by decide +kernel
theorem pf_71_40 : pd_fetch 71 40 = some (.ireturn, 41) := by decide +kernel
theorem pf_72_0 : pd_fetch 72 0 = some (.iload 1, 1) := by decide +kernel
theorem pf_72_1 : pd_fetch 72 1 = some (.invokestatic 97, 4) := by decide +kernel
theorem pf_72_4 : pd_fetch 72 4 = some (.invokestatic 96, 7) := by decide +kernel
theorem pf_72_7 : pd_fetch 72 7 = some (.aload 0, 8) := by decide +kernel
theorem pf_72_8 : pd_fetch 72 8 = some (.getfield 504, 11) := by decide +kernel
theorem pf_72_11 : pd_fetch 72 11 = some (.aload 0, 12) := by decide +kernel
theorem pf_72_12 : pd_fetch 72 12 = some (.getfield 505, 15) := by decide +kernel
theorem pf_72_15 : pd_fetch 72 15 = some (.iload 1, 16) := by decide +kernel
theorem pf_72_16 : pd_fetch 72 16 = some (.invokevirtual 10, 19) := by decide +kernel
theorem pf_72_19 : pd_fetch 72 19 = some (.ifCond .ne (Int.ofNat 32), 22) := by decide +kernel
theorem pf_72_22 : pd_fetch 72 22 = some (.new 1001, 25) := by decide +kernel
theorem pf_72_25 : pd_fetch 72 25 = some (.dup, 26) := by decide +kernel
theorem pf_72_32 : pd_fetch 72 32 = some (.aload 0, 33) := by decide +kernel
theorem pf_72_33 : pd_fetch 72 33 = some (.getfield 507, 36) := by decide +kernel
theorem pf_72_36 : pd_fetch 72 36 = some (.aload 0, 37) := by decide +kernel
theorem pf_72_37 : pd_fetch 72 37 = some (.getfield 505, 40) := by decide +kernel
theorem pf_72_40 : pd_fetch 72 40 = some (.invokevirtual 22, 43) := by decide +kernel
theorem pf_72_43 : pd_fetch 72 43 = some (.aload 0, 44) := by decide +kernel
theorem pf_72_44 : pd_fetch 72 44 = some (.getfield 504, 47) := by decide +kernel
theorem pf_72_47 : pd_fetch 72 47 = some (.aload 0, 48) := by decide +kernel
theorem pf_72_48 : pd_fetch 72 48 = some (.getfield 505, 51) := by decide +kernel
theorem pf_72_51 : pd_fetch 72 51 = some (.iload 1, 52) := by decide +kernel
theorem pf_72_52 : pd_fetch 72 52 = some (.invokevirtual 11, 55) := by decide +kernel
theorem pf_72_55 : pd_fetch 72 55 = some (.ireturn, 56) := by decide +kernel
theorem pf_73_0 : pd_fetch 73 0 = some (.iload 1, 1) := by decide +kernel
theorem pf_73_1 : pd_fetch 73 1 = some (.invokestatic 97, 4) := by decide +kernel
theorem pf_73_4 : pd_fetch 73 4 = some (.ifCond .eq (Int.ofNat 22), 7) := by decide +kernel
theorem pf_73_7 : pd_fetch 73 7 = some (.iload 2, 8) := by decide +kernel
theorem pf_73_8 : pd_fetch 73 8 = some (.iconst 1, 9) := by decide +kernel
theorem pf_73_9 : pd_fetch 73 9 = some (.if_icmp .lt (Int.ofNat 22), 12) := by decide +kernel
theorem pf_73_12 : pd_fetch 73 12 = some (.iload 2, 13) := by decide +kernel
theorem pf_73_13 : pd_fetch 73 13 = some (.iconst 50, 15) := by decide +kernel
theorem pf_73_15 : pd_fetch 73 15 = some (.if_icmp .gt (Int.ofNat 22), 18) := by decide +kernel
theorem pf_73_18 : pd_fetch 73 18 = some (.iconst 1, 19) := by decide +kernel
theorem pf_73_19 : pd_fetch 73 19 = some (.goto (Int.ofNat 23), 22) := by decide +kernel
theorem pf_73_22 : pd_fetch 73 22 = some (.iconst 0, 23) := by decide +kernel
theorem pf_73_23 : pd_fetch 73 23 = some (.invokestatic 96, 26) := by decide +kernel
theorem pf_73_26 : pd_fetch 73 26 = some (.aload 0, 27) := by decide +kernel
theorem pf_73_27 : pd_fetch 73 27 = some (.getfield 507, 30) := by decide +kernel
theorem pf_73_30 : pd_fetch 73 30 = some (.aload 0, 31) := by decide +kernel
theorem pf_73_31 : pd_fetch 73 31 = some (.getfield 505, 34) := by decide +kernel
theorem pf_73_34 : pd_fetch 73 34 = some (.invokevirtual 22, 37) := by decide +kernel
theorem pf_73_37 : pd_fetch 73 37 = some (.iconst 0, 38) := by decide +kernel
theorem pf_73_38 : pd_fetch 73 38 = some (.istore 3, 39) := by decide +kernel
theorem pf_73_39 : pd_fetch 73 39 = some (.iconst 1, 40) := by decide +kernel
theorem pf_73_40 : pd_fetch 73 40 = some (.istore 4, 42) := by decide +kernel
theorem pf_73_42 : pd_fetch 73 42 = some (.iload 3, 43) := by decide +kernel
theorem pf_73_43 : pd_fetch 73 43 = some (.iload 2, 44) := by decide +kernel
theorem pf_73_44 : pd_fetch 73 44 = some (.if_icmp .ge (Int.ofNat 111), 47) := by decide +kernel
theorem pf_73_47 : pd_fetch 73 47 = some (.iload 4, 49) := by decide +kernel
theorem pf_73_49 : pd_fetch 73 49 = some (.ifCond .eq (Int.ofNat 111), 52) := by decide +kernel
theorem pf_73_52 : pd_fetch 73 52 = some (.aload 0, 53) := by decide +kernel
theorem pf_73_53 : pd_fetch 73 53 = some (.getfield 504, 56) := by decide +kernel
theorem pf_73_56 : pd_fetch 73 56 = some (.aload 0, 57) := by decide +kernel
theorem pf_73_57 : pd_fetch 73 57 = some (.getfield 505, 60) := by decide +kernel
theorem pf_73_60 : pd_fetch 73 60 = some (.invokevirtual 7, 63) := by decide +kernel
theorem pf_73_63 : pd_fetch 73 63 = some (.jsr (0), 64) := by decide +kernel
theorem pf_73_64 : pd_fetch 73 64 = some (.lcmp, 65) := by decide +kernel
theorem pf_73_65 : pd_fetch 73 65 = some (.ifCond .eq (Int.ofNat 111), 68) := by decide +kernel
theorem pf_73_68 : pd_fetch 73 68 = some (.aload 0, 69) := by decide +kernel
theorem pf_73_69 : pd_fetch 73 69 = some (.getfield 504, 72) := by decide +kernel
theorem pf_73_72 : pd_fetch 73 72 = some (.aload 0, 73) := by decide +kernel
theorem pf_73_73 : pd_fetch 73 73 = some (.getfield 505, 76) := by decide +kernel
theorem pf_73_76 : pd_fetch 73 76 = some (.iload 1, 77) := by decide +kernel
theorem pf_73_77 : pd_fetch 73 77 = some (.invokevirtual 10, 80) := by decide +kernel
theorem pf_73_80 : pd_fetch 73 80 = some (.ifCond .eq (Int.ofNat 111), 83) := by decide +kernel
theorem pf_73_83 : pd_fetch 73 83 = some (.aload 0, 84) := by decide +kernel
theorem pf_73_84 : pd_fetch 73 84 = some (.getfield 504, 87) := by decide +kernel
theorem pf_73_87 : pd_fetch 73 87 = some (.aload 0, 88) := by decide +kernel
theorem pf_73_88 : pd_fetch 73 88 = some (.getfield 505, 91) := by decide +kernel
theorem pf_73_91 : pd_fetch 73 91 = some (.iload 1, 92) := by decide +kernel
theorem pf_73_92 : pd_fetch 73 92 = some (.invokevirtual 11, 95) := by decide +kernel
theorem pf_73_95 : pd_fetch 73 95 = some (.ifCond .le (Int.ofNat 102), 98) := by decide +kernel
theorem pf_73_98 : pd_fetch 73 98 = some (.iconst 1, 99) := by decide +kernel
theorem pf_73_99 : pd_fetch 73 99 = some (.goto (Int.ofNat 103), 102) := by decide +kernel
theorem pf_73_102 : pd_fetch 73 102 = some (.iconst 0, 103) := by decide +kernel
theorem pf_73_103 : pd_fetch 73 103 = some (.istore 4, 105) := by decide +kernel
theorem pf_73_105 : pd_fetch 73 105 = some (.iinc 3 1, 108) := by decide +kernel
theorem pf_73_108 : pd_fetch 73 108 = some (.goto (Int.ofNat 42), 111) := by decide +kernel
theorem pf_73_111 : pd_fetch 73 111 = some (.iload 3, 112) := by decide +kernel
theorem pf_73_112 : pd_fetch 73 112 = some (.ireturn, 113) := by decide +kernel
theorem pf_74_0 : pd_fetch 74 0 = some (.iload 1, 1) := by decide +kernel
theorem pf_74_1 : pd_fetch 74 1 = some (.aload 0, 2) := by decide +kernel
theorem pf_74_2 : pd_fetch 74 2 = some (.getfield 505, 5) := by decide +kernel
theorem pf_74_5 : pd_fetch 74 5 = some (.getfield 402, 8) := by decide +kernel
theorem pf_74_8 : pd_fetch 74 8 = some (.invokestatic 95, 11) := by decide +kernel
theorem pf_74_11 : pd_fetch 74 11 = some (.iload 2, 12) := by decide +kernel
theorem pf_74_12 : pd_fetch 74 12 = some (.aload 0, 13) := by decide +kernel
theorem pf_74_13 : pd_fetch 74 13 = some (.getfield 503, 16) := by decide +kernel
theorem pf_74_16 : pd_fetch 74 16 = some (.getfield 202, 19) := by decide +kernel
theorem pf_74_19 : pd_fetch 74 19 = some (.invokestatic 95, 22) := by decide +kernel
theorem pf_74_22 : pd_fetch 74 22 = some (.iload 3, 23) := by decide +kernel
theorem pf_74_23 : pd_fetch 74 23 = some (.ifCond .lt (Int.ofNat 43), 26) := by decide +kernel
theorem pf_74_26 : pd_fetch 74 26 = some (.iload 3, 27) := by decide +kernel
theorem pf_74_27 : pd_fetch 74 27 = some (.aload 0, 28) := by decide +kernel
theorem pf_74_28 : pd_fetch 74 28 = some (.getfield 505, 31) := by decide +kernel
theorem pf_74_31 : pd_fetch 74 31 = some (.getfield 404, 34) := by decide +kernel
theorem pf_74_34 : pd_fetch 74 34 = some (.iload 1, 35) := by decide +kernel
theorem pf_74_35 : pd_fetch 74 35 = some (.iaload, 36) := by decide +kernel
theorem pf_74_36 : pd_fetch 74 36 = some (.if_icmp .gt (Int.ofNat 43), 39) := by decide +kernel
theorem pf_74_39 : pd_fetch 74 39 = some (.iconst 1, 40) := by decide +kernel
theorem pf_74_40 : pd_fetch 74 40 = some (.goto (Int.ofNat 44), 43) := by decide +kernel
theorem pf_74_43 : pd_fetch 74 43 = some (.iconst 0, 44) := by decide +kernel
theorem pf_74_44 : pd_fetch 74 44 = some (.invokestatic 96, 47) := by decide +kernel
theorem pf_74_47 : pd_fetch 74 47 = some (.aload 0, 48) := by decide +kernel
theorem pf_74_48 : pd_fetch 74 48 = some (.getfield 507, 51) := by decide +kernel
theorem pf_74_51 : pd_fetch 74 51 = some (.aload 0, 52) := by decide +kernel
theorem pf_74_52 : pd_fetch 74 52 = some (.getfield 505, 55) := by decide +kernel
theorem pf_74_55 : pd_fetch 74 55 = some (.invokevirtual 22, 58) := by decide +kernel
theorem pf_74_58 : pd_fetch 74 58 = some (.aload 0, 59) := by decide +kernel
theorem pf_74_59 : pd_fetch 74 59 = some (.getfield 505, 62) := by decide +kernel
theorem pf_74_62 : pd_fetch 74 62 = some (.iload 1, 63) := by decide +kernel
theorem pf_74_63 : pd_fetch 74 63 = some (.iload 2, 64) := by decide +kernel
theorem pf_74_64 : pd_fetch 74 64 = some (.iload 3, 65) := by decide +kernel
theorem pf_74_65 : pd_fetch 74 65 = some (.invokevirtual 60, 68) := by decide +kernel
theorem pf_74_68 : pd_fetch 74 68 = some (.aload 0, 69) := by decide +kernel
theorem pf_74_69 : pd_fetch 74 69 = some (.getfield 505, 72) := by decide +kernel
theorem pf_74_72 : pd_fetch 74 72 = some (.getfield 402, 75) := by decide +kernel
theorem pf_74_75 : pd_fetch 74 75 = some (.ireturn, 76) := by decide +kernel
theorem pf_75_0 : pd_fetch 75 0 = some (.iload 1, 1) := by decide +kernel
theorem pf_75_1 : pd_fetch 75 1 = some (.aload 0, 2) := by decide +kernel
theorem pf_75_2 : pd_fetch 75 2 = some (.getfield 503, 5) := by decide +kernel
theorem pf_75_5 : pd_fetch 75 5 = some (.getfield 202, 8) := by decide +kernel
theorem pf_75_8 : pd_fetch 75 8 = some (.invokestatic 95, 11) := by decide +kernel
theorem pf_75_11 : pd_fetch 75 11 = some (.aload 0, 12) := by decide +kernel
theorem pf_75_12 : pd_fetch 75 12 = some (.getfield 507, 15) := by decide +kernel
theorem pf_75_15 : pd_fetch 75 15 = some (.aload 0, 16) := by decide +kernel
theorem pf_75_16 : pd_fetch 75 16 = some (.getfield 505, 19) := by decide +kernel
theorem pf_75_19 : pd_fetch 75 19 = some (.invokevirtual 22, 22) := by decide +kernel
theorem pf_75_22 : pd_fetch 75 22 = some (.aload 0, 23) := by decide +kernel
theorem pf_75_23 : pd_fetch 75 23 = some (.getfield 505, 26) := by decide +kernel
theorem pf_75_26 : pd_fetch 75 26 = some (.getfield 402, 29) := by decide +kernel
theorem pf_75_29 : pd_fetch 75 29 = some (.istore 2, 30) := by decide +kernel
theorem pf_75_30 : pd_fetch 75 30 = some (.aload 0, 31) := by decide +kernel
theorem pf_75_31 : pd_fetch 75 31 = some (.getfield 505, 34) := by decide +kernel
theorem pf_75_34 : pd_fetch 75 34 = some (.iload 1, 35) := by decide +kernel
theorem pf_75_35 : pd_fetch 75 35 = some (.invokevirtual 58, 38) := by decide +kernel
theorem pf_75_38 : pd_fetch 75 38 = some (.iload 2, 39) := by decide +kernel
theorem pf_75_39 : pd_fetch 75 39 = some (.ireturn, 40) := by decide +kernel
theorem pf_76_0 : pd_fetch 76 0 = some (.iload 1, 1) := by decide +kernel
theorem pf_76_1 : pd_fetch 76 1 = some (.aload 0, 2) := by decide +kernel
theorem pf_76_2 : pd_fetch 76 2 = some (.getfield 505, 5) := by decide +kernel
theorem pf_76_5 : pd_fetch 76 5 = some (.getfield 400, 8) := by decide +kernel
theorem pf_76_8 : pd_fetch 76 8 = some (.invokestatic 95, 11) := by decide +kernel
theorem pf_76_11 : pd_fetch 76 11 = some (.iload 2, 12) := by decide +kernel
theorem pf_76_12 : pd_fetch 76 12 = some (.aload 0, 13) := by decide +kernel
theorem pf_76_13 : pd_fetch 76 13 = some (.getfield 503, 16) := by decide +kernel
theorem pf_76_16 : pd_fetch 76 16 = some (.getfield 200, 19) := by decide +kernel
theorem pf_76_19 : pd_fetch 76 19 = some (.iconst 1, 20) := by decide +kernel
theorem pf_76_20 : pd_fetch 76 20 = some (.iadd, 21) := by decide +kernel
theorem pf_76_21 : pd_fetch 76 21 = some (.invokestatic 95, 24) := by decide +kernel
theorem pf_76_24 : pd_fetch 76 24 = some (.iload 2, 25) := by decide +kernel
theorem pf_76_25 : pd_fetch 76 25 = some (.aload 0, 26) := by decide +kernel
theorem pf_76_26 : pd_fetch 76 26 = some (.getfield 503, 29) := by decide +kernel
theorem pf_76_29 : pd_fetch 76 29 = some (.getfield 200, 32) := by decide +kernel
theorem pf_76_32 : pd_fetch 76 32 = some (.if_icmp .ne (Int.ofNat 40), 35) := by decide +kernel
theorem pf_76_35 : pd_fetch 76 35 = some (.iconst 99, 37) := by decide +kernel
theorem pf_76_37 : pd_fetch 76 37 = some (.goto (Int.ofNat 42), 40) := by decide +kernel
theorem pf_76_40 : pd_fetch 76 40 = some (.iconst 9, 42) := by decide +kernel
theorem pf_76_42 : pd_fetch 76 42 = some (.istore 4, 44) := by decide +kernel
theorem pf_76_44 : pd_fetch 76 44 = some (.iload 3, 45) := by decide +kernel
theorem pf_76_45 : pd_fetch 76 45 = some (.iload 4, 47) := by decide +kernel
theorem pf_76_47 : pd_fetch 76 47 = some (.ineg, 48) := by decide +kernel
theorem pf_76_48 : pd_fetch 76 48 = some (.if_icmp .lt (Int.ofNat 61), 51) := by decide +kernel
theorem pf_76_51 : pd_fetch 76 51 = some (.iload 3, 52) := by decide +kernel
theorem pf_76_52 : pd_fetch 76 52 = some (.iload 4, 54) := by decide +kernel
theorem pf_76_54 : pd_fetch 76 54 = some (.if_icmp .gt (Int.ofNat 61), 57) := by decide +kernel
theorem pf_76_57 : pd_fetch 76 57 = some (.iconst 1, 58) := by decide +kernel
theorem pf_76_58 : pd_fetch 76 58 = some (.goto (Int.ofNat 62), 61) := by decide +kernel
theorem pf_76_61 : pd_fetch 76 61 = some (.iconst 0, 62) := by decide +kernel
theorem pf_76_62 : pd_fetch 76 62 = some (.invokestatic 96, 65) := by decide +kernel
theorem pf_76_65 : pd_fetch 76 65 = some (.aload 0, 66) := by decide +kernel
theorem pf_76_66 : pd_fetch 76 66 = some (.getfield 507, 69) := by decide +kernel
theorem pf_76_69 : pd_fetch 76 69 = some (.aload 0, 70) := by decide +kernel
theorem pf_76_70 : pd_fetch 76 70 = some (.getfield 505, 73) := by decide +kernel
theorem pf_76_73 : pd_fetch 76 73 = some (.invokevirtual 22, 76) := by decide +kernel
theorem pf_76_76 : pd_fetch 76 76 = some (.aload 0, 77) := by decide +kernel
theorem pf_76_77 : pd_fetch 76 77 = some (.iload 1, 78) := by decide +kernel
theorem pf_76_78 : pd_fetch 76 78 = some (.iload 2, 79) := by decide +kernel
theorem pf_76_79 : pd_fetch 76 79 = some (.invokevirtual 100, 82) := by decide +kernel
theorem pf_76_82 : pd_fetch 76 82 = some (.istore 5, 84) := by decide +kernel
theorem pf_76_84 : pd_fetch 76 84 = some (.aload 0, 85) := by decide +kernel
theorem pf_76_85 : pd_fetch 76 85 = some (.getfield 505, 88) := by decide +kernel
theorem pf_76_88 : pd_fetch 76 88 = some (.getfield 401, 91) := by decide +kernel
theorem pf_76_91 : pd_fetch 76 91 = some (.iload 5, 93) := by decide +kernel
theorem pf_76_93 : pd_fetch 76 93 = some (.iaload, 94) := by decide +kernel
theorem pf_76_94 : pd_fetch 76 94 = some (.istore 6, 96) := by decide +kernel
theorem pf_76_96 : pd_fetch 76 96 = some (.aload 0, 97) := by decide +kernel
theorem pf_76_97 : pd_fetch 76 97 = some (.getfield 505, 100) := by decide +kernel
theorem pf_76_100 : pd_fetch 76 100 = some (.getfield 401, 103) := by decide +kernel
theorem pf_76_103 : pd_fetch 76 103 = some (.iload 5, 105) := by decide +kernel
theorem pf_76_105 : pd_fetch 76 105 = some (.iload 3, 106) := by decide +kernel
theorem pf_76_106 : pd_fetch 76 106 = some (.iastore, 107) := by decide +kernel
theorem pf_76_107 : pd_fetch 76 107 = some (.iload 6, 109) := by decide +kernel
theorem pf_76_109 : pd_fetch 76 109 = some (.ireturn, 110) := by decide +kernel
theorem pf_77_0 : pd_fetch 77 0 = some (.aload 0, 1) := by decide +kernel
theorem pf_77_1 : pd_fetch 77 1 = some (.getfield 507, 4) := by decide +kernel
theorem pf_77_4 : pd_fetch 77 4 = some (.getfield 100, 7) := by decide +kernel
theorem pf_77_7 : pd_fetch 77 7 = some (.iconst 1, 8) := by decide +kernel
theorem pf_77_8 : pd_fetch 77 8 = some (.if_icmp .ge (Int.ofNat 21), 11) := by decide +kernel
theorem pf_77_11 : pd_fetch 77 11 = some (.new 1001, 14) := by decide +kernel
theorem pf_77_14 : pd_fetch 77 14 = some (.dup, 15) := by decide +kernel
theorem pf_77_21 : pd_fetch 77 21 = some (.aload 0, 22) := by decide +kernel
theorem pf_77_22 : pd_fetch 77 22 = some (.getfield 507, 25) := by decide +kernel
theorem pf_77_25 : pd_fetch 77 25 = some (.aload 0, 26) := by decide +kernel
theorem pf_77_26 : pd_fetch 77 26 = some (.getfield 505, 29) := by decide +kernel
theorem pf_77_29 : pd_fetch 77 29 = some (.invokevirtual 23, 32) := by decide +kernel
theorem pf_77_32 : pd_fetch 77 32 = some (.aload 0, 33) := by decide +kernel
theorem pf_77_33 : pd_fetch 77 33 = some (.getfield 507, 36) := by decide +kernel
theorem pf_77_36 : pd_fetch 77 36 = some (.getfield 100, 39) := by decide +kernel
theorem pf_77_39 : pd_fetch 77 39 = some (.ireturn, 40) := by decide +kernel
theorem pf_78_0 : pd_fetch 78 0 = some (.iload 1, 1) := by decide +kernel
theorem pf_78_1 : pd_fetch 78 1 = some (.aload 0, 2) := by decide +kernel
theorem pf_78_2 : pd_fetch 78 2 = some (.getfield 503, 5) := by decide +kernel
theorem pf_78_5 : pd_fetch 78 5 = some (.getfield 200, 8) := by decide +kernel
theorem pf_78_8 : pd_fetch 78 8 = some (.invokestatic 95, 11) := by decide +kernel
theorem pf_78_11 : pd_fetch 78 11 = some (.aload 0, 12) := by decide +kernel
theorem pf_78_12 : pd_fetch 78 12 = some (.getfield 504, 15) := by decide +kernel
theorem pf_78_15 : pd_fetch 78 15 = some (.aload 0, 16) := by decide +kernel
theorem pf_78_16 : pd_fetch 78 16 = some (.getfield 505, 19) := by decide +kernel
theorem pf_78_19 : pd_fetch 78 19 = some (.invokevirtual 1, 22) := by decide +kernel
theorem pf_78_22 : pd_fetch 78 22 = some (.aload 0, 23) := by decide +kernel
theorem pf_78_23 : pd_fetch 78 23 = some (.getfield 504, 26) := by decide +kernel
theorem pf_78_26 : pd_fetch 78 26 = some (.getfield 1, 29) := by decide +kernel
theorem pf_78_29 : pd_fetch 78 29 = some (.iload 1, 30) := by decide +kernel
theorem pf_78_30 : pd_fetch 78 30 = some (.iaload, 31) := by decide +kernel
theorem pf_78_31 : pd_fetch 78 31 = some (.ireturn, 32) := by decide +kernel
theorem pf_79_0 : pd_fetch 79 0 = some (.iload 1, 1) := by decide +kernel
theorem pf_79_1 : pd_fetch 79 1 = some (.aload 0, 2) := by decide +kernel
theorem pf_79_2 : pd_fetch 79 2 = some (.getfield 505, 5) := by decide +kernel
theorem pf_79_5 : pd_fetch 79 5 = some (.getfield 400, 8) := by decide +kernel
theorem pf_79_8 : pd_fetch 79 8 = some (.invokestatic 95, 11) := by decide +kernel
theorem pf_79_11 : pd_fetch 79 11 = some (.aload 0, 12) := by decide +kernel
theorem pf_79_12 : pd_fetch 79 12 = some (.getfield 504, 15) := by decide +kernel
theorem pf_79_15 : pd_fetch 79 15 = some (.aload 0, 16) := by decide +kernel
theorem pf_79_16 : pd_fetch 79 16 = some (.getfield 505, 19) := by decide +kernel
theorem pf_79_19 : pd_fetch 79 19 = some (.invokevirtual 1, 22) := by decide +kernel
theorem pf_79_22 : pd_fetch 79 22 = some (.aload 0, 23) := by decide +kernel
theorem pf_79_23 : pd_fetch 79 23 = some (.getfield 504, 26) := by decide +kernel
theorem pf_79_26 : pd_fetch 79 26 = some (.getfield 2, 29) := by decide +kernel
theorem pf_79_29 : pd_fetch 79 29 = some (.iload 1, 30) := by decide +kernel
theorem pf_79_30 : pd_fetch 79 30 = some (.iaload, 31) := by decide +kernel
theorem pf_79_31 : pd_fetch 79 31 = some (.ireturn, 32) := by decide +kernel
theorem pf_80_0 : pd_fetch 80 0 = some (.iload 1, 1) := by decide +kernel
theorem pf_80_1 : pd_fetch 80 1 = some (.iload 2, 2) := by decide +kernel
theorem pf_80_2 : pd_fetch 80 2 = some (.ifCond .eq (Int.ofNat 15), 5) := by decide +kernel
theorem pf_80_5 : pd_fetch 80 5 = some (.aload 0, 6) := by decide +kernel
theorem pf_80_6 : pd_fetch 80 6 = some (.getfield 503, 9) := by decide +kernel
theorem pf_80_9 : pd_fetch 80 9 = some (.getfield 202, 12) := by decide +kernel
theorem pf_80_12 : pd_fetch 80 12 = some (.goto (Int.ofNat 22), 15) := by decide +kernel
theorem pf_80_15 : pd_fetch 80 15 = some (.aload 0, 16) := by decide +kernel
theorem pf_80_16 : pd_fetch 80 16 = some (.getfield 503, 19) := by decide +kernel
theorem pf_80_19 : pd_fetch 80 19 = some (.getfield 200, 22) := by decide +kernel
theorem pf_80_22 : pd_fetch 80 22 = some (.invokestatic 95, 25) := by decide +kernel
theorem pf_80_25 : pd_fetch 80 25 = some (.aload 0, 26) := by decide +kernel
theorem pf_80_26 : pd_fetch 80 26 = some (.getfield 504, 29) := by decide +kernel
theorem pf_80_29 : pd_fetch 80 29 = some (.aload 0, 30) := by decide +kernel
theorem pf_80_30 : pd_fetch 80 30 = some (.getfield 505, 33) := by decide +kernel
theorem pf_80_33 : pd_fetch 80 33 = some (.invokevirtual 1, 36) := by decide +kernel
theorem pf_80_36 : pd_fetch 80 36 = some (.iload 2, 37) := by decide +kernel
theorem pf_80_37 : pd_fetch 80 37 = some (.ifCond .eq (Int.ofNat 58), 40) := by decide +kernel
theorem pf_80_40 : pd_fetch 80 40 = some (.aload 0, 41) := by decide +kernel
theorem pf_80_41 : pd_fetch 80 41 = some (.getfield 503, 44) := by decide +kernel
theorem pf_80_44 : pd_fetch 80 44 = some (.iload 1, 45) := by decide +kernel
theorem pf_80_45 : pd_fetch 80 45 = some (.aload 0, 46) := by decide +kernel
theorem pf_80_46 : pd_fetch 80 46 = some (.getfield 504, 49) := by decide +kernel
theorem pf_80_49 : pd_fetch 80 49 = some (.getfield 3, 52) := by decide +kernel
theorem pf_80_52 : pd_fetch 80 52 = some (.invokevirtual 38, 55) := by decide +kernel
theorem pf_80_55 : pd_fetch 80 55 = some (.goto (Int.ofNat 67), 58) := by decide +kernel
theorem pf_80_58 : pd_fetch 80 58 = some (.aload 0, 59) := by decide +kernel
theorem pf_80_59 : pd_fetch 80 59 = some (.getfield 504, 62) := by decide +kernel
theorem pf_80_62 : pd_fetch 80 62 = some (.getfield 3, 65) := by decide +kernel
theorem pf_80_65 : pd_fetch 80 65 = some (.iload 1, 66) := by decide +kernel
theorem pf_80_66 : pd_fetch 80 66 = some (.laload, 67) := by decide +kernel
theorem pf_80_67 : pd_fetch 80 67 = some (.lreturn, 68) := by decide +kernel
theorem pf_81_0 : pd_fetch 81 0 = some (.aload 0, 1) := by decide +kernel
theorem pf_81_1 : pd_fetch 81 1 = some (.getfield 504, 4) := by decide +kernel
theorem pf_81_4 : pd_fetch 81 4 = some (.aload 0, 5) := by decide +kernel
theorem pf_81_5 : pd_fetch 81 5 = some (.getfield 505, 8) := by decide +kernel
theorem pf_81_8 : pd_fetch 81 8 = some (.invokevirtual 4, 11) := by decide +kernel
theorem pf_81_11 : pd_fetch 81 11 = some (.lreturn, 12) := by decide +kernel
theorem pf_82_0 : pd_fetch 82 0 = some (.aload 0, 1) := by decide +kernel
theorem pf_82_1 : pd_fetch 82 1 = some (.getfield 504, 4) := by decide +kernel
theorem pf_82_4 : pd_fetch 82 4 = some (.aload 0, 5) := by decide +kernel
theorem pf_82_5 : pd_fetch 82 5 = some (.getfield 505, 8) := by decide +kernel
theorem pf_82_8 : pd_fetch 82 8 = some (.invokevirtual 7, 11) := by decide +kernel
theorem pf_82_11 : pd_fetch 82 11 = some (.lreturn, 12) := by decide +kernel
theorem pf_83_0 : pd_fetch 83 0 = some (.aload 0, 1) := by decide +kernel
theorem pf_83_1 : pd_fetch 83 1 = some (.getfield 504, 4) := by decide +kernel
theorem pf_83_4 : pd_fetch 83 4 = some (.aload 0, 5) := by decide +kernel
theorem pf_83_5 : pd_fetch 83 5 = some (.getfield 505, 8) := by decide +kernel
theorem pf_83_8 : pd_fetch 83 8 = some (.invokevirtual 8, 11) := by decide +kernel
theorem pf_83_11 : pd_fetch 83 11 = some (.ireturn, 12) := by decide +kernel
theorem pf_84_0 : pd_fetch 84 0 = some (.aload 0, 1) := by decide +kernel
theorem pf_84_1 : pd_fetch 84 1 = some (.getfield 504, 4) := by decide +kernel
theorem pf_84_4 : pd_fetch 84 4 = some (.aload 0, 5) := by decide +kernel
theorem pf_84_5 : pd_fetch 84 5 = some (.getfield 505, 8) := by decide +kernel
theorem pf_84_8 : pd_fetch 84 8 = some (.invokevirtual 1, 11) := by decide +kernel
theorem pf_84_11 : pd_fetch 84 11 = some (.aload 0, 12) := by decide +kernel
theorem pf_84_12 : pd_fetch 84 12 = some (.getfield 504, 15) := by decide +kernel
theorem pf_84_15 : pd_fetch 84 15 = some (.aload 0, 16) := by decide +kernel
theorem pf_84_16 : pd_fetch 84 16 = some (.getfield 505, 19) := by decide +kernel
theorem pf_84_19 : pd_fetch 84 19 = some (.invokevirtual 9, 22) := by decide +kernel
theorem pf_84_22 : pd_fetch 84 22 = some (.ireturn, 23) := by decide +kernel
theorem pf_85_0 : pd_fetch 85 0 = some (.aload 0, 1) := by decide +kernel
theorem pf_85_1 : pd_fetch 85 1 = some (.getfield 504, 4) := by decide +kernel
theorem pf_85_4 : pd_fetch 85 4 = some (.aload 0, 5) := by decide +kernel
theorem pf_85_5 : pd_fetch 85 5 = some (.getfield 505, 8) := by decide +kernel
theorem pf_85_8 : pd_fetch 85 8 = some (.invokevirtual 8, 11) := by decide +kernel
theorem pf_85_11 : pd_fetch 85 11 = some (.istore 1, 12) := by decide +kernel
theorem pf_85_12 : pd_fetch 85 12 = some (.aload 0, 13) := by decide +kernel
theorem pf_85_13 : pd_fetch 85 13 = some (.getfield 503, 16) := by decide +kernel
theorem pf_85_16 : pd_fetch 85 16 = some (.iload 1, 17) := by decide +kernel
theorem pf_85_17 : pd_fetch 85 17 = some (.aload 0, 18) := by decide +kernel
theorem pf_85_18 : pd_fetch 85 18 = some (.getfield 504, 21) := by decide +kernel
theorem pf_85_21 : pd_fetch 85 21 = some (.getfield 3, 24) := by decide +kernel
theorem pf_85_24 : pd_fetch 85 24 = some (.invokevirtual 38, 27) := by decide +kernel
theorem pf_85_27 : pd_fetch 85 27 = some (.lstore 2, 28) := by decide +kernel
theorem pf_85_28 : pd_fetch 85 28 = some (.iconst 0, 29) := by decide +kernel
theorem pf_85_29 : pd_fetch 85 29 = some (.istore 4, 31) := by decide +kernel
theorem pf_85_31 : pd_fetch 85 31 = some (.iconst 0, 32) := by decide +kernel
theorem pf_85_32 : pd_fetch 85 32 = some (.istore 5, 34) := by decide +kernel
theorem pf_85_34 : pd_fetch 85 34 = some (.iload 5, 36) := by decide +kernel
theorem pf_85_36 : pd_fetch 85 36 = some (.aload 0, 37) := by decide +kernel
theorem pf_85_37 : pd_fetch 85 37 = some (.getfield 503, 40) := by decide +kernel
theorem pf_85_40 : pd_fetch 85 40 = some (.getfield 202, 43) := by decide +kernel
theorem pf_85_43 : pd_fetch 85 43 = some (.if_icmp .ge (Int.ofNat 82), 46) := by decide +kernel
theorem pf_85_46 : pd_fetch 85 46 = some (.aload 0, 47) := by decide +kernel
theorem pf_85_47 : pd_fetch 85 47 = some (.getfield 503, 50) := by decide +kernel
theorem pf_85_50 : pd_fetch 85 50 = some (.iload 5, 52) := by decide +kernel
theorem pf_85_52 : pd_fetch 85 52 = some (.aload 0, 53) := by decide +kernel
theorem pf_85_53 : pd_fetch 85 53 = some (.getfield 504, 56) := by decide +kernel
theorem pf_85_56 : pd_fetch 85 56 = some (.getfield 3, 59) := by decide +kernel
theorem pf_85_59 : pd_fetch 85 59 = some (.invokevirtual 38, 62) := by decide +kernel
theorem pf_85_62 : pd_fetch 85 62 = some (.lload 2, 63) := by decide +kernel
theorem pf_85_63 : pd_fetch 85 63 = some (.lcmp, 64) := by decide +kernel
theorem pf_85_64 : pd_fetch 85 64 = some (.ifCond .ne (Int.ofNat 76), 67) := by decide +kernel
theorem pf_85_67 : pd_fetch 85 67 = some (.iload 4, 69) := by decide +kernel
theorem pf_85_69 : pd_fetch 85 69 = some (.iconst 1, 70) := by decide +kernel
theorem pf_85_70 : pd_fetch 85 70 = some (.iload 5, 72) := by decide +kernel
theorem pf_85_72 : pd_fetch 85 72 = some (.ishl, 73) := by decide +kernel
theorem pf_85_73 : pd_fetch 85 73 = some (.ior, 74) := by decide +kernel
theorem pf_85_74 : pd_fetch 85 74 = some (.istore 4, 76) := by decide +kernel
theorem pf_85_76 : pd_fetch 85 76 = some (.iinc 5 1, 79) := by decide +kernel
theorem pf_85_79 : pd_fetch 85 79 = some (.goto (Int.ofNat 34), 82) := by decide +kernel
theorem pf_85_82 : pd_fetch 85 82 = some (.iload 4, 84) := by decide +kernel
theorem pf_85_84 : pd_fetch 85 84 = some (.ireturn, 85) := by decide +kernel
theorem pf_86_0 : pd_fetch 86 0 = some (.iload 1, 1) := by decide +kernel
theorem pf_86_1 : pd_fetch 86 1 = some (.invokestatic 98, 4) := by decide +kernel
theorem pf_86_4 : pd_fetch 86 4 = some (.ifCond .eq (Int.ofNat 33), 7) := by decide +kernel
theorem pf_86_7 : pd_fetch 86 7 = some (.iload 2, 8) := by decide +kernel
theorem pf_86_8 : pd_fetch 86 8 = some (.invokestatic 98, 11) := by decide +kernel
theorem pf_86_11 : pd_fetch 86 11 = some (.ifCond .eq (Int.ofNat 33), 14) := by decide +kernel
theorem pf_86_14 : pd_fetch 86 14 = some (.iload 3, 15) := by decide +kernel
theorem pf_86_15 : pd_fetch 86 15 = some (.invokestatic 98, 18) := by decide +kernel
theorem pf_86_18 : pd_fetch 86 18 = some (.ifCond .eq (Int.ofNat 33), 21) := by decide +kernel
theorem pf_86_21 : pd_fetch 86 21 = some (.iload 4, 23) := by decide +kernel
theorem pf_86_23 : pd_fetch 86 23 = some (.invokestatic 98, 26) := by decide +kernel
theorem pf_86_26 : pd_fetch 86 26 = some (.ifCond .eq (Int.ofNat 33), 29) := by decide +kernel
theorem pf_86_29 : pd_fetch 86 29 = some (.iconst 1, 30) := by decide +kernel
theorem pf_86_30 : pd_fetch 86 30 = some (.goto (Int.ofNat 34), 33) := by decide +kernel
theorem pf_86_33 : pd_fetch 86 33 = some (.iconst 0, 34) := by decide +kernel
theorem pf_86_34 : pd_fetch 86 34 = some (.invokestatic 96, 37) := by decide +kernel
theorem pf_86_37 : pd_fetch 86 37 = some (.aload 0, 38) := by decide +kernel
theorem pf_86_38 : pd_fetch 86 38 = some (.getfield 511, 41) := by decide +kernel
theorem pf_86_41 : pd_fetch 86 41 = some (.iconst 0, 42) := by decide +kernel
theorem pf_86_42 : pd_fetch 86 42 = some (.iload 1, 43) := by decide +kernel
theorem pf_86_43 : pd_fetch 86 43 = some (.i2l, 44) := by decide +kernel
theorem pf_86_44 : pd_fetch 86 44 = some (.lastore, 45) := by decide +kernel
theorem pf_86_45 : pd_fetch 86 45 = some (.aload 0, 46) := by decide +kernel
theorem pf_86_46 : pd_fetch 86 46 = some (.getfield 511, 49) := by decide +kernel
theorem pf_86_49 : pd_fetch 86 49 = some (.iconst 1, 50) := by decide +kernel
theorem pf_86_50 : pd_fetch 86 50 = some (.iload 2, 51) := by decide +kernel
theorem pf_86_51 : pd_fetch 86 51 = some (.i2l, 52) := by decide +kernel
theorem pf_86_52 : pd_fetch 86 52 = some (.lastore, 53) := by decide +kernel
theorem pf_86_53 : pd_fetch 86 53 = some (.aload 0, 54) := by decide +kernel
theorem pf_86_54 : pd_fetch 86 54 = some (.getfield 511, 57) := by decide +kernel
theorem pf_86_57 : pd_fetch 86 57 = some (.iconst 2, 58) := by decide +kernel
theorem pf_86_58 : pd_fetch 86 58 = some (.iload 3, 59) := by decide +kernel
theorem pf_86_59 : pd_fetch 86 59 = some (.i2l, 60) := by decide +kernel
theorem pf_86_60 : pd_fetch 86 60 = some (.lastore, 61) := by decide +kernel
theorem pf_86_61 : pd_fetch 86 61 = some (.aload 0, 62) := by decide +kernel
theorem pf_86_62 : pd_fetch 86 62 = some (.getfield 511, 65) := by decide +kernel
theorem pf_86_65 : pd_fetch 86 65 = some (.iconst 3, 66) := by decide +kernel
theorem pf_86_66 : pd_fetch 86 66 = some (.iload 4, 68) := by decide +kernel
theorem pf_86_68 : pd_fetch 86 68 = some (.i2l, 69) := by decide +kernel
theorem pf_86_69 : pd_fetch 86 69 = some (.lastore, 70) := by decide +kernel
theorem pf_86_70 : pd_fetch 86 70 = some (.aload 0, 71) := by decide +kernel
theorem pf_86_71 : pd_fetch 86 71 = some (.getfield 503, 74) := by decide +kernel
theorem pf_86_74 : pd_fetch 86 74 = some (.aload 0, 75) := by decide +kernel
theorem pf_86_75 : pd_fetch 86 75 = some (.getfield 511, 78) := by decide +kernel
theorem pf_86_78 : pd_fetch 86 78 = some (.invokevirtual 39, 81) := by decide +kernel
theorem pf_86_81 : pd_fetch 86 81 = some (.ireturn, 82) := by decide +kernel
theorem pf_87_0 : pd_fetch 87 0 = some (.iconst 0, 1) := by decide +kernel
theorem pf_87_1 : pd_fetch 87 1 = some (.istore 1, 2) := by decide +kernel
theorem pf_87_2 : pd_fetch 87 2 = some (.aload 0, 3) := by decide +kernel
theorem pf_87_3 : pd_fetch 87 3 = some (.getfield 504, 6) := by decide +kernel
theorem pf_87_6 : pd_fetch 87 6 = some (.aload 0, 7) := by decide +kernel
theorem pf_87_7 : pd_fetch 87 7 = some (.getfield 505, 10) := by decide +kernel
theorem pf_87_10 : pd_fetch 87 10 = some (.iconst 0, 11) := by decide +kernel
theorem pf_87_11 : pd_fetch 87 11 = some (.invokevirtual 5, 14) := by decide +kernel
theorem pf_87_14 : pd_fetch 87 14 = some (.lstore 2, 15) := by decide +kernel
theorem pf_87_15 : pd_fetch 87 15 = some (.iconst 1, 16) := by decide +kernel
theorem pf_87_16 : pd_fetch 87 16 = some (.istore 4, 18) := by decide +kernel
theorem pf_87_18 : pd_fetch 87 18 = some (.iload 4, 20) := by decide +kernel
theorem pf_87_20 : pd_fetch 87 20 = some (.aload 0, 21) := by decide +kernel
theorem pf_87_21 : pd_fetch 87 21 = some (.getfield 503, 24) := by decide +kernel
theorem pf_87_24 : pd_fetch 87 24 = some (.getfield 202, 27) := by decide +kernel
theorem pf_87_27 : pd_fetch 87 27 = some (.if_icmp .ge (Int.ofNat 64), 30) := by decide +kernel
theorem pf_87_30 : pd_fetch 87 30 = some (.aload 0, 31) := by decide +kernel
theorem pf_87_31 : pd_fetch 87 31 = some (.getfield 504, 34) := by decide +kernel
theorem pf_87_34 : pd_fetch 87 34 = some (.aload 0, 35) := by decide +kernel
theorem pf_87_35 : pd_fetch 87 35 = some (.getfield 505, 38) := by decide +kernel
theorem pf_87_38 : pd_fetch 87 38 = some (.iload 4, 40) := by decide +kernel
theorem pf_87_40 : pd_fetch 87 40 = some (.invokevirtual 5, 43) := by decide +kernel
theorem pf_87_43 : pd_fetch 87 43 = some (.lstore 5, 45) := by decide +kernel
theorem pf_87_45 : pd_fetch 87 45 = some (.lload 5, 47) := by decide +kernel
theorem pf_87_47 : pd_fetch 87 47 = some (.lload 2, 48) := by decide +kernel
theorem pf_87_48 : pd_fetch 87 48 = some (.lcmp, 49) := by decide +kernel
theorem pf_87_49 : pd_fetch 87 49 = some (.ifCond .ge (Int.ofNat 58), 52) := by decide +kernel
theorem pf_87_52 : pd_fetch 87 52 = some (.lload 5, 54) := by decide +kernel
theorem pf_87_54 : pd_fetch 87 54 = some (.lstore 2, 55) := by decide +kernel
theorem pf_87_55 : pd_fetch 87 55 = some (.iload 4, 57) := by decide +kernel
theorem pf_87_57 : pd_fetch 87 57 = some (.istore 1, 58) := by decide +kernel
theorem pf_87_58 : pd_fetch 87 58 = some (.iinc 4 1, 61) := by decide +kernel
theorem pf_87_61 : pd_fetch 87 61 = some (.goto (Int.ofNat 18), 64) := by decide +kernel
theorem pf_87_64 : pd_fetch 87 64 = some (.iload 1, 65) := by decide +kernel
theorem pf_87_65 : pd_fetch 87 65 = some (.ireturn, 66) := by decide +kernel
theorem pf_88_0 : pd_fetch 88 0 = some (.iload 1, 1) := by decide +kernel
theorem pf_88_1 : pd_fetch 88 1 = some (.aload 0, 2) := by decide +kernel
theorem pf_88_2 : pd_fetch 88 2 = some (.getfield 503, 5) := by decide +kernel
theorem pf_88_5 : pd_fetch 88 5 = some (.getfield 202, 8) := by decide +kernel
theorem pf_88_8 : pd_fetch 88 8 = some (.invokestatic 95, 11) := by decide +kernel
theorem pf_88_11 : pd_fetch 88 11 = some (.iload 2, 12) := by decide +kernel
theorem pf_88_12 : pd_fetch 88 12 = some (.aload 0, 13) := by decide +kernel
theorem pf_88_13 : pd_fetch 88 13 = some (.getfield 503, 16) := by decide +kernel
theorem pf_88_16 : pd_fetch 88 16 = some (.getfield 202, 19) := by decide +kernel
theorem pf_88_19 : pd_fetch 88 19 = some (.invokestatic 95, 22) := by decide +kernel
theorem pf_88_22 : pd_fetch 88 22 = some (.aload 0, 23) := by decide +kernel
theorem pf_88_23 : pd_fetch 88 23 = some (.getfield 504, 26) := by decide +kernel
theorem pf_88_26 : pd_fetch 88 26 = some (.aload 0, 27) := by decide +kernel
theorem pf_88_27 : pd_fetch 88 27 = some (.getfield 505, 30) := by decide +kernel
theorem pf_88_30 : pd_fetch 88 30 = some (.iload 1, 31) := by decide +kernel
theorem pf_88_31 : pd_fetch 88 31 = some (.iload 2, 32) := by decide +kernel
theorem pf_88_32 : pd_fetch 88 32 = some (.invokevirtual 16, 35) := by decide +kernel
theorem pf_88_35 : pd_fetch 88 35 = some (.aload 0, 36) := by decide +kernel
theorem pf_88_36 : pd_fetch 88 36 = some (.getfield 504, 39) := by decide +kernel
theorem pf_88_39 : pd_fetch 88 39 = some (.getfield 6, 42) := by decide +kernel
theorem pf_88_42 : pd_fetch 88 42 = some (.lneg, 43) := by decide +kernel
theorem pf_88_43 : pd_fetch 88 43 = some (.jsr (0), 44) := by decide +kernel
theorem pf_88_44 : pd_fetch 88 44 = some (.invokestatic 1003, 47) := by decide +kernel
theorem pf_88_47 : pd_fetch 88 47 = some (.aload 0, 48) := by decide +kernel
theorem pf_88_48 : pd_fetch 88 48 = some (.getfield 504, 51) := by decide +kernel
theorem pf_88_51 : pd_fetch 88 51 = some (.getfield 7, 54) := by decide +kernel
theorem pf_88_54 : pd_fetch 88 54 = some (.invokestatic 1002, 57) := by decide +kernel
theorem pf_88_57 : pd_fetch 88 57 = some (.lstore 4, 59) := by decide +kernel
theorem pf_88_59 : pd_fetch 88 59 = some (.aload 0, 60) := by decide +kernel
theorem pf_88_60 : pd_fetch 88 60 = some (.getfield 504, 63) := by decide +kernel
theorem pf_88_63 : pd_fetch 88 63 = some (.getfield 7, 66) := by decide +kernel
theorem pf_88_66 : pd_fetch 88 66 = some (.jsr (0), 67) := by decide +kernel
theorem pf_88_67 : pd_fetch 88 67 = some (.lcmp, 68) := by decide +kernel
theorem pf_88_68 : pd_fetch 88 68 = some (.ifCond .le (Int.ofNat 81), 71) := by decide +kernel
theorem pf_88_71 : pd_fetch 88 71 = some (.aload 0, 72) := by decide +kernel
theorem pf_88_72 : pd_fetch 88 72 = some (.getfield 504, 75) := by decide +kernel
theorem pf_88_75 : pd_fetch 88 75 = some (.getfield 7, 78) := by decide +kernel
theorem pf_88_78 : pd_fetch 88 78 = some (.goto (Int.ofNat 82), 81) := by decide +kernel
theorem pf_88_81 : pd_fetch 88 81 = some (.jsr (1), 82) := by decide +kernel
theorem pf_88_82 : pd_fetch 88 82 = some (.lstore 6, 84) := by decide +kernel
theorem pf_88_84 : pd_fetch 88 84 = some (.lload 4, 86) := by decide +kernel
theorem pf_88_86 : pd_fetch 88 86 = some (.lload 6, 88) := by decide +kernel
theorem pf_88_88 : pd_fetch 88 88 = some (.invokestatic 99, 91) := by decide +kernel
theorem pf_88_91 : pd_fetch 88 91 = some (.lstore 8, 93) := by decide +kernel
theorem pf_88_93 : pd_fetch 88 93 = some (.lload 8, 95) := by decide +kernel
theorem pf_88_95 : pd_fetch 88 95 = some (.jsr (1), 96) := by decide +kernel
theorem pf_88_96 : pd_fetch 88 96 = some (.lcmp, 97) := by decide +kernel
theorem pf_88_97 : pd_fetch 88 97 = some (.ifCond .ge (Int.ofNat 112), 100) := by decide +kernel
theorem pf_88_100 : pd_fetch 88 100 = some (.iload 3, 101) := by decide +kernel
theorem pf_88_101 : pd_fetch 88 101 = some (.ifCond .eq (Int.ofNat 109), 104) := by decide +kernel
theorem pf_88_104 : pd_fetch 88 104 = some (.lload 4, 106) := by decide +kernel
theorem pf_88_106 : pd_fetch 88 106 = some (.goto (Int.ofNat 111), 109) := by decide +kernel
theorem pf_88_109 : pd_fetch 88 109 = some (.lload 6, 111) := by decide +kernel
theorem pf_88_111 : pd_fetch 88 111 = some (.lreturn, 112) := by decide +kernel
theorem pf_88_112 : pd_fetch 88 112 = some (.iload 3, 113) := by decide +kernel
theorem pf_88_113 : pd_fetch 88 113 = some (.ifCond .eq (Int.ofNat 121), 116) := by decide +kernel
theorem pf_88_116 : pd_fetch 88 116 = some (.lload 4, 118) := by decide +kernel
theorem pf_88_118 : pd_fetch 88 118 = some (.goto (Int.ofNat 123), 121) := by decide +kernel
theorem pf_88_121 : pd_fetch 88 121 = some (.lload 6, 123) := by decide +kernel
theorem pf_88_123 : pd_fetch 88 123 = some (.lload 8, 125) := by decide +kernel
theorem pf_88_125 : pd_fetch 88 125 = some (.ldiv, 126) := by decide +kernel
theorem pf_88_126 : pd_fetch 88 126 = some (.lreturn, 127) := by decide +kernel
theorem pf_89_0 : pd_fetch 89 0 = some (.iload 1, 1) := by decide +kernel
theorem pf_89_1 : pd_fetch 89 1 = some (.invokestatic 97, 4) := by decide +kernel
theorem pf_89_4 : pd_fetch 89 4 = some (.ifCond .eq (Int.ofNat 20), 7) := by decide +kernel
theorem pf_89_7 : pd_fetch 89 7 = some (.iload 2, 8) := by decide +kernel
theorem pf_89_8 : pd_fetch 89 8 = some (.ifCond .lt (Int.ofNat 20), 11) := by decide +kernel
theorem pf_89_11 : pd_fetch 89 11 = some (.iload 2, 12) := by decide +kernel
theorem pf_89_12 : pd_fetch 89 12 = some (.iconst 3, 13) := by decide +kernel
theorem pf_89_13 : pd_fetch 89 13 = some (.if_icmp .gt (Int.ofNat 20), 16) := by decide +kernel
theorem pf_89_16 : pd_fetch 89 16 = some (.iconst 1, 17) := by decide +kernel
theorem pf_89_17 : pd_fetch 89 17 = some (.goto (Int.ofNat 21), 20) := by decide +kernel
theorem pf_89_20 : pd_fetch 89 20 = some (.iconst 0, 21) := by decide +kernel
theorem pf_89_21 : pd_fetch 89 21 = some (.invokestatic 96, 24) := by decide +kernel
theorem pf_89_24 : pd_fetch 89 24 = some (.aload 0, 25) := by decide +kernel
theorem pf_89_25 : pd_fetch 89 25 = some (.getfield 504, 28) := by decide +kernel
theorem pf_89_28 : pd_fetch 89 28 = some (.aload 0, 29) := by decide +kernel
theorem pf_89_29 : pd_fetch 89 29 = some (.getfield 505, 32) := by decide +kernel
theorem pf_89_32 : pd_fetch 89 32 = some (.iload 1, 33) := by decide +kernel
theorem pf_89_33 : pd_fetch 89 33 = some (.invokevirtual 10, 36) := by decide +kernel
theorem pf_89_36 : pd_fetch 89 36 = some (.ifCond .ne (Int.ofNat 43), 39) := by decide +kernel
theorem pf_89_39 : pd_fetch 89 39 = some (.jsr (-9), 42) := by decide +kernel
theorem pf_89_42 : pd_fetch 89 42 = some (.lreturn, 43) := by decide +kernel
theorem pf_89_43 : pd_fetch 89 43 = some (.aload 0, 44) := by decide +kernel
theorem pf_89_44 : pd_fetch 89 44 = some (.getfield 506, 47) := by decide +kernel
theorem pf_89_47 : pd_fetch 89 47 = some (.aload 0, 48) := by decide +kernel
theorem pf_89_48 : pd_fetch 89 48 = some (.getfield 505, 51) := by decide +kernel
theorem pf_89_51 : pd_fetch 89 51 = some (.invokevirtual 52, 54) := by decide +kernel
theorem pf_89_54 : pd_fetch 89 54 = some (.aload 0, 55) := by decide +kernel
theorem pf_89_55 : pd_fetch 89 55 = some (.getfield 504, 58) := by decide +kernel
theorem pf_89_58 : pd_fetch 89 58 = some (.aload 0, 59) := by decide +kernel
theorem pf_89_59 : pd_fetch 89 59 = some (.getfield 506, 62) := by decide +kernel
theorem pf_89_62 : pd_fetch 89 62 = some (.iload 1, 63) := by decide +kernel
theorem pf_89_63 : pd_fetch 89 63 = some (.invokevirtual 11, 66) := by decide +kernel
theorem pf_89_66 : pd_fetch 89 66 = some (.istore 3, 67) := by decide +kernel
theorem pf_89_67 : pd_fetch 89 67 = some (.iload 2, 68) := by decide +kernel
theorem pf_89_68 : pd_fetch 89 68 = some (.tableswitch (Int.ofNat 123) 0 2 #[Int.ofNat 96, Int.ofNat 99, Int.ofNat 111], 96) := by decide +kernel
theorem pf_89_96 : pd_fetch 89 96 = some (.iload 3, 97) := by decide +kernel
theorem pf_89_97 : pd_fetch 89 97 = some (.i2l, 98) := by decide +kernel
theorem pf_89_98 : pd_fetch 89 98 = some (.lreturn, 99) := by decide +kernel
theorem pf_89_99 : pd_fetch 89 99 = some (.aload 0, 100) := by decide +kernel
theorem pf_89_100 : pd_fetch 89 100 = some (.getfield 504, 103) := by decide +kernel
theorem pf_89_103 : pd_fetch 89 103 = some (.aload 0, 104) := by decide +kernel
theorem pf_89_104 : pd_fetch 89 104 = some (.getfield 506, 107) := by decide +kernel
theorem pf_89_107 : pd_fetch 89 107 = some (.invokevirtual 4, 110) := by decide +kernel
theorem pf_89_110 : pd_fetch 89 110 = some (.lreturn, 111) := by decide +kernel
theorem pf_89_111 : pd_fetch 89 111 = some (.aload 0, 112) := by decide +kernel
theorem pf_89_112 : pd_fetch 89 112 = some (.getfield 504, 115) := by decide +kernel
theorem pf_89_115 : pd_fetch 89 115 = some (.aload 0, 116) := by decide +kernel
theorem pf_89_116 : pd_fetch 89 116 = some (.getfield 506, 119) := by decide +kernel
theorem pf_89_119 : pd_fetch 89 119 = some (.invokevirtual 7, 122) := by decide +kernel
theorem pf_89_122 : pd_fetch 89 122 = some (.lreturn, 123) := by decide +kernel
theorem pf_89_123 : pd_fetch 89 123 = some (.aload 0, 124) := by decide +kernel
theorem pf_89_124 : pd_fetch 89 124 = some (.getfield 506, 127) := by decide +kernel
theorem pf_89_127 : pd_fetch 89 127 = some (.getfield 402, 130) := by decide +kernel
theorem pf_89_130 : pd_fetch 89 130 = some (.i2l, 131) := by decide +kernel
theorem pf_89_131 : pd_fetch 89 131 = some (.lreturn, 132) := by decide +kernel
theorem pf_90_0 : pd_fetch 90 0 = some (.iload 1, 1) := by decide +kernel
theorem pf_90_1 : pd_fetch 90 1 = some (.invokestatic 97, 4) := by decide +kernel
theorem pf_90_4 : pd_fetch 90 4 = some (.ifCond .eq (Int.ofNat 17), 7) := by decide +kernel
theorem pf_90_7 : pd_fetch 90 7 = some (.lload 2, 8) := by decide +kernel
theorem pf_90_8 : pd_fetch 90 8 = some (.jsr (0), 9) := by decide +kernel
theorem pf_90_9 : pd_fetch 90 9 = some (.lcmp, 10) := by decide +kernel
theorem pf_90_10 : pd_fetch 90 10 = some (.ifCond .lt (Int.ofNat 17), 13) := by decide +kernel
theorem pf_90_13 : pd_fetch 90 13 = some (.iconst 1, 14) := by decide +kernel
theorem pf_90_14 : pd_fetch 90 14 = some (.goto (Int.ofNat 18), 17) := by decide +kernel
theorem pf_90_17 : pd_fetch 90 17 = some (.iconst 0, 18) := by decide +kernel
theorem pf_90_18 : pd_fetch 90 18 = some (.invokestatic 96, 21) := by decide +kernel
theorem pf_90_21 : pd_fetch 90 21 = some (.aload 0, 22) := by decide +kernel
theorem pf_90_22 : pd_fetch 90 22 = some (.getfield 506, 25) := by decide +kernel
theorem pf_90_25 : pd_fetch 90 25 = some (.aload 0, 26) := by decide +kernel
theorem pf_90_26 : pd_fetch 90 26 = some (.getfield 505, 29) := by decide +kernel
theorem pf_90_29 : pd_fetch 90 29 = some (.invokevirtual 52, 32) := by decide +kernel
theorem pf_90_32 : pd_fetch 90 32 = some (.iconst 0, 33) := by decide +kernel
theorem pf_90_33 : pd_fetch 90 33 = some (.istore 4, 35) := by decide +kernel
theorem pf_90_35 : pd_fetch 90 35 = some (.iload 4, 37) := by decide +kernel
theorem pf_90_37 : pd_fetch 90 37 = some (.iconst 50, 39) := by decide +kernel
theorem pf_90_39 : pd_fetch 90 39 = some (.if_icmp .gt (Int.ofNat 103), 42) := by decide +kernel
theorem pf_90_42 : pd_fetch 90 42 = some (.aload 0, 43) := by decide +kernel
theorem pf_90_43 : pd_fetch 90 43 = some (.getfield 504, 46) := by decide +kernel
theorem pf_90_46 : pd_fetch 90 46 = some (.aload 0, 47) := by decide +kernel
theorem pf_90_47 : pd_fetch 90 47 = some (.getfield 506, 50) := by decide +kernel
theorem pf_90_50 : pd_fetch 90 50 = some (.invokevirtual 7, 53) := by decide +kernel
theorem pf_90_53 : pd_fetch 90 53 = some (.lload 2, 54) := by decide +kernel
theorem pf_90_54 : pd_fetch 90 54 = some (.lcmp, 55) := by decide +kernel
theorem pf_90_55 : pd_fetch 90 55 = some (.ifCond .gt (Int.ofNat 61), 58) := by decide +kernel
theorem pf_90_58 : pd_fetch 90 58 = some (.iload 4, 60) := by decide +kernel
theorem pf_90_60 : pd_fetch 90 60 = some (.ireturn, 61) := by decide +kernel
theorem pf_90_61 : pd_fetch 90 61 = some (.aload 0, 62) := by decide +kernel
theorem pf_90_62 : pd_fetch 90 62 = some (.getfield 504, 65) := by decide +kernel
theorem pf_90_65 : pd_fetch 90 65 = some (.aload 0, 66) := by decide +kernel
theorem pf_90_66 : pd_fetch 90 66 = some (.getfield 506, 69) := by decide +kernel
theorem pf_90_69 : pd_fetch 90 69 = some (.iload 1, 70) := by decide +kernel
theorem pf_90_70 : pd_fetch 90 70 = some (.invokevirtual 10, 73) := by decide +kernel
theorem pf_90_73 : pd_fetch 90 73 = some (.ifCond .ne (Int.ofNat 79), 76) := by decide +kernel
theorem pf_90_76 : pd_fetch 90 76 = some (.iconst (-9), 78) := by decide +kernel
theorem pf_90_78 : pd_fetch 90 78 = some (.ireturn, 79) := by decide +kernel
theorem pf_90_79 : pd_fetch 90 79 = some (.aload 0, 80) := by decide +kernel
theorem pf_90_80 : pd_fetch 90 80 = some (.getfield 504, 83) := by decide +kernel
theorem pf_90_83 : pd_fetch 90 83 = some (.aload 0, 84) := by decide +kernel
theorem pf_90_84 : pd_fetch 90 84 = some (.getfield 506, 87) := by decide +kernel
theorem pf_90_87 : pd_fetch 90 87 = some (.iload 1, 88) := by decide +kernel
theorem pf_90_88 : pd_fetch 90 88 = some (.invokevirtual 11, 91) := by decide +kernel
theorem pf_90_91 : pd_fetch 90 91 = some (.ifCond .ne (Int.ofNat 97), 94) := by decide +kernel
theorem pf_90_94 : pd_fetch 90 94 = some (.iconst (-9), 96) := by decide +kernel
theorem pf_90_96 : pd_fetch 90 96 = some (.ireturn, 97) := by decide +kernel
theorem pf_90_97 : pd_fetch 90 97 = some (.iinc 4 1, 100) := by decide +kernel
theorem pf_90_100 : pd_fetch 90 100 = some (.goto (Int.ofNat 35), 103) := by decide +kernel
theorem pf_90_103 : pd_fetch 90 103 = some (.iconst (-9), 105) := by decide +kernel
theorem pf_90_105 : pd_fetch 90 105 = some (.ireturn, 106) := by decide +kernel
theorem pf_91_0 : pd_fetch 91 0 = some (.iload 1, 1) := by decide +kernel
theorem pf_91_1 : pd_fetch 91 1 = some (.iconst 1, 2) := by decide +kernel
theorem pf_91_2 : pd_fetch 91 2 = some (.if_icmp .lt (Int.ofNat 20), 5) := by decide +kernel
theorem pf_91_5 : pd_fetch 91 5 = some (.iload 1, 6) := by decide +kernel
theorem pf_91_6 : pd_fetch 91 6 = some (.iconst 4, 7) := by decide +kernel
theorem pf_91_7 : pd_fetch 91 7 = some (.if_icmp .gt (Int.ofNat 20), 10) := by decide +kernel
theorem pf_91_10 : pd_fetch 91 10 = some (.lload 2, 11) := by decide +kernel
theorem pf_91_11 : pd_fetch 91 11 = some (.jsr (0), 12) := by decide +kernel
theorem pf_91_12 : pd_fetch 91 12 = some (.lcmp, 13) := by decide +kernel
theorem pf_91_13 : pd_fetch 91 13 = some (.ifCond .lt (Int.ofNat 20), 16) := by decide +kernel
theorem pf_91_16 : pd_fetch 91 16 = some (.iconst 1, 17) := by decide +kernel
theorem pf_91_17 : pd_fetch 91 17 = some (.goto (Int.ofNat 21), 20) := by decide +kernel
theorem pf_91_20 : pd_fetch 91 20 = some (.iconst 0, 21) := by decide +kernel
theorem pf_91_21 : pd_fetch 91 21 = some (.invokestatic 96, 24) := by decide +kernel
theorem pf_91_24 : pd_fetch 91 24 = some (.lload 2, 25) := by decide +kernel
theorem pf_91_25 : pd_fetch 91 25 = some (.lstore 4, 27) := by decide +kernel
theorem pf_91_27 : pd_fetch 91 27 = some (.iload 1, 28) := by decide +kernel
theorem pf_91_28 : pd_fetch 91 28 = some (.iconst 1, 29) := by decide +kernel
theorem pf_91_29 : pd_fetch 91 29 = some (.isub, 30) := by decide +kernel
theorem pf_91_30 : pd_fetch 91 30 = some (.istore 6, 32) := by decide +kernel
theorem pf_91_32 : pd_fetch 91 32 = some (.iload 6, 34) := by decide +kernel
theorem pf_91_34 : pd_fetch 91 34 = some (.ifCond .lt (Int.ofNat 65), 37) := by decide +kernel
theorem pf_91_37 : pd_fetch 91 37 = some (.aload 0, 38) := by decide +kernel
theorem pf_91_38 : pd_fetch 91 38 = some (.getfield 512, 41) := by decide +kernel
theorem pf_91_41 : pd_fetch 91 41 = some (.iload 6, 43) := by decide +kernel
theorem pf_91_43 : pd_fetch 91 43 = some (.lload 4, 45) := by decide +kernel
theorem pf_91_45 : pd_fetch 91 45 = some (.jsr (10000), 48) := by decide +kernel
theorem pf_91_48 : pd_fetch 91 48 = some (.lrem, 49) := by decide +kernel
theorem pf_91_49 : pd_fetch 91 49 = some (.l2i, 50) := by decide +kernel
theorem pf_91_50 : pd_fetch 91 50 = some (.iastore, 51) := by decide +kernel
theorem pf_91_51 : pd_fetch 91 51 = some (.lload 4, 53) := by decide +kernel
theorem pf_91_53 : pd_fetch 91 53 = some (.jsr (10000), 56) := by decide +kernel
theorem pf_91_56 : pd_fetch 91 56 = some (.ldiv, 57) := by decide +kernel
theorem pf_91_57 : pd_fetch 91 57 = some (.lstore 4, 59) := by decide +kernel
theorem pf_91_59 : pd_fetch 91 59 = some (.iinc 6 (-1), 62) := by decide +kernel
theorem pf_91_62 : pd_fetch 91 62 = some (.goto (Int.ofNat 32), 65) := by decide +kernel
theorem pf_91_65 : pd_fetch 91 65 = some (.lload 4, 67) := by decide +kernel
theorem pf_91_67 : pd_fetch 91 67 = some (.jsr (0), 68) := by decide +kernel
theorem pf_91_68 : pd_fetch 91 68 = some (.lcmp, 69) := by decide +kernel
theorem pf_91_69 : pd_fetch 91 69 = some (.ifCond .ne (Int.ofNat 76), 72) := by decide +kernel
theorem pf_91_72 : pd_fetch 91 72 = some (.iconst 1, 73) := by decide +kernel
theorem pf_91_73 : pd_fetch 91 73 = some (.goto (Int.ofNat 77), 76) := by decide +kernel
theorem pf_91_76 : pd_fetch 91 76 = some (.iconst 0, 77) := by decide +kernel
theorem pf_91_77 : pd_fetch 91 77 = some (.invokestatic 96, 80) := by decide +kernel
theorem pf_91_80 : pd_fetch 91 80 = some (.aload 0, 81) := by decide +kernel
theorem pf_91_81 : pd_fetch 91 81 = some (.getfield 506, 84) := by decide +kernel
theorem pf_91_84 : pd_fetch 91 84 = some (.aload 0, 85) := by decide +kernel
theorem pf_91_85 : pd_fetch 91 85 = some (.getfield 505, 88) := by decide +kernel
theorem pf_91_88 : pd_fetch 91 88 = some (.invokevirtual 52, 91) := by decide +kernel
theorem pf_91_91 : pd_fetch 91 91 = some (.iconst 0, 92) := by decide +kernel
theorem pf_91_92 : pd_fetch 91 92 = some (.istore 6, 94) := by decide +kernel
theorem pf_91_94 : pd_fetch 91 94 = some (.iload 6, 96) := by decide +kernel
theorem pf_91_96 : pd_fetch 91 96 = some (.iload 1, 97) := by decide +kernel
theorem pf_91_97 : pd_fetch 91 97 = some (.if_icmp .ge (Int.ofNat 123), 100) := by decide +kernel
theorem pf_91_100 : pd_fetch 91 100 = some (.aload 0, 101) := by decide +kernel
theorem pf_91_101 : pd_fetch 91 101 = some (.aload 0, 102) := by decide +kernel
theorem pf_91_102 : pd_fetch 91 102 = some (.getfield 512, 105) := by decide +kernel
theorem pf_91_105 : pd_fetch 91 105 = some (.iload 6, 107) := by decide +kernel
theorem pf_91_107 : pd_fetch 91 107 = some (.iaload, 108) := by decide +kernel
theorem pf_91_108 : pd_fetch 91 108 = some (.invokevirtual 101, 111) := by decide +kernel
theorem pf_91_111 : pd_fetch 91 111 = some (.ifCond .ne (Int.ofNat 117), 114) := by decide +kernel
theorem pf_91_114 : pd_fetch 91 114 = some (.iload 6, 116) := by decide +kernel
theorem pf_91_116 : pd_fetch 91 116 = some (.ireturn, 117) := by decide +kernel
theorem pf_91_117 : pd_fetch 91 117 = some (.iinc 6 1, 120) := by decide +kernel
theorem pf_91_120 : pd_fetch 91 120 = some (.goto (Int.ofNat 94), 123) := by decide +kernel
theorem pf_91_123 : pd_fetch 91 123 = some (.iconst (-9), 125) := by decide +kernel
theorem pf_91_125 : pd_fetch 91 125 = some (.ireturn, 126) := by decide +kernel
theorem pf_92_0 : pd_fetch 92 0 = some (.iload 3, 1) := by decide +kernel
theorem pf_92_1 : pd_fetch 92 1 = some (.iconst 1, 2) := by decide +kernel
theorem pf_92_2 : pd_fetch 92 2 = some (.if_icmp .lt (Int.ofNat 15), 5) := by decide +kernel
theorem pf_92_5 : pd_fetch 92 5 = some (.iload 3, 6) := by decide +kernel
theorem pf_92_6 : pd_fetch 92 6 = some (.iconst 50, 8) := by decide +kernel
theorem pf_92_8 : pd_fetch 92 8 = some (.if_icmp .gt (Int.ofNat 15), 11) := by decide +kernel
theorem pf_92_11 : pd_fetch 92 11 = some (.iconst 1, 12) := by decide +kernel
theorem pf_92_12 : pd_fetch 92 12 = some (.goto (Int.ofNat 16), 15) := by decide +kernel
theorem pf_92_15 : pd_fetch 92 15 = some (.iconst 0, 16) := by decide +kernel
theorem pf_92_16 : pd_fetch 92 16 = some (.invokestatic 96, 19) := by decide +kernel
theorem pf_92_19 : pd_fetch 92 19 = some (.aload 0, 20) := by decide +kernel
theorem pf_92_20 : pd_fetch 92 20 = some (.getfield 506, 23) := by decide +kernel
theorem pf_92_23 : pd_fetch 92 23 = some (.aload 0, 24) := by decide +kernel
theorem pf_92_24 : pd_fetch 92 24 = some (.getfield 505, 27) := by decide +kernel
theorem pf_92_27 : pd_fetch 92 27 = some (.invokevirtual 52, 30) := by decide +kernel
theorem pf_92_30 : pd_fetch 92 30 = some (.lload 1, 31) := by decide +kernel
theorem pf_92_31 : pd_fetch 92 31 = some (.lstore 4, 33) := by decide +kernel
theorem pf_92_33 : pd_fetch 92 33 = some (.iconst 0, 34) := by decide +kernel
theorem pf_92_34 : pd_fetch 92 34 = some (.istore 6, 36) := by decide +kernel
theorem pf_92_36 : pd_fetch 92 36 = some (.iload 6, 38) := by decide +kernel
theorem pf_92_38 : pd_fetch 92 38 = some (.iload 3, 39) := by decide +kernel
theorem pf_92_39 : pd_fetch 92 39 = some (.if_icmp .ge (Int.ofNat 70), 42) := by decide +kernel
theorem pf_92_42 : pd_fetch 92 42 = some (.lload 4, 44) := by decide +kernel
theorem pf_92_44 : pd_fetch 92 44 = some (.jsr (6364136223846793005), 47) := by decide +kernel
theorem pf_92_47 : pd_fetch 92 47 = some (.lmul, 48) := by decide +kernel
theorem pf_92_48 : pd_fetch 92 48 = some (.jsr (1442695040888963407), 51) := by decide +kernel
theorem pf_92_51 : pd_fetch 92 51 = some (.ladd, 52) := by decide +kernel
theorem pf_92_52 : pd_fetch 92 52 = some (.lstore 4, 54) := by decide +kernel
theorem pf_92_54 : pd_fetch 92 54 = some (.aload 0, 55) := by decide +kernel
theorem pf_92_55 : pd_fetch 92 55 = some (.lload 4, 57) := by decide +kernel
theorem pf_92_57 : pd_fetch 92 57 = some (.iconst 33, 59) := by decide +kernel
theorem pf_92_59 : pd_fetch 92 59 = some (.lushr, 60) := by decide +kernel
theorem pf_92_60 : pd_fetch 92 60 = some (.l2i, 61) := by decide +kernel
theorem pf_92_61 : pd_fetch 92 61 = some (.invokevirtual 105, 64) := by decide +kernel
theorem pf_92_64 : pd_fetch 92 64 = some (.iinc 6 1, 67) := by decide +kernel
theorem pf_92_67 : pd_fetch 92 67 = some (.goto (Int.ofNat 36), 70) := by decide +kernel
theorem pf_92_70 : pd_fetch 92 70 = some (.aload 0, 71) := by decide +kernel
theorem pf_92_71 : pd_fetch 92 71 = some (.getfield 504, 74) := by decide +kernel
theorem pf_92_74 : pd_fetch 92 74 = some (.aload 0, 75) := by decide +kernel
theorem pf_92_75 : pd_fetch 92 75 = some (.getfield 506, 78) := by decide +kernel
theorem pf_92_78 : pd_fetch 92 78 = some (.invokevirtual 7, 81) := by decide +kernel
theorem pf_92_81 : pd_fetch 92 81 = some (.lreturn, 82) := by decide +kernel
theorem pf_93_0 : pd_fetch 93 0 = some (.iload 1, 1) := by decide +kernel
theorem pf_93_1 : pd_fetch 93 1 = some (.iconst 2, 2) := by decide +kernel
theorem pf_93_2 : pd_fetch 93 2 = some (.invokestatic 95, 5) := by decide +kernel
theorem pf_93_5 : pd_fetch 93 5 = some (.aload 0, 6) := by decide +kernel
theorem pf_93_6 : pd_fetch 93 6 = some (.getfield 508, 9) := by decide +kernel
theorem pf_93_9 : pd_fetch 93 9 = some (.iload 1, 10) := by decide +kernel
theorem pf_93_10 : pd_fetch 93 10 = some (.aaload, 11) := by decide +kernel
theorem pf_93_11 : pd_fetch 93 11 = some (.aload 0, 12) := by decide +kernel
theorem pf_93_12 : pd_fetch 93 12 = some (.getfield 505, 15) := by decide +kernel
theorem pf_93_15 : pd_fetch 93 15 = some (.invokevirtual 52, 18) := by decide +kernel
theorem pf_93_18 : pd_fetch 93 18 = some (.aload 0, 19) := by decide +kernel
theorem pf_93_19 : pd_fetch 93 19 = some (.getfield 509, 22) := by decide +kernel
theorem pf_93_22 : pd_fetch 93 22 = some (.iload 1, 23) := by decide +kernel
theorem pf_93_23 : pd_fetch 93 23 = some (.iconst 1, 24) := by decide +kernel
theorem pf_93_24 : pd_fetch 93 24 = some (.bastore, 25) := by decide +kernel
theorem pf_93_25 : pd_fetch 93 25 = some (.aload 0, 26) := by decide +kernel
theorem pf_93_26 : pd_fetch 93 26 = some (.getfield 505, 29) := by decide +kernel
theorem pf_93_29 : pd_fetch 93 29 = some (.getfield 402, 32) := by decide +kernel
theorem pf_93_32 : pd_fetch 93 32 = some (.ireturn, 33) := by decide +kernel
theorem pf_94_0 : pd_fetch 94 0 = some (.iload 1, 1) := by decide +kernel
theorem pf_94_1 : pd_fetch 94 1 = some (.iconst 2, 2) := by decide +kernel
theorem pf_94_2 : pd_fetch 94 2 = some (.invokestatic 95, 5) := by decide +kernel
theorem pf_94_5 : pd_fetch 94 5 = some (.aload 0, 6) := by decide +kernel
theorem pf_94_6 : pd_fetch 94 6 = some (.getfield 509, 9) := by decide +kernel
theorem pf_94_9 : pd_fetch 94 9 = some (.iload 1, 10) := by decide +kernel
theorem pf_94_10 : pd_fetch 94 10 = some (.baload, 11) := by decide +kernel
theorem pf_94_11 : pd_fetch 94 11 = some (.ifCond .ne (Int.ofNat 25), 14) := by decide +kernel
theorem pf_94_14 : pd_fetch 94 14 = some (.new 1001, 17) := by decide +kernel
theorem pf_94_17 : pd_fetch 94 17 = some (.dup, 18) := by decide +kernel
theorem pf_94_25 : pd_fetch 94 25 = some (.aload 0, 26) := by decide +kernel
theorem pf_94_26 : pd_fetch 94 26 = some (.getfield 505, 29) := by decide +kernel
theorem pf_94_29 : pd_fetch 94 29 = some (.aload 0, 30) := by decide +kernel
theorem pf_94_30 : pd_fetch 94 30 = some (.getfield 508, 33) := by decide +kernel
theorem pf_94_33 : pd_fetch 94 33 = some (.iload 1, 34) := by decide +kernel
theorem pf_94_34 : pd_fetch 94 34 = some (.aaload, 35) := by decide +kernel
theorem pf_94_35 : pd_fetch 94 35 = some (.invokevirtual 52, 38) := by decide +kernel
theorem pf_94_38 : pd_fetch 94 38 = some (.aload 0, 39) := by decide +kernel
theorem pf_94_39 : pd_fetch 94 39 = some (.getfield 507, 42) := by decide +kernel
theorem pf_94_42 : pd_fetch 94 42 = some (.invokevirtual 24, 45) := by decide +kernel
theorem pf_94_45 : pd_fetch 94 45 = some (.aload 0, 46) := by decide +kernel
theorem pf_94_46 : pd_fetch 94 46 = some (.getfield 505, 49) := by decide +kernel
theorem pf_94_49 : pd_fetch 94 49 = some (.getfield 402, 52) := by decide +kernel
theorem pf_94_52 : pd_fetch 94 52 = some (.ireturn, 53) := by decide +kernel
theorem pf_95_0 : pd_fetch 95 0 = some (.iload 0, 1) := by decide +kernel
theorem pf_95_1 : pd_fetch 95 1 = some (.ifCond .lt (Int.ofNat 9), 4) := by decide +kernel
theorem pf_95_4 : pd_fetch 95 4 = some (.iload 0, 5) := by decide +kernel
theorem pf_95_5 : pd_fetch 95 5 = some (.iload 1, 6) := by decide +kernel
theorem pf_95_6 : pd_fetch 95 6 = some (.if_icmp .lt (Int.ofNat 20), 9) := by decide +kernel
theorem pf_95_9 : pd_fetch 95 9 = some (.new 1002, 12) := by decide +kernel
theorem pf_95_12 : pd_fetch 95 12 = some (.dup, 13) := by decide +kernel
theorem pf_95_20 : pd_fetch 95 20 = some (.return_, 21) := by decide +kernel
theorem pf_96_0 : pd_fetch 96 0 = some (.iload 0, 1) := by decide +kernel
theorem pf_96_1 : pd_fetch 96 1 = some (.ifCond .ne (Int.ofNat 15), 4) := by decide +kernel
theorem pf_96_4 : pd_fetch 96 4 = some (.new 1000, 7) := by decide +kernel
theorem pf_96_7 : pd_fetch 96 7 = some (.dup, 8) := by decide +kernel
theorem pf_96_15 : pd_fetch 96 15 = some (.return_, 16) := by decide +kernel
theorem pf_97_0 : pd_fetch 97 0 = some (.iload 0, 1) := by decide +kernel
theorem pf_97_1 : pd_fetch 97 1 = some (.ifCond .lt (Int.ofNat 13), 4) := by decide +kernel
theorem pf_97_4 : pd_fetch 97 4 = some (.iload 0, 5) := by decide +kernel
theorem pf_97_5 : pd_fetch 97 5 = some (.iconst 2, 6) := by decide +kernel
theorem pf_97_6 : pd_fetch 97 6 = some (.if_icmp .gt (Int.ofNat 13), 9) := by decide +kernel
theorem pf_97_9 : pd_fetch 97 9 = some (.iconst 1, 10) := by decide +kernel
theorem pf_97_10 : pd_fetch 97 10 = some (.goto (Int.ofNat 14), 13) := by decide +kernel
theorem pf_97_13 : pd_fetch 97 13 = some (.iconst 0, 14) := by decide +kernel
theorem pf_97_14 : pd_fetch 97 14 = some (.ireturn, 15) := by decide +kernel
theorem pf_98_0 : pd_fetch 98 0 = some (.iload 0, 1) := by decide +kernel
theorem pf_98_1 : pd_fetch 98 1 = some (.iconst (-999), 4) := by decide +kernel
theorem pf_98_4 : pd_fetch 98 4 = some (.if_icmp .lt (Int.ofNat 18), 7) := by decide +kernel
theorem pf_98_7 : pd_fetch 98 7 = some (.iload 0, 8) := by decide +kernel
theorem pf_98_8 : pd_fetch 98 8 = some (.iconst 999, 11) := by decide +kernel
theorem pf_98_11 : pd_fetch 98 11 = some (.if_icmp .gt (Int.ofNat 18), 14) := by decide +kernel
theorem pf_98_14 : pd_fetch 98 14 = some (.iconst 1, 15) := by decide +kernel
theorem pf_98_15 : pd_fetch 98 15 = some (.goto (Int.ofNat 19), 18) := by decide +kernel
theorem pf_98_18 : pd_fetch 98 18 = some (.iconst 0, 19) := by decide +kernel
theorem pf_98_19 : pd_fetch 98 19 = some (.ireturn, 20) := by decide +kernel
theorem pf_99_0 : pd_fetch 99 0 = some (.lload 0, 1) := by decide +kernel
theorem pf_99_1 : pd_fetch 99 1 = some (.lstore 4, 3) := by decide +kernel
theorem pf_99_3 : pd_fetch 99 3 = some (.lload 2, 4) := by decide +kernel
theorem pf_99_4 : pd_fetch 99 4 = some (.lstore 6, 6) := by decide +kernel
theorem pf_99_6 : pd_fetch 99 6 = some (.iconst 0, 7) := by decide +kernel
theorem pf_99_7 : pd_fetch 99 7 = some (.istore 8, 9) := by decide +kernel
theorem pf_99_9 : pd_fetch 99 9 = some (.iload 8, 11) := by decide +kernel
theorem pf_99_11 : pd_fetch 99 11 = some (.iconst 1000, 14) := by decide +kernel
theorem pf_99_14 : pd_fetch 99 14 = some (.if_icmp .ge (Int.ofNat 45), 17) := by decide +kernel
theorem pf_99_17 : pd_fetch 99 17 = some (.lload 6, 19) := by decide +kernel
theorem pf_99_19 : pd_fetch 99 19 = some (.jsr (0), 20) := by decide +kernel
theorem pf_99_20 : pd_fetch 99 20 = some (.lcmp, 21) := by decide +kernel
theorem pf_99_21 : pd_fetch 99 21 = some (.ifCond .eq (Int.ofNat 45), 24) := by decide +kernel
theorem pf_99_24 : pd_fetch 99 24 = some (.lload 4, 26) := by decide +kernel
theorem pf_99_26 : pd_fetch 99 26 = some (.lload 6, 28) := by decide +kernel
theorem pf_99_28 : pd_fetch 99 28 = some (.lrem, 29) := by decide +kernel
theorem pf_99_29 : pd_fetch 99 29 = some (.lstore 9, 31) := by decide +kernel
theorem pf_99_31 : pd_fetch 99 31 = some (.lload 6, 33) := by decide +kernel
theorem pf_99_33 : pd_fetch 99 33 = some (.lstore 4, 35) := by decide +kernel
theorem pf_99_35 : pd_fetch 99 35 = some (.lload 9, 37) := by decide +kernel
theorem pf_99_37 : pd_fetch 99 37 = some (.lstore 6, 39) := by decide +kernel
theorem pf_99_39 : pd_fetch 99 39 = some (.iinc 8 1, 42) := by decide +kernel
theorem pf_99_42 : pd_fetch 99 42 = some (.goto (Int.ofNat 9), 45) := by decide +kernel
theorem pf_99_45 : pd_fetch 99 45 = some (.lload 4, 47) := by decide +kernel
theorem pf_99_47 : pd_fetch 99 47 = some (.lreturn, 48) := by decide +kernel
theorem pf_100_0 : pd_fetch 100 0 = some (.iload 1, 1) := by decide +kernel
theorem pf_100_1 : pd_fetch 100 1 = some (.iconst 5, 2) := by decide +kernel
theorem pf_100_2 : pd_fetch 100 2 = some (.imul, 3) := by decide +kernel
theorem pf_100_3 : pd_fetch 100 3 = some (.iload 2, 4) := by decide +kernel
theorem pf_100_4 : pd_fetch 100 4 = some (.aload 0, 5) := by decide +kernel
theorem pf_100_5 : pd_fetch 100 5 = some (.getfield 503, 8) := by decide +kernel
theorem pf_100_8 : pd_fetch 100 8 = some (.getfield 200, 11) := by decide +kernel
theorem pf_100_11 : pd_fetch 100 11 = some (.if_icmp .ne (Int.ofNat 18), 14) := by decide +kernel
theorem pf_100_14 : pd_fetch 100 14 = some (.iconst 4, 15) := by decide +kernel
theorem pf_100_15 : pd_fetch 100 15 = some (.goto (Int.ofNat 19), 18) := by decide +kernel
theorem pf_100_18 : pd_fetch 100 18 = some (.iload 2, 19) := by decide +kernel
theorem pf_100_19 : pd_fetch 100 19 = some (.iadd, 20) := by decide +kernel
theorem pf_100_20 : pd_fetch 100 20 = some (.ireturn, 21) := by decide +kernel
theorem pf_101_0 : pd_fetch 101 0 = some (.iload 1, 1) := by decide +kernel
theorem pf_101_1 : pd_fetch 101 1 = some (.iconst 100, 3) := by decide +kernel
theorem pf_101_3 : pd_fetch 101 3 = some (.idiv, 4) := by decide +kernel
theorem pf_101_4 : pd_fetch 101 4 = some (.iconst 10, 6) := by decide +kernel
theorem pf_101_6 : pd_fetch 101 6 = some (.irem, 7) := by decide +kernel
theorem pf_101_7 : pd_fetch 101 7 = some (.istore 2, 8) := by decide +kernel
theorem pf_101_8 : pd_fetch 101 8 = some (.iload 1, 9) := by decide +kernel
theorem pf_101_9 : pd_fetch 101 9 = some (.iconst 100, 11) := by decide +kernel
theorem pf_101_11 : pd_fetch 101 11 = some (.irem, 12) := by decide +kernel
theorem pf_101_12 : pd_fetch 101 12 = some (.istore 3, 13) := by decide +kernel
theorem pf_101_13 : pd_fetch 101 13 = some (.iload 1, 14) := by decide +kernel
theorem pf_101_14 : pd_fetch 101 14 = some (.iconst 1000, 17) := by decide +kernel
theorem pf_101_17 : pd_fetch 101 17 = some (.idiv, 18) := by decide +kernel
theorem pf_101_18 : pd_fetch 101 18 = some (.tableswitch (Int.ofNat 223) 1 8 #[Int.ofNat 64, Int.ofNat 71, Int.ofNat 89, Int.ofNat 96, Int.ofNat 117, Int.ofNat 142, Int.ofNat 172, Int.ofNat 202], 64) := by decide +kernel
theorem pf_101_64 : pd_fetch 101 64 = some (.aload 0, 65) := by decide +kernel
theorem pf_101_65 : pd_fetch 101 65 = some (.iload 2, 66) := by decide +kernel
theorem pf_101_66 : pd_fetch 101 66 = some (.iload 3, 67) := by decide +kernel
theorem pf_101_67 : pd_fetch 101 67 = some (.invokevirtual 102, 70) := by decide +kernel
theorem pf_101_70 : pd_fetch 101 70 = some (.ireturn, 71) := by decide +kernel
theorem pf_101_71 : pd_fetch 101 71 = some (.iload 2, 72) := by decide +kernel
theorem pf_101_72 : pd_fetch 101 72 = some (.ifCond .ne (Int.ofNat 87), 75) := by decide +kernel
theorem pf_101_75 : pd_fetch 101 75 = some (.aload 0, 76) := by decide +kernel
theorem pf_101_76 : pd_fetch 101 76 = some (.iload 3, 77) := by decide +kernel
theorem pf_101_77 : pd_fetch 101 77 = some (.invokevirtual 103, 80) := by decide +kernel
theorem pf_101_80 : pd_fetch 101 80 = some (.ifCond .eq (Int.ofNat 87), 83) := by decide +kernel
theorem pf_101_83 : pd_fetch 101 83 = some (.iconst 1, 84) := by decide +kernel
theorem pf_101_84 : pd_fetch 101 84 = some (.goto (Int.ofNat 88), 87) := by decide +kernel
theorem pf_101_87 : pd_fetch 101 87 = some (.iconst 0, 88) := by decide +kernel
theorem pf_101_88 : pd_fetch 101 88 = some (.ireturn, 89) := by decide +kernel
theorem pf_101_89 : pd_fetch 101 89 = some (.aload 0, 90) := by decide +kernel
theorem pf_101_90 : pd_fetch 101 90 = some (.iload 2, 91) := by decide +kernel
theorem pf_101_91 : pd_fetch 101 91 = some (.iload 3, 92) := by decide +kernel
theorem pf_101_92 : pd_fetch 101 92 = some (.invokevirtual 104, 95) := by decide +kernel
theorem pf_101_95 : pd_fetch 101 95 = some (.ireturn, 96) := by decide +kernel
theorem pf_101_96 : pd_fetch 101 96 = some (.iload 2, 97) := by decide +kernel
theorem pf_101_97 : pd_fetch 101 97 = some (.ifCond .ne (Int.ofNat 115), 100) := by decide +kernel
theorem pf_101_100 : pd_fetch 101 100 = some (.aload 0, 101) := by decide +kernel
theorem pf_101_101 : pd_fetch 101 101 = some (.getfield 506, 104) := by decide +kernel
theorem pf_101_104 : pd_fetch 101 104 = some (.getfield 402, 107) := by decide +kernel
theorem pf_101_107 : pd_fetch 101 107 = some (.iload 3, 108) := by decide +kernel
theorem pf_101_108 : pd_fetch 101 108 = some (.if_icmp .ne (Int.ofNat 115), 111) := by decide +kernel
theorem pf_101_111 : pd_fetch 101 111 = some (.iconst 1, 112) := by decide +kernel
theorem pf_101_112 : pd_fetch 101 112 = some (.goto (Int.ofNat 116), 115) := by decide +kernel
theorem pf_101_115 : pd_fetch 101 115 = some (.iconst 0, 116) := by decide +kernel
theorem pf_101_116 : pd_fetch 101 116 = some (.ireturn, 117) := by decide +kernel
theorem pf_101_117 : pd_fetch 101 117 = some (.iload 2, 118) := by decide +kernel
theorem pf_101_118 : pd_fetch 101 118 = some (.ifCond .ne (Int.ofNat 140), 121) := by decide +kernel
theorem pf_101_121 : pd_fetch 101 121 = some (.aload 0, 122) := by decide +kernel
theorem pf_101_122 : pd_fetch 101 122 = some (.getfield 504, 125) := by decide +kernel
theorem pf_101_125 : pd_fetch 101 125 = some (.aload 0, 126) := by decide +kernel
theorem pf_101_126 : pd_fetch 101 126 = some (.getfield 506, 129) := by decide +kernel
theorem pf_101_129 : pd_fetch 101 129 = some (.invokevirtual 8, 132) := by decide +kernel
theorem pf_101_132 : pd_fetch 101 132 = some (.iload 3, 133) := by decide +kernel
theorem pf_101_133 : pd_fetch 101 133 = some (.if_icmp .ne (Int.ofNat 140), 136) := by decide +kernel
theorem pf_101_136 : pd_fetch 101 136 = some (.iconst 1, 137) := by decide +kernel
theorem pf_101_137 : pd_fetch 101 137 = some (.goto (Int.ofNat 141), 140) := by decide +kernel
theorem pf_101_140 : pd_fetch 101 140 = some (.iconst 0, 141) := by decide +kernel
theorem pf_101_141 : pd_fetch 101 141 = some (.ireturn, 142) := by decide +kernel
theorem pf_101_142 : pd_fetch 101 142 = some (.iload 2, 143) := by decide +kernel
theorem pf_101_143 : pd_fetch 101 143 = some (.aload 0, 144) := by decide +kernel
theorem pf_101_144 : pd_fetch 101 144 = some (.getfield 506, 147) := by decide +kernel
theorem pf_101_147 : pd_fetch 101 147 = some (.getfield 402, 150) := by decide +kernel
theorem pf_101_150 : pd_fetch 101 150 = some (.if_icmp .ge (Int.ofNat 170), 153) := by decide +kernel
theorem pf_101_153 : pd_fetch 101 153 = some (.aload 0, 154) := by decide +kernel
theorem pf_101_154 : pd_fetch 101 154 = some (.getfield 506, 157) := by decide +kernel
theorem pf_101_157 : pd_fetch 101 157 = some (.getfield 404, 160) := by decide +kernel
theorem pf_101_160 : pd_fetch 101 160 = some (.iload 2, 161) := by decide +kernel
theorem pf_101_161 : pd_fetch 101 161 = some (.iaload, 162) := by decide +kernel
theorem pf_101_162 : pd_fetch 101 162 = some (.iload 3, 163) := by decide +kernel
theorem pf_101_163 : pd_fetch 101 163 = some (.if_icmp .lt (Int.ofNat 170), 166) := by decide +kernel
theorem pf_101_166 : pd_fetch 101 166 = some (.iconst 1, 167) := by decide +kernel
theorem pf_101_167 : pd_fetch 101 167 = some (.goto (Int.ofNat 171), 170) := by decide +kernel
theorem pf_101_170 : pd_fetch 101 170 = some (.iconst 0, 171) := by decide +kernel
theorem pf_101_171 : pd_fetch 101 171 = some (.ireturn, 172) := by decide +kernel
theorem pf_101_172 : pd_fetch 101 172 = some (.iload 2, 173) := by decide +kernel
theorem pf_101_173 : pd_fetch 101 173 = some (.ifCond .ne (Int.ofNat 200), 176) := by decide +kernel
theorem pf_101_176 : pd_fetch 101 176 = some (.iload 3, 177) := by decide +kernel
theorem pf_101_177 : pd_fetch 101 177 = some (.ifCond .ne (Int.ofNat 200), 180) := by decide +kernel
theorem pf_101_180 : pd_fetch 101 180 = some (.aload 0, 181) := by decide +kernel
theorem pf_101_181 : pd_fetch 101 181 = some (.getfield 504, 184) := by decide +kernel
theorem pf_101_184 : pd_fetch 101 184 = some (.aload 0, 185) := by decide +kernel
theorem pf_101_185 : pd_fetch 101 185 = some (.getfield 506, 188) := by decide +kernel
theorem pf_101_188 : pd_fetch 101 188 = some (.invokevirtual 7, 191) := by decide +kernel
theorem pf_101_191 : pd_fetch 101 191 = some (.jsr (0), 192) := by decide +kernel
theorem pf_101_192 : pd_fetch 101 192 = some (.lcmp, 193) := by decide +kernel
theorem pf_101_193 : pd_fetch 101 193 = some (.ifCond .ne (Int.ofNat 200), 196) := by decide +kernel
theorem pf_101_196 : pd_fetch 101 196 = some (.iconst 1, 197) := by decide +kernel
theorem pf_101_197 : pd_fetch 101 197 = some (.goto (Int.ofNat 201), 200) := by decide +kernel
theorem pf_101_200 : pd_fetch 101 200 = some (.iconst 0, 201) := by decide +kernel
theorem pf_101_201 : pd_fetch 101 201 = some (.ireturn, 202) := by decide +kernel
theorem pf_101_202 : pd_fetch 101 202 = some (.iload 2, 203) := by decide +kernel
theorem pf_101_203 : pd_fetch 101 203 = some (.ifCond .ne (Int.ofNat 221), 206) := by decide +kernel
theorem pf_101_206 : pd_fetch 101 206 = some (.aload 0, 207) := by decide +kernel
theorem pf_101_207 : pd_fetch 101 207 = some (.getfield 506, 210) := by decide +kernel
theorem pf_101_210 : pd_fetch 101 210 = some (.getfield 406, 213) := by decide +kernel
theorem pf_101_213 : pd_fetch 101 213 = some (.iload 3, 214) := by decide +kernel
theorem pf_101_214 : pd_fetch 101 214 = some (.if_icmp .ne (Int.ofNat 221), 217) := by decide +kernel
theorem pf_101_217 : pd_fetch 101 217 = some (.iconst 1, 218) := by decide +kernel
theorem pf_101_218 : pd_fetch 101 218 = some (.goto (Int.ofNat 222), 221) := by decide +kernel
theorem pf_101_221 : pd_fetch 101 221 = some (.iconst 0, 222) := by decide +kernel
theorem pf_101_222 : pd_fetch 101 222 = some (.ireturn, 223) := by decide +kernel
theorem pf_101_223 : pd_fetch 101 223 = some (.iconst 0, 224) := by decide +kernel
theorem pf_101_224 : pd_fetch 101 224 = some (.ireturn, 225) := by decide +kernel
theorem pf_102_0 : pd_fetch 102 0 = some (.iload 1, 1) := by decide +kernel
theorem pf_102_1 : pd_fetch 102 1 = some (.invokestatic 97, 4) := by decide +kernel
theorem pf_102_4 : pd_fetch 102 4 = some (.ifCond .eq (Int.ofNat 18), 7) := by decide +kernel
theorem pf_102_7 : pd_fetch 102 7 = some (.iload 2, 8) := by decide +kernel
theorem pf_102_8 : pd_fetch 102 8 = some (.iconst 1, 9) := by decide +kernel
theorem pf_102_9 : pd_fetch 102 9 = some (.if_icmp .lt (Int.ofNat 18), 12) := by decide +kernel
theorem pf_102_12 : pd_fetch 102 12 = some (.iload 2, 13) := by decide +kernel
theorem pf_102_13 : pd_fetch 102 13 = some (.iconst 50, 15) := by decide +kernel
theorem pf_102_15 : pd_fetch 102 15 = some (.if_icmp .le (Int.ofNat 20), 18) := by decide +kernel
theorem pf_102_18 : pd_fetch 102 18 = some (.iconst 0, 19) := by decide +kernel
theorem pf_102_19 : pd_fetch 102 19 = some (.ireturn, 20) := by decide +kernel
theorem pf_102_20 : pd_fetch 102 20 = some (.iconst 0, 21) := by decide +kernel
theorem pf_102_21 : pd_fetch 102 21 = some (.istore 3, 22) := by decide +kernel
theorem pf_102_22 : pd_fetch 102 22 = some (.iload 3, 23) := by decide +kernel
theorem pf_102_23 : pd_fetch 102 23 = some (.iload 2, 24) := by decide +kernel
theorem pf_102_24 : pd_fetch 102 24 = some (.if_icmp .ge (Int.ofNat 63), 27) := by decide +kernel
theorem pf_102_27 : pd_fetch 102 27 = some (.aload 0, 28) := by decide +kernel
theorem pf_102_28 : pd_fetch 102 28 = some (.getfield 504, 31) := by decide +kernel
theorem pf_102_31 : pd_fetch 102 31 = some (.aload 0, 32) := by decide +kernel
theorem pf_102_32 : pd_fetch 102 32 = some (.getfield 506, 35) := by decide +kernel
theorem pf_102_35 : pd_fetch 102 35 = some (.iload 1, 36) := by decide +kernel
theorem pf_102_36 : pd_fetch 102 36 = some (.invokevirtual 10, 39) := by decide +kernel
theorem pf_102_39 : pd_fetch 102 39 = some (.ifCond .ne (Int.ofNat 44), 42) := by decide +kernel
theorem pf_102_42 : pd_fetch 102 42 = some (.iconst 0, 43) := by decide +kernel
theorem pf_102_43 : pd_fetch 102 43 = some (.ireturn, 44) := by decide +kernel
theorem pf_102_44 : pd_fetch 102 44 = some (.aload 0, 45) := by decide +kernel
theorem pf_102_45 : pd_fetch 102 45 = some (.getfield 504, 48) := by decide +kernel
theorem pf_102_48 : pd_fetch 102 48 = some (.aload 0, 49) := by decide +kernel
theorem pf_102_49 : pd_fetch 102 49 = some (.getfield 506, 52) := by decide +kernel
theorem pf_102_52 : pd_fetch 102 52 = some (.iload 1, 53) := by decide +kernel
theorem pf_102_53 : pd_fetch 102 53 = some (.invokevirtual 11, 56) := by decide +kernel
theorem pf_102_56 : pd_fetch 102 56 = some (.pop, 57) := by decide +kernel
theorem pf_102_57 : pd_fetch 102 57 = some (.iinc 3 1, 60) := by decide +kernel
theorem pf_102_60 : pd_fetch 102 60 = some (.goto (Int.ofNat 22), 63) := by decide +kernel
theorem pf_102_63 : pd_fetch 102 63 = some (.iconst 1, 64) := by decide +kernel
theorem pf_102_64 : pd_fetch 102 64 = some (.ireturn, 65) := by decide +kernel
theorem pf_103_0 : pd_fetch 103 0 = some (.iload 1, 1) := by decide +kernel
theorem pf_103_1 : pd_fetch 103 1 = some (.aload 0, 2) := by decide +kernel
theorem pf_103_2 : pd_fetch 103 2 = some (.getfield 503, 5) := by decide +kernel
theorem pf_103_5 : pd_fetch 103 5 = some (.getfield 202, 8) := by decide +kernel
theorem pf_103_8 : pd_fetch 103 8 = some (.if_icmp .lt (Int.ofNat 13), 11) := by decide +kernel
theorem pf_103_11 : pd_fetch 103 11 = some (.iconst 0, 12) := by decide +kernel
theorem pf_103_12 : pd_fetch 103 12 = some (.ireturn, 13) := by decide +kernel
theorem pf_103_13 : pd_fetch 103 13 = some (.aload 0, 14) := by decide +kernel
theorem pf_103_14 : pd_fetch 103 14 = some (.getfield 506, 17) := by decide +kernel
theorem pf_103_17 : pd_fetch 103 17 = some (.iload 1, 18) := by decide +kernel
theorem pf_103_18 : pd_fetch 103 18 = some (.invokevirtual 58, 21) := by decide +kernel
theorem pf_103_21 : pd_fetch 103 21 = some (.iconst 1, 22) := by decide +kernel
theorem pf_103_22 : pd_fetch 103 22 = some (.ireturn, 23) := by decide +kernel
theorem pf_104_0 : pd_fetch 104 0 = some (.iload 1, 1) := by decide +kernel
theorem pf_104_1 : pd_fetch 104 1 = some (.aload 0, 2) := by decide +kernel
theorem pf_104_2 : pd_fetch 104 2 = some (.getfield 506, 5) := by decide +kernel
theorem pf_104_5 : pd_fetch 104 5 = some (.getfield 402, 8) := by decide +kernel
theorem pf_104_8 : pd_fetch 104 8 = some (.if_icmp .ge (Int.ofNat 22), 11) := by decide +kernel
theorem pf_104_11 : pd_fetch 104 11 = some (.iload 2, 12) := by decide +kernel
theorem pf_104_12 : pd_fetch 104 12 = some (.aload 0, 13) := by decide +kernel
theorem pf_104_13 : pd_fetch 104 13 = some (.getfield 503, 16) := by decide +kernel
theorem pf_104_16 : pd_fetch 104 16 = some (.getfield 202, 19) := by decide +kernel
theorem pf_104_19 : pd_fetch 104 19 = some (.if_icmp .lt (Int.ofNat 24), 22) := by decide +kernel
theorem pf_104_22 : pd_fetch 104 22 = some (.iconst 0, 23) := by decide +kernel
theorem pf_104_23 : pd_fetch 104 23 = some (.ireturn, 24) := by decide +kernel
theorem pf_104_24 : pd_fetch 104 24 = some (.aload 0, 25) := by decide +kernel
theorem pf_104_25 : pd_fetch 104 25 = some (.getfield 506, 28) := by decide +kernel
theorem pf_104_28 : pd_fetch 104 28 = some (.iload 1, 29) := by decide +kernel
theorem pf_104_29 : pd_fetch 104 29 = some (.iload 2, 30) := by decide +kernel
theorem pf_104_30 : pd_fetch 104 30 = some (.iconst 1, 31) := by decide +kernel
theorem pf_104_31 : pd_fetch 104 31 = some (.invokevirtual 60, 34) := by decide +kernel
theorem pf_104_34 : pd_fetch 104 34 = some (.iconst 1, 35) := by decide +kernel
theorem pf_104_35 : pd_fetch 104 35 = some (.ireturn, 36) := by decide +kernel
theorem pf_105_0 : pd_fetch 105 0 = some (.iload 1, 1) := by decide +kernel
theorem pf_105_1 : pd_fetch 105 1 = some (.iconst 4, 2) := by decide +kernel
theorem pf_105_2 : pd_fetch 105 2 = some (.irem, 3) := by decide +kernel
theorem pf_105_3 : pd_fetch 105 3 = some (.istore 2, 4) := by decide +kernel
theorem pf_105_4 : pd_fetch 105 4 = some (.iload 2, 5) := by decide +kernel
theorem pf_105_5 : pd_fetch 105 5 = some (.invokestatic 97, 8) := by decide +kernel
theorem pf_105_8 : pd_fetch 105 8 = some (.ifCond .eq (Int.ofNat 40), 11) := by decide +kernel
theorem pf_105_11 : pd_fetch 105 11 = some (.aload 0, 12) := by decide +kernel
theorem pf_105_12 : pd_fetch 105 12 = some (.getfield 504, 15) := by decide +kernel
theorem pf_105_15 : pd_fetch 105 15 = some (.aload 0, 16) := by decide +kernel
theorem pf_105_16 : pd_fetch 105 16 = some (.getfield 506, 19) := by decide +kernel
theorem pf_105_19 : pd_fetch 105 19 = some (.iload 2, 20) := by decide +kernel
theorem pf_105_20 : pd_fetch 105 20 = some (.invokevirtual 10, 23) := by decide +kernel
theorem pf_105_23 : pd_fetch 105 23 = some (.ifCond .eq (Int.ofNat 39), 26) := by decide +kernel
theorem pf_105_26 : pd_fetch 105 26 = some (.aload 0, 27) := by decide +kernel
theorem pf_105_27 : pd_fetch 105 27 = some (.getfield 504, 30) := by decide +kernel
theorem pf_105_30 : pd_fetch 105 30 = some (.aload 0, 31) := by decide +kernel
theorem pf_105_31 : pd_fetch 105 31 = some (.getfield 506, 34) := by decide +kernel
theorem pf_105_34 : pd_fetch 105 34 = some (.iload 2, 35) := by decide +kernel
theorem pf_105_35 : pd_fetch 105 35 = some (.invokevirtual 11, 38) := by decide +kernel
theorem pf_105_38 : pd_fetch 105 38 = some (.pop, 39) := by decide +kernel
theorem pf_105_39 : pd_fetch 105 39 = some (.return_, 40) := by decide +kernel
theorem pf_105_40 : pd_fetch 105 40 = some (.iload 1, 41) := by decide +kernel
theorem pf_105_41 : pd_fetch 105 41 = some (.ifCond .lt (Int.ofNat 66), 44) := by decide +kernel
theorem pf_105_44 : pd_fetch 105 44 = some (.aload 0, 45) := by decide +kernel
theorem pf_105_45 : pd_fetch 105 45 = some (.getfield 506, 48) := by decide +kernel
theorem pf_105_48 : pd_fetch 105 48 = some (.getfield 402, 51) := by decide +kernel
theorem pf_105_51 : pd_fetch 105 51 = some (.iconst 1, 52) := by decide +kernel
theorem pf_105_52 : pd_fetch 105 52 = some (.if_icmp .lt (Int.ofNat 66), 55) := by decide +kernel
theorem pf_105_55 : pd_fetch 105 55 = some (.aload 0, 56) := by decide +kernel
theorem pf_105_56 : pd_fetch 105 56 = some (.getfield 503, 59) := by decide +kernel
theorem pf_105_59 : pd_fetch 105 59 = some (.getfield 202, 62) := by decide +kernel
theorem pf_105_62 : pd_fetch 105 62 = some (.iconst 1, 63) := by decide +kernel
theorem pf_105_63 : pd_fetch 105 63 = some (.if_icmp .ge (Int.ofNat 67), 66) := by decide +kernel
theorem pf_105_66 : pd_fetch 105 66 = some (.return_, 67) := by decide +kernel
theorem pf_105_67 : pd_fetch 105 67 = some (.iload 1, 68) := by decide +kernel
theorem pf_105_68 : pd_fetch 105 68 = some (.iconst 4, 69) := by decide +kernel
theorem pf_105_69 : pd_fetch 105 69 = some (.idiv, 70) := by decide +kernel
theorem pf_105_70 : pd_fetch 105 70 = some (.aload 0, 71) := by decide +kernel
theorem pf_105_71 : pd_fetch 105 71 = some (.getfield 506, 74) := by decide +kernel
theorem pf_105_74 : pd_fetch 105 74 = some (.getfield 402, 77) := by decide +kernel
theorem pf_105_77 : pd_fetch 105 77 = some (.irem, 78) := by decide +kernel
theorem pf_105_78 : pd_fetch 105 78 = some (.istore 3, 79) := by decide +kernel
theorem pf_105_79 : pd_fetch 105 79 = some (.aload 0, 80) := by decide +kernel
theorem pf_105_80 : pd_fetch 105 80 = some (.getfield 506, 83) := by decide +kernel
theorem pf_105_83 : pd_fetch 105 83 = some (.getfield 404, 86) := by decide +kernel
theorem pf_105_86 : pd_fetch 105 86 = some (.iload 3, 87) := by decide +kernel
theorem pf_105_87 : pd_fetch 105 87 = some (.iaload, 88) := by decide +kernel
theorem pf_105_88 : pd_fetch 105 88 = some (.iconst 1, 89) := by decide +kernel
theorem pf_105_89 : pd_fetch 105 89 = some (.iadd, 90) := by decide +kernel
theorem pf_105_90 : pd_fetch 105 90 = some (.istore 4, 92) := by decide +kernel
theorem pf_105_92 : pd_fetch 105 92 = some (.iload 4, 94) := by decide +kernel
theorem pf_105_94 : pd_fetch 105 94 = some (.ifCond .le (Int.ofNat 108), 97) := by decide +kernel
theorem pf_105_97 : pd_fetch 105 97 = some (.iload 1, 98) := by decide +kernel
theorem pf_105_98 : pd_fetch 105 98 = some (.iconst 128, 101) := by decide +kernel
theorem pf_105_101 : pd_fetch 105 101 = some (.idiv, 102) := by decide +kernel
theorem pf_105_102 : pd_fetch 105 102 = some (.iload 4, 104) := by decide +kernel
theorem pf_105_104 : pd_fetch 105 104 = some (.irem, 105) := by decide +kernel
theorem pf_105_105 : pd_fetch 105 105 = some (.goto (Int.ofNat 109), 108) := by decide +kernel
theorem pf_105_108 : pd_fetch 105 108 = some (.iconst 0, 109) := by decide +kernel
theorem pf_105_109 : pd_fetch 105 109 = some (.istore 5, 111) := by decide +kernel
theorem pf_105_111 : pd_fetch 105 111 = some (.aload 0, 112) := by decide +kernel
theorem pf_105_112 : pd_fetch 105 112 = some (.getfield 506, 115) := by decide +kernel
theorem pf_105_115 : pd_fetch 105 115 = some (.iload 3, 116) := by decide +kernel
theorem pf_105_116 : pd_fetch 105 116 = some (.iload 1, 117) := by decide +kernel
theorem pf_105_117 : pd_fetch 105 117 = some (.iconst 4096, 120) := by decide +kernel
theorem pf_105_120 : pd_fetch 105 120 = some (.idiv, 121) := by decide +kernel
theorem pf_105_121 : pd_fetch 105 121 = some (.aload 0, 122) := by decide +kernel
theorem pf_105_122 : pd_fetch 105 122 = some (.getfield 503, 125) := by decide +kernel
theorem pf_105_125 : pd_fetch 105 125 = some (.getfield 202, 128) := by decide +kernel
theorem pf_105_128 : pd_fetch 105 128 = some (.irem, 129) := by decide +kernel
theorem pf_105_129 : pd_fetch 105 129 = some (.iload 5, 131) := by decide +kernel
theorem pf_105_131 : pd_fetch 105 131 = some (.invokevirtual 60, 134) := by decide +kernel
theorem pf_105_134 : pd_fetch 105 134 = some (.return_, 135) := by decide +kernel
