theorem pf_40_0 : pd_fetch 40 0 = some (.aload 0, 1) := by decide +kernel
theorem pf_40_1 : pd_fetch 40 1 = some (.invokespecial 1000, 4) := by decide +kernel
theorem pf_40_4 : pd_fetch 40 4 = some (.aload 0, 5) := by decide +kernel
theorem pf_40_5 : pd_fetch 40 5 = some (.iconst 4, 6) := by decide +kernel
theorem pf_40_6 : pd_fetch 40 6 = some (.newarray .int, 8) := by decide +kernel
theorem pf_40_8 : pd_fetch 40 8 = some (.putfield 303, 11) := by decide +kernel
theorem pf_40_11 : pd_fetch 40 11 = some (.aload 0, 12) := by decide +kernel
theorem pf_40_12 : pd_fetch 40 12 = some (.new 2, 15) := by decide +kernel
theorem pf_40_15 : pd_fetch 40 15 = some (.dup, 16) := by decide +kernel
theorem pf_40_16 : pd_fetch 40 16 = some (.invokespecial 25, 19) := by decide +kernel
theorem pf_40_19 : pd_fetch 40 19 = some (.putfield 304, 22) := by decide +kernel
theorem pf_40_22 : pd_fetch 40 22 = some (.aload 0, 23) := by decide +kernel
theorem pf_40_23 : pd_fetch 40 23 = some (.new 4, 26) := by decide +kernel
theorem pf_40_26 : pd_fetch 40 26 = some (.dup, 27) := by decide +kernel
theorem pf_40_27 : pd_fetch 40 27 = some (.invokespecial 51, 30) := by decide +kernel
theorem pf_40_30 : pd_fetch 40 30 = some (.putfield 305, 33) := by decide +kernel
theorem pf_40_33 : pd_fetch 40 33 = some (.aload 0, 34) := by decide +kernel
theorem pf_40_34 : pd_fetch 40 34 = some (.aload 1, 35) := by decide +kernel
theorem pf_40_35 : pd_fetch 40 35 = some (.putfield 300, 38) := by decide +kernel
theorem pf_40_38 : pd_fetch 40 38 = some (.return_, 39) := by decide +kernel
theorem pf_41_0 : pd_fetch 41 0 = some (.aload 0, 1) := by decide +kernel
theorem pf_41_1 : pd_fetch 41 1 = some (.iload 1, 2) := by decide +kernel
theorem pf_41_2 : pd_fetch 41 2 = some (.aload 0, 3) := by decide +kernel
theorem pf_41_3 : pd_fetch 41 3 = some (.getfield 300, 6) := by decide +kernel
theorem pf_41_6 : pd_fetch 41 6 = some (.arraylength, 7) := by decide +kernel
theorem pf_41_7 : pd_fetch 41 7 = some (.invokestatic 1001, 10) := by decide +kernel
theorem pf_41_10 : pd_fetch 41 10 = some (.putfield 301, 13) := by decide +kernel
theorem pf_41_13 : pd_fetch 41 13 = some (.aload 0, 14) := by decide +kernel
theorem pf_41_14 : pd_fetch 41 14 = some (.iconst 0, 15) := by decide +kernel
theorem pf_41_15 : pd_fetch 41 15 = some (.putfield 302, 18) := by decide +kernel
theorem pf_41_18 : pd_fetch 41 18 = some (.aload 0, 19) := by decide +kernel
theorem pf_41_19 : pd_fetch 41 19 = some (.iconst 80, 21) := by decide +kernel
theorem pf_41_21 : pd_fetch 41 21 = some (.invokevirtual 42, 24) := by decide +kernel
theorem pf_41_24 : pd_fetch 41 24 = some (.ifCond .eq (Int.ofNat 45), 27) := by decide +kernel
theorem pf_41_27 : pd_fetch 41 27 = some (.aload 0, 28) := by decide +kernel
theorem pf_41_28 : pd_fetch 41 28 = some (.invokevirtual 45, 31) := by decide +kernel
theorem pf_41_31 : pd_fetch 41 31 = some (.ifCond .eq (Int.ofNat 45), 34) := by decide +kernel
theorem pf_41_34 : pd_fetch 41 34 = some (.aload 0, 35) := by decide +kernel
theorem pf_41_35 : pd_fetch 41 35 = some (.invokevirtual 48, 38) := by decide +kernel
theorem pf_41_38 : pd_fetch 41 38 = some (.ifCond .eq (Int.ofNat 45), 41) := by decide +kernel
theorem pf_41_41 : pd_fetch 41 41 = some (.iconst 1, 42) := by decide +kernel
theorem pf_41_42 : pd_fetch 41 42 = some (.goto (Int.ofNat 46), 45) := by decide +kernel
theorem pf_41_45 : pd_fetch 41 45 = some (.iconst 0, 46) := by decide +kernel
theorem pf_41_46 : pd_fetch 41 46 = some (.istore 2, 47) := by decide +kernel
theorem pf_41_47 : pd_fetch 41 47 = some (.iload 2, 48) := by decide +kernel
theorem pf_41_48 : pd_fetch 41 48 = some (.ifCond .eq (Int.ofNat 56), 51) := by decide +kernel
theorem pf_41_51 : pd_fetch 41 51 = some (.iconst (-9), 53) := by decide +kernel
theorem pf_41_53 : pd_fetch 41 53 = some (.goto (Int.ofNat 60), 56) := by decide +kernel
theorem pf_41_56 : pd_fetch 41 56 = some (.aload 0, 57) := by decide +kernel
theorem pf_41_57 : pd_fetch 41 57 = some (.getfield 302, 60) := by decide +kernel
theorem pf_41_60 : pd_fetch 41 60 = some (.ireturn, 61) := by decide +kernel
theorem pf_42_0 : pd_fetch 42 0 = some (.aload 0, 1) := by decide +kernel
theorem pf_42_1 : pd_fetch 42 1 = some (.getfield 302, 4) := by decide +kernel
theorem pf_42_4 : pd_fetch 42 4 = some (.aload 0, 5) := by decide +kernel
theorem pf_42_5 : pd_fetch 42 5 = some (.getfield 301, 8) := by decide +kernel
theorem pf_42_8 : pd_fetch 42 8 = some (.if_icmp .ge (Int.ofNat 24), 11) := by decide +kernel
theorem pf_42_11 : pd_fetch 42 11 = some (.aload 0, 12) := by decide +kernel
theorem pf_42_12 : pd_fetch 42 12 = some (.getfield 300, 15) := by decide +kernel
theorem pf_42_15 : pd_fetch 42 15 = some (.aload 0, 16) := by decide +kernel
theorem pf_42_16 : pd_fetch 42 16 = some (.getfield 302, 19) := by decide +kernel
theorem pf_42_19 : pd_fetch 42 19 = some (.iaload, 20) := by decide +kernel
theorem pf_42_20 : pd_fetch 42 20 = some (.iload 1, 21) := by decide +kernel
theorem pf_42_21 : pd_fetch 42 21 = some (.if_icmp .eq (Int.ofNat 26), 24) := by decide +kernel
theorem pf_42_24 : pd_fetch 42 24 = some (.iconst 0, 25) := by decide +kernel
theorem pf_42_25 : pd_fetch 42 25 = some (.ireturn, 26) := by decide +kernel
theorem pf_42_26 : pd_fetch 42 26 = some (.aload 0, 27) := by decide +kernel
theorem pf_42_27 : pd_fetch 42 27 = some (.dup, 28) := by decide +kernel
theorem pf_42_28 : pd_fetch 42 28 = some (.getfield 302, 31) := by decide +kernel
theorem pf_42_31 : pd_fetch 42 31 = some (.iconst 1, 32) := by decide +kernel
theorem pf_42_32 : pd_fetch 42 32 = some (.iadd, 33) := by decide +kernel
theorem pf_42_33 : pd_fetch 42 33 = some (.putfield 302, 36) := by decide +kernel
theorem pf_42_36 : pd_fetch 42 36 = some (.iconst 1, 37) := by decide +kernel
theorem pf_42_37 : pd_fetch 42 37 = some (.ireturn, 38) := by decide +kernel
theorem pf_43_0 : pd_fetch 43 0 = some (.aload 0, 1) := by decide +kernel
theorem pf_43_1 : pd_fetch 43 1 = some (.getfield 302, 4) := by decide +kernel
theorem pf_43_4 : pd_fetch 43 4 = some (.aload 0, 5) := by decide +kernel
theorem pf_43_5 : pd_fetch 43 5 = some (.getfield 301, 8) := by decide +kernel
theorem pf_43_8 : pd_fetch 43 8 = some (.if_icmp .lt (Int.ofNat 14), 11) := by decide +kernel
theorem pf_43_11 : pd_fetch 43 11 = some (.iconst (-9), 13) := by decide +kernel
theorem pf_43_13 : pd_fetch 43 13 = some (.ireturn, 14) := by decide +kernel
theorem pf_43_14 : pd_fetch 43 14 = some (.aload 0, 15) := by decide +kernel
theorem pf_43_15 : pd_fetch 43 15 = some (.getfield 300, 18) := by decide +kernel
theorem pf_43_18 : pd_fetch 43 18 = some (.aload 0, 19) := by decide +kernel
theorem pf_43_19 : pd_fetch 43 19 = some (.getfield 302, 22) := by decide +kernel
theorem pf_43_22 : pd_fetch 43 22 = some (.iaload, 23) := by decide +kernel
theorem pf_43_23 : pd_fetch 43 23 = some (.iconst 48, 25) := by decide +kernel
theorem pf_43_25 : pd_fetch 43 25 = some (.isub, 26) := by decide +kernel
theorem pf_43_26 : pd_fetch 43 26 = some (.istore 3, 27) := by decide +kernel
theorem pf_43_27 : pd_fetch 43 27 = some (.iload 3, 28) := by decide +kernel
theorem pf_43_28 : pd_fetch 43 28 = some (.iload 1, 29) := by decide +kernel
theorem pf_43_29 : pd_fetch 43 29 = some (.if_icmp .lt (Int.ofNat 37), 32) := by decide +kernel
theorem pf_43_32 : pd_fetch 43 32 = some (.iload 3, 33) := by decide +kernel
theorem pf_43_33 : pd_fetch 43 33 = some (.iload 2, 34) := by decide +kernel
theorem pf_43_34 : pd_fetch 43 34 = some (.if_icmp .le (Int.ofNat 40), 37) := by decide +kernel
theorem pf_43_37 : pd_fetch 43 37 = some (.iconst (-9), 39) := by decide +kernel
theorem pf_43_39 : pd_fetch 43 39 = some (.ireturn, 40) := by decide +kernel
theorem pf_43_40 : pd_fetch 43 40 = some (.aload 0, 41) := by decide +kernel
theorem pf_43_41 : pd_fetch 43 41 = some (.dup, 42) := by decide +kernel
theorem pf_43_42 : pd_fetch 43 42 = some (.getfield 302, 45) := by decide +kernel
theorem pf_43_45 : pd_fetch 43 45 = some (.iconst 1, 46) := by decide +kernel
theorem pf_43_46 : pd_fetch 43 46 = some (.iadd, 47) := by decide +kernel
theorem pf_43_47 : pd_fetch 43 47 = some (.putfield 302, 50) := by decide +kernel
theorem pf_43_50 : pd_fetch 43 50 = some (.iload 3, 51) := by decide +kernel
theorem pf_43_51 : pd_fetch 43 51 = some (.ireturn, 52) := by decide +kernel
theorem pf_44_0 : pd_fetch 44 0 = some (.aload 0, 1) := by decide +kernel
theorem pf_44_1 : pd_fetch 44 1 = some (.iconst 115, 3) := by decide +kernel
theorem pf_44_3 : pd_fetch 44 3 = some (.invokevirtual 42, 6) := by decide +kernel
theorem pf_44_6 : pd_fetch 44 6 = some (.ifCond .eq (Int.ofNat 11), 9) := by decide +kernel
theorem pf_44_9 : pd_fetch 44 9 = some (.iconst 0, 10) := by decide +kernel
theorem pf_44_10 : pd_fetch 44 10 = some (.ireturn, 11) := by decide +kernel
theorem pf_44_11 : pd_fetch 44 11 = some (.aload 0, 12) := by decide +kernel
theorem pf_44_12 : pd_fetch 44 12 = some (.iconst 98, 14) := by decide +kernel
theorem pf_44_14 : pd_fetch 44 14 = some (.invokevirtual 42, 17) := by decide +kernel
theorem pf_44_17 : pd_fetch 44 17 = some (.ifCond .eq (Int.ofNat 22), 20) := by decide +kernel
theorem pf_44_20 : pd_fetch 44 20 = some (.iconst 1, 21) := by decide +kernel
theorem pf_44_21 : pd_fetch 44 21 = some (.ireturn, 22) := by decide +kernel
theorem pf_44_22 : pd_fetch 44 22 = some (.aload 0, 23) := by decide +kernel
theorem pf_44_23 : pd_fetch 44 23 = some (.iconst 99, 25) := by decide +kernel
theorem pf_44_25 : pd_fetch 44 25 = some (.invokevirtual 42, 28) := by decide +kernel
theorem pf_44_28 : pd_fetch 44 28 = some (.ifCond .eq (Int.ofNat 33), 31) := by decide +kernel
theorem pf_44_31 : pd_fetch 44 31 = some (.iconst 2, 32) := by decide +kernel
theorem pf_44_32 : pd_fetch 44 32 = some (.ireturn, 33) := by decide +kernel
theorem pf_44_33 : pd_fetch 44 33 = some (.aload 0, 34) := by decide +kernel
theorem pf_44_34 : pd_fetch 44 34 = some (.iconst 112, 36) := by decide +kernel
theorem pf_44_36 : pd_fetch 44 36 = some (.invokevirtual 42, 39) := by decide +kernel
theorem pf_44_39 : pd_fetch 44 39 = some (.ifCond .eq (Int.ofNat 44), 42) := by decide +kernel
theorem pf_44_42 : pd_fetch 44 42 = some (.iconst 3, 43) := by decide +kernel
theorem pf_44_43 : pd_fetch 44 43 = some (.ireturn, 44) := by decide +kernel
theorem pf_44_44 : pd_fetch 44 44 = some (.aload 0, 45) := by decide +kernel
theorem pf_44_45 : pd_fetch 44 45 = some (.iconst 108, 47) := by decide +kernel
theorem pf_44_47 : pd_fetch 44 47 = some (.invokevirtual 42, 50) := by decide +kernel
theorem pf_44_50 : pd_fetch 44 50 = some (.ifCond .eq (Int.ofNat 57), 53) := by decide +kernel
theorem pf_44_53 : pd_fetch 44 53 = some (.iconst 4, 54) := by decide +kernel
theorem pf_44_54 : pd_fetch 44 54 = some (.goto (Int.ofNat 59), 57) := by decide +kernel
theorem pf_44_57 : pd_fetch 44 57 = some (.iconst (-9), 59) := by decide +kernel
theorem pf_44_59 : pd_fetch 44 59 = some (.ireturn, 60) := by decide +kernel
theorem pf_45_0 : pd_fetch 45 0 = some (.aload 0, 1) := by decide +kernel
theorem pf_45_1 : pd_fetch 45 1 = some (.iconst 1, 2) := by decide +kernel
theorem pf_45_2 : pd_fetch 45 2 = some (.iconst 4, 3) := by decide +kernel
theorem pf_45_3 : pd_fetch 45 3 = some (.invokevirtual 43, 6) := by decide +kernel
theorem pf_45_6 : pd_fetch 45 6 = some (.istore 1, 7) := by decide +kernel
theorem pf_45_7 : pd_fetch 45 7 = some (.iload 1, 8) := by decide +kernel
theorem pf_45_8 : pd_fetch 45 8 = some (.iconst (-9), 10) := by decide +kernel
theorem pf_45_10 : pd_fetch 45 10 = some (.if_icmp .ne (Int.ofNat 15), 13) := by decide +kernel
theorem pf_45_13 : pd_fetch 45 13 = some (.iconst 0, 14) := by decide +kernel
theorem pf_45_14 : pd_fetch 45 14 = some (.ireturn, 15) := by decide +kernel
theorem pf_45_15 : pd_fetch 45 15 = some (.aload 0, 16) := by decide +kernel
theorem pf_45_16 : pd_fetch 45 16 = some (.invokevirtual 44, 19) := by decide +kernel
theorem pf_45_19 : pd_fetch 45 19 = some (.istore 2, 20) := by decide +kernel
theorem pf_45_20 : pd_fetch 45 20 = some (.aload 0, 21) := by decide +kernel
theorem pf_45_21 : pd_fetch 45 21 = some (.getfield 304, 24) := by decide +kernel
theorem pf_45_24 : pd_fetch 45 24 = some (.iload 1, 25) := by decide +kernel
theorem pf_45_25 : pd_fetch 45 25 = some (.iload 2, 26) := by decide +kernel
theorem pf_45_26 : pd_fetch 45 26 = some (.invokevirtual 26, 29) := by decide +kernel
theorem pf_45_29 : pd_fetch 45 29 = some (.iload 2, 30) := by decide +kernel
theorem pf_45_30 : pd_fetch 45 30 = some (.iconst (-9), 32) := by decide +kernel
theorem pf_45_32 : pd_fetch 45 32 = some (.if_icmp .ne (Int.ofNat 37), 35) := by decide +kernel
theorem pf_45_35 : pd_fetch 45 35 = some (.iconst 0, 36) := by decide +kernel
theorem pf_45_36 : pd_fetch 45 36 = some (.ireturn, 37) := by decide +kernel
theorem pf_45_37 : pd_fetch 45 37 = some (.iload 2, 38) := by decide +kernel
theorem pf_45_38 : pd_fetch 45 38 = some (.iconst 4, 39) := by decide +kernel
theorem pf_45_39 : pd_fetch 45 39 = some (.if_icmp .ne (Int.ofNat 48), 42) := by decide +kernel
theorem pf_45_42 : pd_fetch 45 42 = some (.aload 0, 43) := by decide +kernel
theorem pf_45_43 : pd_fetch 45 43 = some (.iload 1, 44) := by decide +kernel
theorem pf_45_44 : pd_fetch 45 44 = some (.invokevirtual 47, 47) := by decide +kernel
theorem pf_45_47 : pd_fetch 45 47 = some (.ireturn, 48) := by decide +kernel
theorem pf_45_48 : pd_fetch 45 48 = some (.iload 2, 49) := by decide +kernel
theorem pf_45_49 : pd_fetch 45 49 = some (.ifCond .eq (Int.ofNat 57), 52) := by decide +kernel
theorem pf_45_52 : pd_fetch 45 52 = some (.iload 2, 53) := by decide +kernel
theorem pf_45_53 : pd_fetch 45 53 = some (.iconst 2, 54) := by decide +kernel
theorem pf_45_54 : pd_fetch 45 54 = some (.if_icmp .ne (Int.ofNat 61), 57) := by decide +kernel
theorem pf_45_57 : pd_fetch 45 57 = some (.iconst 1, 58) := by decide +kernel
theorem pf_45_58 : pd_fetch 45 58 = some (.goto (Int.ofNat 62), 61) := by decide +kernel
theorem pf_45_61 : pd_fetch 45 61 = some (.iload 1, 62) := by decide +kernel
theorem pf_45_62 : pd_fetch 45 62 = some (.istore 3, 63) := by decide +kernel
theorem pf_45_63 : pd_fetch 45 63 = some (.aload 0, 64) := by decide +kernel
theorem pf_45_64 : pd_fetch 45 64 = some (.iload 3, 65) := by decide +kernel
theorem pf_45_65 : pd_fetch 45 65 = some (.iload 2, 66) := by decide +kernel
theorem pf_45_66 : pd_fetch 45 66 = some (.iconst 3, 67) := by decide +kernel
theorem pf_45_67 : pd_fetch 45 67 = some (.if_icmp .ne (Int.ofNat 74), 70) := by decide +kernel
theorem pf_45_70 : pd_fetch 45 70 = some (.iconst 0, 71) := by decide +kernel
theorem pf_45_71 : pd_fetch 45 71 = some (.goto (Int.ofNat 75), 74) := by decide +kernel
theorem pf_45_74 : pd_fetch 45 74 = some (.iconst 1, 75) := by decide +kernel
theorem pf_45_75 : pd_fetch 45 75 = some (.invokevirtual 46, 78) := by decide +kernel
theorem pf_45_78 : pd_fetch 45 78 = some (.ifCond .ne (Int.ofNat 83), 81) := by decide +kernel
theorem pf_45_81 : pd_fetch 45 81 = some (.iconst 0, 82) := by decide +kernel
theorem pf_45_82 : pd_fetch 45 82 = some (.ireturn, 83) := by decide +kernel
theorem pf_45_83 : pd_fetch 45 83 = some (.aload 0, 84) := by decide +kernel
theorem pf_45_84 : pd_fetch 45 84 = some (.getfield 304, 87) := by decide +kernel
theorem pf_45_87 : pd_fetch 45 87 = some (.aload 0, 88) := by decide +kernel
theorem pf_45_88 : pd_fetch 45 88 = some (.getfield 303, 91) := by decide +kernel
theorem pf_45_91 : pd_fetch 45 91 = some (.invokevirtual 33, 94) := by decide +kernel
theorem pf_45_94 : pd_fetch 45 94 = some (.iconst 1, 95) := by decide +kernel
theorem pf_45_95 : pd_fetch 45 95 = some (.ireturn, 96) := by decide +kernel
theorem pf_46_0 : pd_fetch 46 0 = some (.iconst 0, 1) := by decide +kernel
theorem pf_46_1 : pd_fetch 46 1 = some (.istore 3, 2) := by decide +kernel
theorem pf_46_2 : pd_fetch 46 2 = some (.iload 3, 3) := by decide +kernel
theorem pf_46_3 : pd_fetch 46 3 = some (.iconst 4, 4) := by decide +kernel
theorem pf_46_4 : pd_fetch 46 4 = some (.if_icmp .ge (Int.ofNat 48), 7) := by decide +kernel
theorem pf_46_7 : pd_fetch 46 7 = some (.aload 0, 8) := by decide +kernel
theorem pf_46_8 : pd_fetch 46 8 = some (.getfield 303, 11) := by decide +kernel
theorem pf_46_11 : pd_fetch 46 11 = some (.iload 3, 12) := by decide +kernel
theorem pf_46_12 : pd_fetch 46 12 = some (.iload 3, 13) := by decide +kernel
theorem pf_46_13 : pd_fetch 46 13 = some (.iload 1, 14) := by decide +kernel
theorem pf_46_14 : pd_fetch 46 14 = some (.if_icmp .ge (Int.ofNat 27), 17) := by decide +kernel
theorem pf_46_17 : pd_fetch 46 17 = some (.aload 0, 18) := by decide +kernel
theorem pf_46_18 : pd_fetch 46 18 = some (.iload 2, 19) := by decide +kernel
theorem pf_46_19 : pd_fetch 46 19 = some (.iconst 9, 21) := by decide +kernel
theorem pf_46_21 : pd_fetch 46 21 = some (.invokevirtual 43, 24) := by decide +kernel
theorem pf_46_24 : pd_fetch 46 24 = some (.goto (Int.ofNat 28), 27) := by decide +kernel
theorem pf_46_27 : pd_fetch 46 27 = some (.iconst 0, 28) := by decide +kernel
theorem pf_46_28 : pd_fetch 46 28 = some (.iastore, 29) := by decide +kernel
theorem pf_46_29 : pd_fetch 46 29 = some (.aload 0, 30) := by decide +kernel
theorem pf_46_30 : pd_fetch 46 30 = some (.getfield 303, 33) := by decide +kernel
theorem pf_46_33 : pd_fetch 46 33 = some (.iload 3, 34) := by decide +kernel
theorem pf_46_34 : pd_fetch 46 34 = some (.iaload, 35) := by decide +kernel
theorem pf_46_35 : pd_fetch 46 35 = some (.iconst (-9), 37) := by decide +kernel
theorem pf_46_37 : pd_fetch 46 37 = some (.if_icmp .ne (Int.ofNat 42), 40) := by decide +kernel
theorem pf_46_40 : pd_fetch 46 40 = some (.iconst 0, 41) := by decide +kernel
theorem pf_46_41 : pd_fetch 46 41 = some (.ireturn, 42) := by decide +kernel
theorem pf_46_42 : pd_fetch 46 42 = some (.iinc 3 1, 45) := by decide +kernel
theorem pf_46_45 : pd_fetch 46 45 = some (.goto (Int.ofNat 2), 48) := by decide +kernel
theorem pf_46_48 : pd_fetch 46 48 = some (.iconst 1, 49) := by decide +kernel
theorem pf_46_49 : pd_fetch 46 49 = some (.ireturn, 50) := by decide +kernel
theorem pf_47_0 : pd_fetch 47 0 = some (.aload 0, 1) := by decide +kernel
theorem pf_47_1 : pd_fetch 47 1 = some (.iconst 1, 2) := by decide +kernel
theorem pf_47_2 : pd_fetch 47 2 = some (.iconst 8, 4) := by decide +kernel
theorem pf_47_4 : pd_fetch 47 4 = some (.invokevirtual 43, 7) := by decide +kernel
theorem pf_47_7 : pd_fetch 47 7 = some (.istore 2, 8) := by decide +kernel
theorem pf_47_8 : pd_fetch 47 8 = some (.iconst 0, 9) := by decide +kernel
theorem pf_47_9 : pd_fetch 47 9 = some (.istore 3, 10) := by decide +kernel
theorem pf_47_10 : pd_fetch 47 10 = some (.iload 3, 11) := by decide +kernel
theorem pf_47_11 : pd_fetch 47 11 = some (.iload 2, 12) := by decide +kernel
theorem pf_47_12 : pd_fetch 47 12 = some (.if_icmp .ge (Int.ofNat 58), 15) := by decide +kernel
theorem pf_47_15 : pd_fetch 47 15 = some (.aload 0, 16) := by decide +kernel
theorem pf_47_16 : pd_fetch 47 16 = some (.iload 1, 17) := by decide +kernel
theorem pf_47_17 : pd_fetch 47 17 = some (.iconst 0, 18) := by decide +kernel
theorem pf_47_18 : pd_fetch 47 18 = some (.invokevirtual 46, 21) := by decide +kernel
theorem pf_47_21 : pd_fetch 47 21 = some (.ifCond .ne (Int.ofNat 26), 24) := by decide +kernel
theorem pf_47_24 : pd_fetch 47 24 = some (.iconst 0, 25) := by decide +kernel
theorem pf_47_25 : pd_fetch 47 25 = some (.ireturn, 26) := by decide +kernel
theorem pf_47_26 : pd_fetch 47 26 = some (.aload 0, 27) := by decide +kernel
theorem pf_47_27 : pd_fetch 47 27 = some (.getfield 304, 30) := by decide +kernel
theorem pf_47_30 : pd_fetch 47 30 = some (.aload 0, 31) := by decide +kernel
theorem pf_47_31 : pd_fetch 47 31 = some (.getfield 303, 34) := by decide +kernel
theorem pf_47_34 : pd_fetch 47 34 = some (.invokevirtual 29, 37) := by decide +kernel
theorem pf_47_37 : pd_fetch 47 37 = some (.ifCond .ne (Int.ofNat 52), 40) := by decide +kernel
theorem pf_47_40 : pd_fetch 47 40 = some (.aload 0, 41) := by decide +kernel
theorem pf_47_41 : pd_fetch 47 41 = some (.dup, 42) := by decide +kernel
theorem pf_47_42 : pd_fetch 47 42 = some (.getfield 302, 45) := by decide +kernel
theorem pf_47_45 : pd_fetch 47 45 = some (.iconst 1, 46) := by decide +kernel
theorem pf_47_46 : pd_fetch 47 46 = some (.isub, 47) := by decide +kernel
theorem pf_47_47 : pd_fetch 47 47 = some (.putfield 302, 50) := by decide +kernel
theorem pf_47_50 : pd_fetch 47 50 = some (.iconst 0, 51) := by decide +kernel
theorem pf_47_51 : pd_fetch 47 51 = some (.ireturn, 52) := by decide +kernel
theorem pf_47_52 : pd_fetch 47 52 = some (.iinc 3 1, 55) := by decide +kernel
theorem pf_47_55 : pd_fetch 47 55 = some (.goto (Int.ofNat 10), 58) := by decide +kernel
theorem pf_47_58 : pd_fetch 47 58 = some (.iload 2, 59) := by decide +kernel
theorem pf_47_59 : pd_fetch 47 59 = some (.iconst (-9), 61) := by decide +kernel
theorem pf_47_61 : pd_fetch 47 61 = some (.if_icmp .eq (Int.ofNat 68), 64) := by decide +kernel
theorem pf_47_64 : pd_fetch 47 64 = some (.iconst 1, 65) := by decide +kernel
theorem pf_47_65 : pd_fetch 47 65 = some (.goto (Int.ofNat 69), 68) := by decide +kernel
theorem pf_47_68 : pd_fetch 47 68 = some (.iconst 0, 69) := by decide +kernel
theorem pf_47_69 : pd_fetch 47 69 = some (.ireturn, 70) := by decide +kernel
theorem pf_48_0 : pd_fetch 48 0 = some (.aload 0, 1) := by decide +kernel
theorem pf_48_1 : pd_fetch 48 1 = some (.getfield 305, 4) := by decide +kernel
theorem pf_48_4 : pd_fetch 48 4 = some (.invokevirtual 54, 7) := by decide +kernel
theorem pf_48_7 : pd_fetch 48 7 = some (.aload 0, 8) := by decide +kernel
theorem pf_48_8 : pd_fetch 48 8 = some (.getfield 305, 11) := by decide +kernel
theorem pf_48_11 : pd_fetch 48 11 = some (.getfield 400, 14) := by decide +kernel
theorem pf_48_14 : pd_fetch 48 14 = some (.iconst 4, 15) := by decide +kernel
theorem pf_48_15 : pd_fetch 48 15 = some (.if_icmp .ge (Int.ofNat 73), 18) := by decide +kernel
theorem pf_48_18 : pd_fetch 48 18 = some (.aload 0, 19) := by decide +kernel
theorem pf_48_19 : pd_fetch 48 19 = some (.getfield 305, 22) := by decide +kernel
theorem pf_48_22 : pd_fetch 48 22 = some (.getfield 400, 25) := by decide +kernel
theorem pf_48_25 : pd_fetch 48 25 = some (.ifCond .eq (Int.ofNat 39), 28) := by decide +kernel
theorem pf_48_28 : pd_fetch 48 28 = some (.aload 0, 29) := by decide +kernel
theorem pf_48_29 : pd_fetch 48 29 = some (.getfield 302, 32) := by decide +kernel
theorem pf_48_32 : pd_fetch 48 32 = some (.aload 0, 33) := by decide +kernel
theorem pf_48_33 : pd_fetch 48 33 = some (.getfield 301, 36) := by decide +kernel
theorem pf_48_36 : pd_fetch 48 36 = some (.if_icmp .ge (Int.ofNat 73), 39) := by decide +kernel
theorem pf_48_39 : pd_fetch 48 39 = some (.aload 0, 40) := by decide +kernel
theorem pf_48_40 : pd_fetch 48 40 = some (.aload 0, 41) := by decide +kernel
theorem pf_48_41 : pd_fetch 48 41 = some (.getfield 305, 44) := by decide +kernel
theorem pf_48_44 : pd_fetch 48 44 = some (.getfield 400, 47) := by decide +kernel
theorem pf_48_47 : pd_fetch 48 47 = some (.iconst 5, 48) := by decide +kernel
theorem pf_48_48 : pd_fetch 48 48 = some (.imul, 49) := by decide +kernel
theorem pf_48_49 : pd_fetch 48 49 = some (.invokevirtual 49, 52) := by decide +kernel
theorem pf_48_52 : pd_fetch 48 52 = some (.ifCond .ne (Int.ofNat 57), 55) := by decide +kernel
theorem pf_48_55 : pd_fetch 48 55 = some (.iconst 0, 56) := by decide +kernel
theorem pf_48_56 : pd_fetch 48 56 = some (.ireturn, 57) := by decide +kernel
theorem pf_48_57 : pd_fetch 48 57 = some (.aload 0, 58) := by decide +kernel
theorem pf_48_58 : pd_fetch 48 58 = some (.getfield 305, 61) := by decide +kernel
theorem pf_48_61 : pd_fetch 48 61 = some (.dup, 62) := by decide +kernel
theorem pf_48_62 : pd_fetch 48 62 = some (.getfield 400, 65) := by decide +kernel
theorem pf_48_65 : pd_fetch 48 65 = some (.iconst 1, 66) := by decide +kernel
theorem pf_48_66 : pd_fetch 48 66 = some (.iadd, 67) := by decide +kernel
theorem pf_48_67 : pd_fetch 48 67 = some (.putfield 400, 70) := by decide +kernel
theorem pf_48_70 : pd_fetch 48 70 = some (.goto (Int.ofNat 7), 73) := by decide +kernel
theorem pf_48_73 : pd_fetch 48 73 = some (.aload 0, 74) := by decide +kernel
theorem pf_48_74 : pd_fetch 48 74 = some (.getfield 302, 77) := by decide +kernel
theorem pf_48_77 : pd_fetch 48 77 = some (.aload 0, 78) := by decide +kernel
theorem pf_48_78 : pd_fetch 48 78 = some (.getfield 301, 81) := by decide +kernel
theorem pf_48_81 : pd_fetch 48 81 = some (.if_icmp .ne (Int.ofNat 88), 84) := by decide +kernel
theorem pf_48_84 : pd_fetch 48 84 = some (.iconst 1, 85) := by decide +kernel
theorem pf_48_85 : pd_fetch 48 85 = some (.goto (Int.ofNat 89), 88) := by decide +kernel
theorem pf_48_88 : pd_fetch 48 88 = some (.iconst 0, 89) := by decide +kernel
theorem pf_48_89 : pd_fetch 48 89 = some (.ireturn, 90) := by decide +kernel
theorem pf_49_0 : pd_fetch 49 0 = some (.aload 0, 1) := by decide +kernel
theorem pf_49_1 : pd_fetch 49 1 = some (.iconst 114, 3) := by decide +kernel
theorem pf_49_3 : pd_fetch 49 3 = some (.invokevirtual 42, 6) := by decide +kernel
theorem pf_49_6 : pd_fetch 49 6 = some (.ifCond .ne (Int.ofNat 11), 9) := by decide +kernel
theorem pf_49_9 : pd_fetch 49 9 = some (.iconst 0, 10) := by decide +kernel
theorem pf_49_10 : pd_fetch 49 10 = some (.ireturn, 11) := by decide +kernel
theorem pf_49_11 : pd_fetch 49 11 = some (.iconst 0, 12) := by decide +kernel
theorem pf_49_12 : pd_fetch 49 12 = some (.istore 2, 13) := by decide +kernel
theorem pf_49_13 : pd_fetch 49 13 = some (.iload 2, 14) := by decide +kernel
theorem pf_49_14 : pd_fetch 49 14 = some (.aload 0, 15) := by decide +kernel
theorem pf_49_15 : pd_fetch 49 15 = some (.getfield 304, 18) := by decide +kernel
theorem pf_49_18 : pd_fetch 49 18 = some (.getfield 200, 21) := by decide +kernel
theorem pf_49_21 : pd_fetch 49 21 = some (.if_icmp .ge (Int.ofNat 48), 24) := by decide +kernel
theorem pf_49_24 : pd_fetch 49 24 = some (.iload 2, 25) := by decide +kernel
theorem pf_49_25 : pd_fetch 49 25 = some (.iconst 4, 26) := by decide +kernel
theorem pf_49_26 : pd_fetch 49 26 = some (.if_icmp .ge (Int.ofNat 48), 29) := by decide +kernel
theorem pf_49_29 : pd_fetch 49 29 = some (.aload 0, 30) := by decide +kernel
theorem pf_49_30 : pd_fetch 49 30 = some (.iload 1, 31) := by decide +kernel
theorem pf_49_31 : pd_fetch 49 31 = some (.iload 2, 32) := by decide +kernel
theorem pf_49_32 : pd_fetch 49 32 = some (.iadd, 33) := by decide +kernel
theorem pf_49_33 : pd_fetch 49 33 = some (.iconst 1, 34) := by decide +kernel
theorem pf_49_34 : pd_fetch 49 34 = some (.invokevirtual 50, 37) := by decide +kernel
theorem pf_49_37 : pd_fetch 49 37 = some (.ifCond .ne (Int.ofNat 42), 40) := by decide +kernel
theorem pf_49_40 : pd_fetch 49 40 = some (.iconst 0, 41) := by decide +kernel
theorem pf_49_41 : pd_fetch 49 41 = some (.ireturn, 42) := by decide +kernel
theorem pf_49_42 : pd_fetch 49 42 = some (.iinc 2 1, 45) := by decide +kernel
theorem pf_49_45 : pd_fetch 49 45 = some (.goto (Int.ofNat 13), 48) := by decide +kernel
theorem pf_49_48 : pd_fetch 49 48 = some (.aload 0, 49) := by decide +kernel
theorem pf_49_49 : pd_fetch 49 49 = some (.iload 1, 50) := by decide +kernel
theorem pf_49_50 : pd_fetch 49 50 = some (.iconst 4, 51) := by decide +kernel
theorem pf_49_51 : pd_fetch 49 51 = some (.iadd, 52) := by decide +kernel
theorem pf_49_52 : pd_fetch 49 52 = some (.iconst 2, 53) := by decide +kernel
theorem pf_49_53 : pd_fetch 49 53 = some (.invokevirtual 50, 56) := by decide +kernel
theorem pf_49_56 : pd_fetch 49 56 = some (.ireturn, 57) := by decide +kernel
theorem pf_50_0 : pd_fetch 50 0 = some (.aload 0, 1) := by decide +kernel
theorem pf_50_1 : pd_fetch 50 1 = some (.iconst 45, 3) := by decide +kernel
theorem pf_50_3 : pd_fetch 50 3 = some (.invokevirtual 42, 6) := by decide +kernel
theorem pf_50_6 : pd_fetch 50 6 = some (.istore 3, 7) := by decide +kernel
theorem pf_50_7 : pd_fetch 50 7 = some (.iload 3, 8) := by decide +kernel
theorem pf_50_8 : pd_fetch 50 8 = some (.ifCond .ne (Int.ofNat 22), 11) := by decide +kernel
theorem pf_50_11 : pd_fetch 50 11 = some (.aload 0, 12) := by decide +kernel
theorem pf_50_12 : pd_fetch 50 12 = some (.iconst 43, 14) := by decide +kernel
theorem pf_50_14 : pd_fetch 50 14 = some (.invokevirtual 42, 17) := by decide +kernel
theorem pf_50_17 : pd_fetch 50 17 = some (.ifCond .ne (Int.ofNat 22), 20) := by decide +kernel
theorem pf_50_20 : pd_fetch 50 20 = some (.iconst 0, 21) := by decide +kernel
theorem pf_50_21 : pd_fetch 50 21 = some (.ireturn, 22) := by decide +kernel
theorem pf_50_22 : pd_fetch 50 22 = some (.iconst 0, 23) := by decide +kernel
theorem pf_50_23 : pd_fetch 50 23 = some (.istore 4, 25) := by decide +kernel
theorem pf_50_25 : pd_fetch 50 25 = some (.iconst 0, 26) := by decide +kernel
theorem pf_50_26 : pd_fetch 50 26 = some (.istore 5, 28) := by decide +kernel
theorem pf_50_28 : pd_fetch 50 28 = some (.iload 5, 30) := by decide +kernel
theorem pf_50_30 : pd_fetch 50 30 = some (.iload 2, 31) := by decide +kernel
theorem pf_50_31 : pd_fetch 50 31 = some (.if_icmp .ge (Int.ofNat 68), 34) := by decide +kernel
theorem pf_50_34 : pd_fetch 50 34 = some (.aload 0, 35) := by decide +kernel
theorem pf_50_35 : pd_fetch 50 35 = some (.iconst 0, 36) := by decide +kernel
theorem pf_50_36 : pd_fetch 50 36 = some (.iconst 9, 38) := by decide +kernel
theorem pf_50_38 : pd_fetch 50 38 = some (.invokevirtual 43, 41) := by decide +kernel
theorem pf_50_41 : pd_fetch 50 41 = some (.istore 6, 43) := by decide +kernel
theorem pf_50_43 : pd_fetch 50 43 = some (.iload 6, 45) := by decide +kernel
theorem pf_50_45 : pd_fetch 50 45 = some (.iconst (-9), 47) := by decide +kernel
theorem pf_50_47 : pd_fetch 50 47 = some (.if_icmp .ne (Int.ofNat 52), 50) := by decide +kernel
theorem pf_50_50 : pd_fetch 50 50 = some (.iconst 0, 51) := by decide +kernel
theorem pf_50_51 : pd_fetch 50 51 = some (.ireturn, 52) := by decide +kernel
theorem pf_50_52 : pd_fetch 50 52 = some (.iload 4, 54) := by decide +kernel
theorem pf_50_54 : pd_fetch 50 54 = some (.iconst 10, 56) := by decide +kernel
theorem pf_50_56 : pd_fetch 50 56 = some (.imul, 57) := by decide +kernel
theorem pf_50_57 : pd_fetch 50 57 = some (.iload 6, 59) := by decide +kernel
theorem pf_50_59 : pd_fetch 50 59 = some (.iadd, 60) := by decide +kernel
theorem pf_50_60 : pd_fetch 50 60 = some (.istore 4, 62) := by decide +kernel
theorem pf_50_62 : pd_fetch 50 62 = some (.iinc 5 1, 65) := by decide +kernel
theorem pf_50_65 : pd_fetch 50 65 = some (.goto (Int.ofNat 28), 68) := by decide +kernel
theorem pf_50_68 : pd_fetch 50 68 = some (.aload 0, 69) := by decide +kernel
theorem pf_50_69 : pd_fetch 50 69 = some (.getfield 305, 72) := by decide +kernel
theorem pf_50_72 : pd_fetch 50 72 = some (.getfield 401, 75) := by decide +kernel
theorem pf_50_75 : pd_fetch 50 75 = some (.iload 1, 76) := by decide +kernel
theorem pf_50_76 : pd_fetch 50 76 = some (.iload 3, 77) := by decide +kernel
theorem pf_50_77 : pd_fetch 50 77 = some (.ifCond .eq (Int.ofNat 86), 80) := by decide +kernel
theorem pf_50_80 : pd_fetch 50 80 = some (.iload 4, 82) := by decide +kernel
theorem pf_50_82 : pd_fetch 50 82 = some (.ineg, 83) := by decide +kernel
theorem pf_50_83 : pd_fetch 50 83 = some (.goto (Int.ofNat 88), 86) := by decide +kernel
theorem pf_50_86 : pd_fetch 50 86 = some (.iload 4, 88) := by decide +kernel
theorem pf_50_88 : pd_fetch 50 88 = some (.iastore, 89) := by decide +kernel
theorem pf_50_89 : pd_fetch 50 89 = some (.iconst 1, 90) := by decide +kernel
theorem pf_50_90 : pd_fetch 50 90 = some (.ireturn, 91) := by decide +kernel
theorem pf_51_0 : pd_fetch 51 0 = some (.aload 0, 1) := by decide +kernel
theorem pf_51_1 : pd_fetch 51 1 = some (.invokespecial 1000, 4) := by decide +kernel
theorem pf_51_4 : pd_fetch 51 4 = some (.aload 0, 5) := by decide +kernel
theorem pf_51_5 : pd_fetch 51 5 = some (.iconst 20, 7) := by decide +kernel
theorem pf_51_7 : pd_fetch 51 7 = some (.newarray .int, 9) := by decide +kernel
theorem pf_51_9 : pd_fetch 51 9 = some (.putfield 401, 12) := by decide +kernel
theorem pf_51_12 : pd_fetch 51 12 = some (.aload 0, 13) := by decide +kernel
theorem pf_51_13 : pd_fetch 51 13 = some (.iconst 24, 15) := by decide +kernel
theorem pf_51_15 : pd_fetch 51 15 = some (.newarray .int, 17) := by decide +kernel
theorem pf_51_17 : pd_fetch 51 17 = some (.putfield 403, 20) := by decide +kernel
theorem pf_51_20 : pd_fetch 51 20 = some (.aload 0, 21) := by decide +kernel
theorem pf_51_21 : pd_fetch 51 21 = some (.iconst 24, 23) := by decide +kernel
theorem pf_51_23 : pd_fetch 51 23 = some (.newarray .int, 25) := by decide +kernel
theorem pf_51_25 : pd_fetch 51 25 = some (.putfield 404, 28) := by decide +kernel
theorem pf_51_28 : pd_fetch 51 28 = some (.return_, 29) := by decide +kernel
theorem pf_52_0 : pd_fetch 52 0 = some (.aload 0, 1) := by decide +kernel
theorem pf_52_1 : pd_fetch 52 1 = some (.aload 1, 2) := by decide +kernel
theorem pf_52_2 : pd_fetch 52 2 = some (.invokevirtual 53, 5) := by decide +kernel
theorem pf_52_5 : pd_fetch 52 5 = some (.aload 0, 6) := by decide +kernel
theorem pf_52_6 : pd_fetch 52 6 = some (.aload 1, 7) := by decide +kernel
theorem pf_52_7 : pd_fetch 52 7 = some (.getfield 402, 10) := by decide +kernel
theorem pf_52_10 : pd_fetch 52 10 = some (.putfield 402, 13) := by decide +kernel
theorem pf_52_13 : pd_fetch 52 13 = some (.aload 1, 14) := by decide +kernel
theorem pf_52_14 : pd_fetch 52 14 = some (.getfield 403, 17) := by decide +kernel
theorem pf_52_17 : pd_fetch 52 17 = some (.iconst 0, 18) := by decide +kernel
theorem pf_52_18 : pd_fetch 52 18 = some (.aload 0, 19) := by decide +kernel
theorem pf_52_19 : pd_fetch 52 19 = some (.getfield 403, 22) := by decide +kernel
theorem pf_52_22 : pd_fetch 52 22 = some (.iconst 0, 23) := by decide +kernel
theorem pf_52_23 : pd_fetch 52 23 = some (.iconst 24, 25) := by decide +kernel
theorem pf_52_25 : pd_fetch 52 25 = some (.invokestatic 1004, 28) := by decide +kernel
theorem pf_52_28 : pd_fetch 52 28 = some (.aload 1, 29) := by decide +kernel
theorem pf_52_29 : pd_fetch 52 29 = some (.getfield 404, 32) := by decide +kernel
theorem pf_52_32 : pd_fetch 52 32 = some (.iconst 0, 33) := by decide +kernel
theorem pf_52_33 : pd_fetch 52 33 = some (.aload 0, 34) := by decide +kernel
theorem pf_52_34 : pd_fetch 52 34 = some (.getfield 404, 37) := by decide +kernel
theorem pf_52_37 : pd_fetch 52 37 = some (.iconst 0, 38) := by decide +kernel
theorem pf_52_38 : pd_fetch 52 38 = some (.iconst 24, 40) := by decide +kernel
theorem pf_52_40 : pd_fetch 52 40 = some (.invokestatic 1004, 43) := by decide +kernel
theorem pf_52_43 : pd_fetch 52 43 = some (.aload 0, 44) := by decide +kernel
theorem pf_52_44 : pd_fetch 52 44 = some (.aload 1, 45) := by decide +kernel
theorem pf_52_45 : pd_fetch 52 45 = some (.getfield 405, 48) := by decide +kernel
theorem pf_52_48 : pd_fetch 52 48 = some (.putfield 405, 51) := by decide +kernel
theorem pf_52_51 : pd_fetch 52 51 = some (.aload 0, 52) := by decide +kernel
theorem pf_52_52 : pd_fetch 52 52 = some (.aload 1, 53) := by decide +kernel
theorem pf_52_53 : pd_fetch 52 53 = some (.getfield 406, 56) := by decide +kernel
theorem pf_52_56 : pd_fetch 52 56 = some (.putfield 406, 59) := by decide +kernel
theorem pf_52_59 : pd_fetch 52 59 = some (.return_, 60) := by decide +kernel
theorem pf_53_0 : pd_fetch 53 0 = some (.aload 0, 1) := by decide +kernel
theorem pf_53_1 : pd_fetch 53 1 = some (.aload 1, 2) := by decide +kernel
theorem pf_53_2 : pd_fetch 53 2 = some (.getfield 400, 5) := by decide +kernel
theorem pf_53_5 : pd_fetch 53 5 = some (.putfield 400, 8) := by decide +kernel
theorem pf_53_8 : pd_fetch 53 8 = some (.aload 1, 9) := by decide +kernel
theorem pf_53_9 : pd_fetch 53 9 = some (.getfield 401, 12) := by decide +kernel
theorem pf_53_12 : pd_fetch 53 12 = some (.iconst 0, 13) := by decide +kernel
theorem pf_53_13 : pd_fetch 53 13 = some (.aload 0, 14) := by decide +kernel
theorem pf_53_14 : pd_fetch 53 14 = some (.getfield 401, 17) := by decide +kernel
theorem pf_53_17 : pd_fetch 53 17 = some (.iconst 0, 18) := by decide +kernel
theorem pf_53_18 : pd_fetch 53 18 = some (.aload 0, 19) := by decide +kernel
theorem pf_53_19 : pd_fetch 53 19 = some (.getfield 401, 22) := by decide +kernel
theorem pf_53_22 : pd_fetch 53 22 = some (.arraylength, 23) := by decide +kernel
theorem pf_53_23 : pd_fetch 53 23 = some (.invokestatic 1004, 26) := by decide +kernel
theorem pf_53_26 : pd_fetch 53 26 = some (.return_, 27) := by decide +kernel
theorem pf_54_0 : pd_fetch 54 0 = some (.aload 0, 1) := by decide +kernel
theorem pf_54_1 : pd_fetch 54 1 = some (.iconst 0, 2) := by decide +kernel
theorem pf_54_2 : pd_fetch 54 2 = some (.putfield 400, 5) := by decide +kernel
theorem pf_54_5 : pd_fetch 54 5 = some (.iconst 0, 6) := by decide +kernel
theorem pf_54_6 : pd_fetch 54 6 = some (.istore 1, 7) := by decide +kernel
theorem pf_54_7 : pd_fetch 54 7 = some (.iload 1, 8) := by decide +kernel
theorem pf_54_8 : pd_fetch 54 8 = some (.aload 0, 9) := by decide +kernel
theorem pf_54_9 : pd_fetch 54 9 = some (.getfield 401, 12) := by decide +kernel
theorem pf_54_12 : pd_fetch 54 12 = some (.arraylength, 13) := by decide +kernel
theorem pf_54_13 : pd_fetch 54 13 = some (.if_icmp .ge (Int.ofNat 29), 16) := by decide +kernel
theorem pf_54_16 : pd_fetch 54 16 = some (.aload 0, 17) := by decide +kernel
theorem pf_54_17 : pd_fetch 54 17 = some (.getfield 401, 20) := by decide +kernel
theorem pf_54_20 : pd_fetch 54 20 = some (.iload 1, 21) := by decide +kernel
theorem pf_54_21 : pd_fetch 54 21 = some (.iconst 0, 22) := by decide +kernel
theorem pf_54_22 : pd_fetch 54 22 = some (.iastore, 23) := by decide +kernel
theorem pf_54_23 : pd_fetch 54 23 = some (.iinc 1 1, 26) := by decide +kernel
theorem pf_54_26 : pd_fetch 54 26 = some (.goto (Int.ofNat 7), 29) := by decide +kernel
theorem pf_54_29 : pd_fetch 54 29 = some (.return_, 30) := by decide +kernel
theorem pf_55_0 : pd_fetch 55 0 = some (.aload 0, 1) := by decide +kernel
theorem pf_55_1 : pd_fetch 55 1 = some (.getfield 401, 4) := by decide +kernel
theorem pf_55_4 : pd_fetch 55 4 = some (.iload 1, 5) := by decide +kernel
theorem pf_55_5 : pd_fetch 55 5 = some (.iconst 5, 6) := by decide +kernel
theorem pf_55_6 : pd_fetch 55 6 = some (.imul, 7) := by decide +kernel
theorem pf_55_7 : pd_fetch 55 7 = some (.iconst 4, 8) := by decide +kernel
theorem pf_55_8 : pd_fetch 55 8 = some (.iadd, 9) := by decide +kernel
theorem pf_55_9 : pd_fetch 55 9 = some (.iaload, 10) := by decide +kernel
theorem pf_55_10 : pd_fetch 55 10 = some (.ireturn, 11) := by decide +kernel
theorem pf_56_0 : pd_fetch 56 0 = some (.aload 0, 1) := by decide +kernel
theorem pf_56_1 : pd_fetch 56 1 = some (.getfield 401, 4) := by decide +kernel
theorem pf_56_4 : pd_fetch 56 4 = some (.iload 1, 5) := by decide +kernel
theorem pf_56_5 : pd_fetch 56 5 = some (.iconst 5, 6) := by decide +kernel
theorem pf_56_6 : pd_fetch 56 6 = some (.imul, 7) := by decide +kernel
theorem pf_56_7 : pd_fetch 56 7 = some (.iload 2, 8) := by decide +kernel
theorem pf_56_8 : pd_fetch 56 8 = some (.iadd, 9) := by decide +kernel
theorem pf_56_9 : pd_fetch 56 9 = some (.iaload, 10) := by decide +kernel
theorem pf_56_10 : pd_fetch 56 10 = some (.ireturn, 11) := by decide +kernel
theorem pf_57_0 : pd_fetch 57 0 = some (.iconst 0, 1) := by decide +kernel
theorem pf_57_1 : pd_fetch 57 1 = some (.istore 3, 2) := by decide +kernel
theorem pf_57_2 : pd_fetch 57 2 = some (.iconst 0, 3) := by decide +kernel
theorem pf_57_3 : pd_fetch 57 3 = some (.istore 4, 5) := by decide +kernel
theorem pf_57_5 : pd_fetch 57 5 = some (.iload 4, 7) := by decide +kernel
theorem pf_57_7 : pd_fetch 57 7 = some (.iconst 4, 8) := by decide +kernel
theorem pf_57_8 : pd_fetch 57 8 = some (.if_icmp .ge (Int.ofNat 36), 11) := by decide +kernel
theorem pf_57_11 : pd_fetch 57 11 = some (.iload 3, 12) := by decide +kernel
theorem pf_57_12 : pd_fetch 57 12 = some (.aload 0, 13) := by decide +kernel
theorem pf_57_13 : pd_fetch 57 13 = some (.getfield 401, 16) := by decide +kernel
theorem pf_57_16 : pd_fetch 57 16 = some (.iload 1, 17) := by decide +kernel
theorem pf_57_17 : pd_fetch 57 17 = some (.iconst 5, 18) := by decide +kernel
theorem pf_57_18 : pd_fetch 57 18 = some (.imul, 19) := by decide +kernel
theorem pf_57_19 : pd_fetch 57 19 = some (.iload 4, 21) := by decide +kernel
theorem pf_57_21 : pd_fetch 57 21 = some (.iadd, 22) := by decide +kernel
theorem pf_57_22 : pd_fetch 57 22 = some (.iaload, 23) := by decide +kernel
theorem pf_57_23 : pd_fetch 57 23 = some (.aload 2, 24) := by decide +kernel
theorem pf_57_24 : pd_fetch 57 24 = some (.iload 4, 26) := by decide +kernel
theorem pf_57_26 : pd_fetch 57 26 = some (.iaload, 27) := by decide +kernel
theorem pf_57_27 : pd_fetch 57 27 = some (.imul, 28) := by decide +kernel
theorem pf_57_28 : pd_fetch 57 28 = some (.iadd, 29) := by decide +kernel
theorem pf_57_29 : pd_fetch 57 29 = some (.istore 3, 30) := by decide +kernel
theorem pf_57_30 : pd_fetch 57 30 = some (.iinc 4 1, 33) := by decide +kernel
theorem pf_57_33 : pd_fetch 57 33 = some (.goto (Int.ofNat 5), 36) := by decide +kernel
theorem pf_57_36 : pd_fetch 57 36 = some (.iload 3, 37) := by decide +kernel
theorem pf_57_37 : pd_fetch 57 37 = some (.ireturn, 38) := by decide +kernel
theorem pf_58_0 : pd_fetch 58 0 = some (.aload 0, 1) := by decide +kernel
theorem pf_58_1 : pd_fetch 58 1 = some (.iconst 1, 2) := by decide +kernel
theorem pf_58_2 : pd_fetch 58 2 = some (.putfield 402, 5) := by decide +kernel
theorem pf_58_5 : pd_fetch 58 5 = some (.aload 0, 6) := by decide +kernel
theorem pf_58_6 : pd_fetch 58 6 = some (.getfield 403, 9) := by decide +kernel
theorem pf_58_9 : pd_fetch 58 9 = some (.iconst 0, 10) := by decide +kernel
theorem pf_58_10 : pd_fetch 58 10 = some (.iload 1, 11) := by decide +kernel
theorem pf_58_11 : pd_fetch 58 11 = some (.iastore, 12) := by decide +kernel
theorem pf_58_12 : pd_fetch 58 12 = some (.aload 0, 13) := by decide +kernel
theorem pf_58_13 : pd_fetch 58 13 = some (.getfield 404, 16) := by decide +kernel
theorem pf_58_16 : pd_fetch 58 16 = some (.iconst 0, 17) := by decide +kernel
theorem pf_58_17 : pd_fetch 58 17 = some (.iconst 100, 19) := by decide +kernel
theorem pf_58_19 : pd_fetch 58 19 = some (.iastore, 20) := by decide +kernel
theorem pf_58_20 : pd_fetch 58 20 = some (.aload 0, 21) := by decide +kernel
theorem pf_58_21 : pd_fetch 58 21 = some (.iconst 0, 22) := by decide +kernel
theorem pf_58_22 : pd_fetch 58 22 = some (.putfield 405, 25) := by decide +kernel
theorem pf_58_25 : pd_fetch 58 25 = some (.aload 0, 26) := by decide +kernel
theorem pf_58_26 : pd_fetch 58 26 = some (.iconst 0, 27) := by decide +kernel
theorem pf_58_27 : pd_fetch 58 27 = some (.putfield 406, 30) := by decide +kernel
theorem pf_58_30 : pd_fetch 58 30 = some (.return_, 31) := by decide +kernel
theorem pf_59_0 : pd_fetch 59 0 = some (.iload 2, 1) := by decide +kernel
theorem pf_59_1 : pd_fetch 59 1 = some (.iconst 1, 2) := by decide +kernel
theorem pf_59_2 : pd_fetch 59 2 = some (.if_icmp .ge (Int.ofNat 6), 5) := by decide +kernel
theorem pf_59_5 : pd_fetch 59 5 = some (.return_, 6) := by decide +kernel
theorem pf_59_6 : pd_fetch 59 6 = some (.iconst 0, 7) := by decide +kernel
theorem pf_59_7 : pd_fetch 59 7 = some (.istore 3, 8) := by decide +kernel
theorem pf_59_8 : pd_fetch 59 8 = some (.iload 3, 9) := by decide +kernel
theorem pf_59_9 : pd_fetch 59 9 = some (.aload 0, 10) := by decide +kernel
theorem pf_59_10 : pd_fetch 59 10 = some (.getfield 402, 13) := by decide +kernel
theorem pf_59_13 : pd_fetch 59 13 = some (.if_icmp .ge (Int.ofNat 43), 16) := by decide +kernel
theorem pf_59_16 : pd_fetch 59 16 = some (.aload 0, 17) := by decide +kernel
theorem pf_59_17 : pd_fetch 59 17 = some (.getfield 403, 20) := by decide +kernel
theorem pf_59_20 : pd_fetch 59 20 = some (.iload 3, 21) := by decide +kernel
theorem pf_59_21 : pd_fetch 59 21 = some (.iaload, 22) := by decide +kernel
theorem pf_59_22 : pd_fetch 59 22 = some (.iload 1, 23) := by decide +kernel
theorem pf_59_23 : pd_fetch 59 23 = some (.if_icmp .ne (Int.ofNat 37), 26) := by decide +kernel
theorem pf_59_26 : pd_fetch 59 26 = some (.aload 0, 27) := by decide +kernel
theorem pf_59_27 : pd_fetch 59 27 = some (.getfield 404, 30) := by decide +kernel
theorem pf_59_30 : pd_fetch 59 30 = some (.iload 3, 31) := by decide +kernel
theorem pf_59_31 : pd_fetch 59 31 = some (.dup2, 32) := by decide +kernel
theorem pf_59_32 : pd_fetch 59 32 = some (.iaload, 33) := by decide +kernel
theorem pf_59_33 : pd_fetch 59 33 = some (.iload 2, 34) := by decide +kernel
theorem pf_59_34 : pd_fetch 59 34 = some (.iadd, 35) := by decide +kernel
theorem pf_59_35 : pd_fetch 59 35 = some (.iastore, 36) := by decide +kernel
theorem pf_59_36 : pd_fetch 59 36 = some (.return_, 37) := by decide +kernel
theorem pf_59_37 : pd_fetch 59 37 = some (.iinc 3 1, 40) := by decide +kernel
theorem pf_59_40 : pd_fetch 59 40 = some (.goto (Int.ofNat 8), 43) := by decide +kernel
theorem pf_59_43 : pd_fetch 59 43 = some (.aload 0, 44) := by decide +kernel
theorem pf_59_44 : pd_fetch 59 44 = some (.getfield 402, 47) := by decide +kernel
theorem pf_59_47 : pd_fetch 59 47 = some (.iconst 24, 49) := by decide +kernel
theorem pf_59_49 : pd_fetch 59 49 = some (.if_icmp .ge (Int.ofNat 82), 52) := by decide +kernel
theorem pf_59_52 : pd_fetch 59 52 = some (.aload 0, 53) := by decide +kernel
theorem pf_59_53 : pd_fetch 59 53 = some (.getfield 403, 56) := by decide +kernel
theorem pf_59_56 : pd_fetch 59 56 = some (.aload 0, 57) := by decide +kernel
theorem pf_59_57 : pd_fetch 59 57 = some (.getfield 402, 60) := by decide +kernel
theorem pf_59_60 : pd_fetch 59 60 = some (.iload 1, 61) := by decide +kernel
theorem pf_59_61 : pd_fetch 59 61 = some (.iastore, 62) := by decide +kernel
theorem pf_59_62 : pd_fetch 59 62 = some (.aload 0, 63) := by decide +kernel
theorem pf_59_63 : pd_fetch 59 63 = some (.getfield 404, 66) := by decide +kernel
theorem pf_59_66 : pd_fetch 59 66 = some (.aload 0, 67) := by decide +kernel
theorem pf_59_67 : pd_fetch 59 67 = some (.getfield 402, 70) := by decide +kernel
theorem pf_59_70 : pd_fetch 59 70 = some (.iload 2, 71) := by decide +kernel
theorem pf_59_71 : pd_fetch 59 71 = some (.iastore, 72) := by decide +kernel
theorem pf_59_72 : pd_fetch 59 72 = some (.aload 0, 73) := by decide +kernel
theorem pf_59_73 : pd_fetch 59 73 = some (.dup, 74) := by decide +kernel
theorem pf_59_74 : pd_fetch 59 74 = some (.getfield 402, 77) := by decide +kernel
theorem pf_59_77 : pd_fetch 59 77 = some (.iconst 1, 78) := by decide +kernel
theorem pf_59_78 : pd_fetch 59 78 = some (.iadd, 79) := by decide +kernel
theorem pf_59_79 : pd_fetch 59 79 = some (.putfield 402, 82) := by decide +kernel
theorem pf_59_82 : pd_fetch 59 82 = some (.return_, 83) := by decide +kernel
theorem pf_60_0 : pd_fetch 60 0 = some (.aload 0, 1) := by decide +kernel
theorem pf_60_1 : pd_fetch 60 1 = some (.getfield 403, 4) := by decide +kernel
theorem pf_60_4 : pd_fetch 60 4 = some (.iload 1, 5) := by decide +kernel
theorem pf_60_5 : pd_fetch 60 5 = some (.iaload, 6) := by decide +kernel
theorem pf_60_6 : pd_fetch 60 6 = some (.iload 2, 7) := by decide +kernel
theorem pf_60_7 : pd_fetch 60 7 = some (.if_icmp .ne (Int.ofNat 11), 10) := by decide +kernel
theorem pf_60_10 : pd_fetch 60 10 = some (.return_, 11) := by decide +kernel
theorem pf_60_11 : pd_fetch 60 11 = some (.aload 0, 12) := by decide +kernel
theorem pf_60_12 : pd_fetch 60 12 = some (.getfield 404, 15) := by decide +kernel
theorem pf_60_15 : pd_fetch 60 15 = some (.iload 1, 16) := by decide +kernel
theorem pf_60_16 : pd_fetch 60 16 = some (.dup2, 17) := by decide +kernel
theorem pf_60_17 : pd_fetch 60 17 = some (.iaload, 18) := by decide +kernel
theorem pf_60_18 : pd_fetch 60 18 = some (.iload 3, 19) := by decide +kernel
theorem pf_60_19 : pd_fetch 60 19 = some (.isub, 20) := by decide +kernel
theorem pf_60_20 : pd_fetch 60 20 = some (.iastore, 21) := by decide +kernel
theorem pf_60_21 : pd_fetch 60 21 = some (.aload 0, 22) := by decide +kernel
theorem pf_60_22 : pd_fetch 60 22 = some (.iload 2, 23) := by decide +kernel
theorem pf_60_23 : pd_fetch 60 23 = some (.iload 3, 24) := by decide +kernel
theorem pf_60_24 : pd_fetch 60 24 = some (.invokevirtual 59, 27) := by decide +kernel
theorem pf_60_27 : pd_fetch 60 27 = some (.aload 0, 28) := by decide +kernel
theorem pf_60_28 : pd_fetch 60 28 = some (.invokevirtual 61, 31) := by decide +kernel
theorem pf_60_31 : pd_fetch 60 31 = some (.pop, 32) := by decide +kernel
theorem pf_60_32 : pd_fetch 60 32 = some (.return_, 33) := by decide +kernel
theorem pf_61_0 : pd_fetch 61 0 = some (.iconst 0, 1) := by decide +kernel
theorem pf_61_1 : pd_fetch 61 1 = some (.istore 1, 2) := by decide +kernel
theorem pf_61_2 : pd_fetch 61 2 = some (.iconst 0, 3) := by decide +kernel
theorem pf_61_3 : pd_fetch 61 3 = some (.istore 2, 4) := by decide +kernel
theorem pf_61_4 : pd_fetch 61 4 = some (.iload 2, 5) := by decide +kernel
theorem pf_61_5 : pd_fetch 61 5 = some (.aload 0, 6) := by decide +kernel
theorem pf_61_6 : pd_fetch 61 6 = some (.getfield 402, 9) := by decide +kernel
theorem pf_61_9 : pd_fetch 61 9 = some (.if_icmp .ge (Int.ofNat 54), 12) := by decide +kernel
theorem pf_61_12 : pd_fetch 61 12 = some (.aload 0, 13) := by decide +kernel
theorem pf_61_13 : pd_fetch 61 13 = some (.getfield 404, 16) := by decide +kernel
theorem pf_61_16 : pd_fetch 61 16 = some (.iload 2, 17) := by decide +kernel
theorem pf_61_17 : pd_fetch 61 17 = some (.iaload, 18) := by decide +kernel
theorem pf_61_18 : pd_fetch 61 18 = some (.ifCond .le (Int.ofNat 48), 21) := by decide +kernel
theorem pf_61_21 : pd_fetch 61 21 = some (.aload 0, 22) := by decide +kernel
theorem pf_61_22 : pd_fetch 61 22 = some (.getfield 403, 25) := by decide +kernel
theorem pf_61_25 : pd_fetch 61 25 = some (.iload 1, 26) := by decide +kernel
theorem pf_61_26 : pd_fetch 61 26 = some (.aload 0, 27) := by decide +kernel
theorem pf_61_27 : pd_fetch 61 27 = some (.getfield 403, 30) := by decide +kernel
theorem pf_61_30 : pd_fetch 61 30 = some (.iload 2, 31) := by decide +kernel
theorem pf_61_31 : pd_fetch 61 31 = some (.iaload, 32) := by decide +kernel
theorem pf_61_32 : pd_fetch 61 32 = some (.iastore, 33) := by decide +kernel
theorem pf_61_33 : pd_fetch 61 33 = some (.aload 0, 34) := by decide +kernel
theorem pf_61_34 : pd_fetch 61 34 = some (.getfield 404, 37) := by decide +kernel
theorem pf_61_37 : pd_fetch 61 37 = some (.iload 1, 38) := by decide +kernel
theorem pf_61_38 : pd_fetch 61 38 = some (.aload 0, 39) := by decide +kernel
theorem pf_61_39 : pd_fetch 61 39 = some (.getfield 404, 42) := by decide +kernel
theorem pf_61_42 : pd_fetch 61 42 = some (.iload 2, 43) := by decide +kernel
theorem pf_61_43 : pd_fetch 61 43 = some (.iaload, 44) := by decide +kernel
theorem pf_61_44 : pd_fetch 61 44 = some (.iastore, 45) := by decide +kernel
theorem pf_61_45 : pd_fetch 61 45 = some (.iinc 1 1, 48) := by decide +kernel
theorem pf_61_48 : pd_fetch 61 48 = some (.iinc 2 1, 51) := by decide +kernel
theorem pf_61_51 : pd_fetch 61 51 = some (.goto (Int.ofNat 4), 54) := by decide +kernel
theorem pf_61_54 : pd_fetch 61 54 = some (.aload 0, 55) := by decide +kernel
theorem pf_61_55 : pd_fetch 61 55 = some (.getfield 402, 58) := by decide +kernel
theorem pf_61_58 : pd_fetch 61 58 = some (.iload 1, 59) := by decide +kernel
theorem pf_61_59 : pd_fetch 61 59 = some (.isub, 60) := by decide +kernel
theorem pf_61_60 : pd_fetch 61 60 = some (.istore 2, 61) := by decide +kernel
theorem pf_61_61 : pd_fetch 61 61 = some (.aload 0, 62) := by decide +kernel
theorem pf_61_62 : pd_fetch 61 62 = some (.iload 1, 63) := by decide +kernel
theorem pf_61_63 : pd_fetch 61 63 = some (.putfield 402, 66) := by decide +kernel
theorem pf_61_66 : pd_fetch 61 66 = some (.iload 2, 67) := by decide +kernel
theorem pf_61_67 : pd_fetch 61 67 = some (.ireturn, 68) := by decide +kernel
