/-! The tables' words, as far as the pure machine needs them: by their places, closed by the kernel. -/
def pd_tb : List Cond := lw_tbl.filter goodWord
def pd_nw : Cond → Bool
  | .methodLinkNest _ _ _ _ => true
  | .castable _ _ => true
  | .declares _ => true
  | _ => false
def pd_sb : List Cond := lw_tbl.filter pd_nw
def pd_at (p : Nat) (w : Cond) : Bool := decide (lw_tbl[p]? = some w) && goodWord w
def pd_as (p : Nat) (w : Cond) : Bool := decide (lw_tbl[p]? = some w) && pd_nw w
theorem pd_at_in {p : Nat} {w : Cond} (h : pd_at p w = true) : w ∈ pd_tb := by
  unfold pd_at at h
  simp only [Bool.and_eq_true, decide_eq_true_eq] at h
  exact List.mem_filter.mpr ⟨List.mem_of_getElem? h.1, h.2⟩
theorem pd_as_in {p : Nat} {w : Cond} (h : pd_as p w = true) : w ∈ pd_sb := by
  unfold pd_as at h
  simp only [Bool.and_eq_true, decide_eq_true_eq] at h
  exact List.mem_filter.mpr ⟨List.mem_of_getElem? h.1, h.2⟩
/-- a list and the places of its words -/
def pd_zp {α : Type} (f : α → Nat → Bool) : List α → List Nat → Bool
  | [], _ => true
  | _ :: _, [] => false
  | a :: l, p :: q => f a p && pd_zp f l q
theorem pd_zp_in {α : Type} {f : α → Nat → Bool} : ∀ {l : List α} {q : List Nat}, pd_zp f l q = true → ∀ a ∈ l, ∃ p, f a p = true
  | [], _, _, a, h => nomatch h
  | _ :: _, [], h, _, _ => by simp [pd_zp] at h
  | b :: l, p :: q, h, a, ha => by
    simp only [pd_zp, Bool.and_eq_true] at h
    rcases List.mem_cons.mp ha with rfl | ha
    · exact ⟨p, h.1⟩
    · exact pd_zp_in h.2 a ha
def pd_bi (c : Nat) : MethodName := if c = 1000 then objectInit else if c = 1001 then Lib.Math.min.name else if c = 1002 then Lib.MathLoose.min_long.x else if c = 1003 then Lib.MathLoose.max_long.x else arraycopyName
def pd_yy (c : Nat) : MethodName := if c < 202 then pd_y c else pd_bi c
def pd_cw (c : Nat) : Cond := if pd_h c = [] then .code (pd_y c) (pd_c c) (pd_n c) (pd_r c) else .codeWith (pd_y c) (pd_c c) (pd_n c) (pd_r c) (pd_h c)
def pd_en (k : Nat) : String := (["java/lang/IllegalArgumentException", "java/lang/IllegalStateException", "java/lang/IndexOutOfBoundsException"] : List String).getD k ""
def pd_UL : List (Nat × Nat) := [(0, 0), (0, 1), (0, 2), (0, 3), (0, 4), (0, 5), (0, 6), (0, 7), (1, 0), (1, 1), (1, 2), (2, 0), (2, 1), (2, 2), (2, 3), (2, 4), (2, 5), (3, 0), (3, 1), (3, 2), (3, 3), (3, 4), (3, 5), (4, 0), (4, 1), (4, 2), (4, 3), (4, 4), (4, 5), (4, 6), (5, 0), (5, 1), (5, 2), (5, 3), (5, 4), (5, 5), (5, 6), (5, 7), (5, 8), (5, 9), (5, 10), (5, 11), (5, 12), (6, 0), (6, 1), (6, 2), (6, 3), (6, 4), (6, 5), (6, 6), (6, 7), (6, 8), (6, 9), (6, 10), (6, 11), (6, 12), (6, 13), (6, 14), (6, 15), (6, 16), (6, 17), (6, 18), (6, 19), (6, 20), (6, 21), (6, 22), (6, 23), (6, 24)]
theorem tbu_b : pd_zp (fun e p => pd_at p (u_lay (pd_cn e.1) (pd_ft e.1) e.2)) pd_UL [250, 252, 254, 256, 258, 260, 262, 264, 287, 289, 291, 108, 110, 112, 114, 116, 118, 173, 175, 177, 179, 181, 183, 150, 152, 154, 156, 158, 160, 162, 307, 309, 311, 313, 315, 317, 319, 321, 323, 325, 327, 329, 331, 927, 929, 931, 933, 935, 937, 939, 941, 943, 945, 947, 949, 951, 953, 955, 957, 959, 961, 963, 965, 967, 969, 971, 973, 975] = true := by decide +kernel
theorem tbu_n : (List.range 7).all (fun ci => (List.range (pd_fn ci)).all (fun k => decide ((ci, k) ∈ pd_UL))) = true := by decide +kernel
theorem tbf_b : pd_zp (fun e p => pd_at p (Cond.fieldLink (pd_cn e.1) e.2.1 (pd_cn (e.2.2 / 100)) (pd_ft (e.2.2 / 100) (e.2.2 % 100)).2.1 (pd_ft (e.2.2 / 100) (e.2.2 % 100)).2.2.1) && (decide (e.2.2 / 100 < 7) && (decide (e.2.2 % 100 < pd_fn (e.2.2 / 100)) && decide ((pd_ft (e.2.2 / 100) (e.2.2 % 100)).1 = pd_cn (e.2.2 / 100))))) pd_FL [238, 240, 242, 244, 245, 237, 136, 142, 139, 129, 146, 149, 246, 248, 286, 285, 283, 105, 106, 107, 98, 101, 103, 168, 169, 171, 165, 166, 167, 131, 100, 134, 132, 138, 141, 135, 144, 147, 130, 294, 295, 296, 297, 304, 298, 299, 128, 133, 300, 301, 302, 303, 305, 306, 170, 172, 104, 99, 102, 137, 145, 148, 140, 143, 284, 239, 241, 243, 247, 249, 903, 906, 908, 909, 910, 915, 916, 917, 918, 919, 921, 922, 923, 924, 925, 926, 902, 904, 905, 913, 911, 912, 914, 907, 920] = true := by decide +kernel
theorem tbt_b : (List.range 7).all (fun ci => (List.range (pd_fn ci)).all (fun k => decide (parseFieldDescriptor (pd_ft ci k).2.2.1 = some (pd_ty ci k)) && (List.range (pd_fn ci)).all (fun j => decide (j = k) || decide ((pd_ft ci j).2.1 ≠ (pd_ft ci k).2.1)))) = true := by decide +kernel
theorem tbm_b0 : pd_zp (fun e p => pd_at p (Cond.methodLink (pd_cn e.1) e.2.1 (pd_yy e.2.2))) ((pd_ML.drop 0).take 60) [236, 413, 414, 426, 418, 422, 409, 431, 484, 443, 456, 447, 688, 689, 716, 720, 728, 693, 697, 704, 712, 724, 701, 708, 279, 678, 683, 97, 228, 204, 208, 196, 200, 212, 216, 220, 224, 451, 91, 347, 350, 354, 377, 358, 362, 366, 367, 371, 376, 375, 381, 385, 389, 127, 682, 600, 750, 751, 83, 88] = true := by decide +kernel
theorem tbm_b1 : pd_zp (fun e p => pd_at p (Cond.methodLink (pd_cn e.1) e.2.1 (pd_yy e.2.2))) ((pd_ML.drop 60).take 60) [188, 192, 233, 270, 276, 497, 343, 592, 596, 601, 621, 640, 648, 397, 666, 669, 674, 684, 439, 746, 774, 466, 475, 405, 461, 467, 806, 809, 480, 817, 821, 824, 825, 836, 852, 877, 856, 860, 864, 901, 987, 1121, 1117, 1113, 1109, 1105, 1125, 1130, 1134, 1138, 1141, 990, 1030, 1022, 1026, 1010, 1018, 1033, 1037, 1006] = true := by decide +kernel
theorem tbm_b2 : pd_zp (fun e p => pd_at p (Cond.methodLink (pd_cn e.1) e.2.1 (pd_yy e.2.2))) ((pd_ML.drop 120).take 60) [1045, 1014, 1041, 1002, 1053, 1056, 1068, 1076, 1080, 1097, 1101, 1149, 1158, 1193, 1227, 1253, 1244, 1249, 493, 587, 608, 617, 644, 655, 662, 735, 742, 755, 762, 769, 781, 788, 795, 802, 813, 831, 840, 847, 871, 884, 891, 80, 898, 488, 982, 978, 335, 994, 339, 998, 584, 1049, 605, 1059, 613, 1064, 641, 1072, 652, 1084] = true := by decide +kernel
theorem tbm_b3 : pd_zp (fun e p => pd_at p (Cond.methodLink (pd_cn e.1) e.2.1 (pd_yy e.2.2))) ((pd_ML.drop 180).take 60) [393, 1088, 659, 1092, 732, 1144, 739, 1154, 752, 1161, 759, 1165, 766, 1173, 778, 1177, 785, 1181, 792, 1185, 401, 1189, 435, 1197, 457, 1201, 462, 1205, 471, 1209, 799, 1213, 476, 1219, 810, 1223, 828, 1230, 837, 1235, 844, 1239, 868, 1257, 881, 1263, 888, 1267] = true := by decide +kernel
theorem tbm_l : pd_ML.length ≤ 240 := by decide +kernel
theorem tbn_b : pd_zp (fun e p => pd_as p (Cond.methodLinkNest (pd_cn e.1) e.2.1 (pd_y e.2.2) "PolytopeDescent")) pd_NL [282, 94, 124, 187, 269] = true := by decide +kernel
theorem tbi_b0 : pd_zp (fun c p => pd_at p (.initialized (pd_cn (pd_o c)))) ((List.range 201).drop 0 |>.take 51) [68, 68, 68, 68, 68, 68, 68, 68, 68, 68, 68, 68, 68, 68, 68, 68, 68, 68, 68, 68, 68, 69, 69, 69, 69, 65, 65, 65, 65, 65, 65, 65, 65, 65, 65, 65, 65, 65, 65, 65, 64, 64, 64, 64, 64, 64, 64, 64, 64, 64, 64] = true := by decide +kernel
theorem tbi_b1 : pd_zp (fun c p => pd_at p (.initialized (pd_cn (pd_o c)))) ((List.range 201).drop 51 |>.take 51) [66, 66, 66, 66, 66, 66, 66, 66, 66, 66, 66, 63, 63, 63, 63, 63, 63, 63, 63, 63, 63, 63, 63, 63, 63, 63, 63, 63, 63, 63, 63, 63, 63, 63, 63, 63, 63, 63, 63, 63, 63, 63, 63, 63, 63, 63, 63, 63, 63, 63, 63] = true := by decide +kernel
theorem tbi_b2 : pd_zp (fun c p => pd_at p (.initialized (pd_cn (pd_o c)))) ((List.range 201).drop 102 |>.take 51) [63, 63, 63, 63, 70, 70, 70, 70, 70, 70, 70, 70, 70, 70, 70, 70, 70, 70, 70, 70, 70, 70, 70, 70, 70, 70, 70, 70, 70, 70, 70, 70, 70, 70, 70, 70, 70, 70, 70, 70, 70, 70, 70, 70, 70, 70, 70, 70, 70, 70, 70] = true := by decide +kernel
theorem tbi_b3 : pd_zp (fun c p => pd_at p (.initialized (pd_cn (pd_o c)))) ((List.range 201).drop 153 |>.take 51) [70, 70, 70, 70, 70, 70, 70, 70, 70, 70, 70, 70, 70, 70, 70, 70, 70, 70, 70, 70, 70, 70, 70, 70, 70, 62, 62, 62, 62, 62, 62, 62, 62, 62, 62, 62, 62, 62, 62, 62, 62, 62, 62, 62, 62, 62, 62, 62] = true := by decide +kernel
theorem tbs_b0 : pd_zp (fun c p => pd_at p (if pd_st c then .static (pd_y c) else .instanceMethod (pd_y c))) ((List.range 201).drop 0 |>.take 51) [234, 410, 416, 433, 406, 481, 486, 440, 444, 468, 670, 685, 691, 718, 722, 726, 818, 695, 699, 706, 710, 277, 675, 775, 602, 95, 189, 593, 209, 201, 398, 206, 198, 193, 214, 218, 222, 226, 452, 448, 89, 344, 352, 360, 364, 356, 373, 369, 379, 387, 391] = true := by decide +kernel
theorem tbs_b1 : pd_zp (fun c p => pd_at p (if pd_st c then .static (pd_y c) else .instanceMethod (pd_y c))) ((List.range 201).drop 51 |>.take 51) [125, 679, 597, 382, 423, 427, 419, 271, 713, 747, 729, 81, 494, 336, 340, 588, 609, 618, 645, 656, 394, 663, 736, 743, 756, 763, 770, 782, 789, 796, 402, 436, 458, 463, 472, 803, 477, 814, 832, 841, 848, 872, 885, 892, 622, 498, 667, 807, 826, 650, 854] = true := by decide +kernel
theorem tbs_b2 : pd_zp (fun c p => pd_at p (if pd_st c then .static (pd_y c) else .instanceMethod (pd_y c))) ((List.range 201).drop 102 |>.take 51) [858, 862, 866, 879, 899, 979, 992, 988, 1054, 1070, 1123, 1119, 1132, 1195, 1115, 1111, 1107, 1127, 1151, 1139, 1142, 1136, 1103, 1159, 1057, 983, 995, 1008, 1012, 1031, 1028, 1024, 1039, 1035, 1020, 1016, 1047, 1043, 1004, 999, 1050, 1060, 1065, 1078, 1082, 1073, 1085, 1089, 1099, 1093, 1145] = true := by decide +kernel
theorem tbs_b3 : pd_zp (fun c p => pd_at p (if pd_st c then .static (pd_y c) else .instanceMethod (pd_y c))) ((List.range 201).drop 153 |>.take 51) [1155, 1162, 1166, 1174, 1178, 1182, 1186, 1190, 1198, 1202, 1206, 1210, 1214, 1220, 1228, 1224, 1231, 1236, 1255, 1251, 1245, 1240, 1258, 1264, 1268, 489, 585, 606, 614, 642, 653, 660, 733, 740, 753, 760, 767, 779, 786, 793, 800, 811, 829, 838, 845, 869, 882, 889] = true := by decide +kernel
theorem tbv_b0 : pd_zp (fun c p => (pd_st c || (pd_y c).name == "<init>") || pd_at p (.selects (pd_cn (pd_o c)) (pd_y c) (pd_y c))) ((List.range 201).drop 0 |>.take 51) [9999, 411, 15, 16, 407, 482, 17, 441, 445, 469, 671, 686, 20, 25, 26, 27, 819, 21, 22, 23, 24, 9999, 676, 776, 603, 9999, 190, 594, 210, 202, 399, 1, 0, 194, 2, 3, 4, 5, 453, 449, 9999, 345, 6, 8, 9, 7, 11, 10, 12, 13, 14] = true := by decide +kernel
theorem tbv_b1 : pd_zp (fun c p => (pd_st c || (pd_y c).name == "<init>") || pd_at p (.selects (pd_cn (pd_o c)) (pd_y c) (pd_y c))) ((List.range 201).drop 51 |>.take 51) [9999, 680, 598, 383, 424, 428, 420, 272, 714, 748, 730, 9999, 495, 337, 341, 589, 610, 619, 646, 657, 395, 664, 737, 744, 757, 764, 771, 783, 790, 797, 403, 437, 459, 464, 473, 804, 478, 815, 833, 842, 849, 873, 886, 893, 9999, 9999, 9999, 9999, 9999, 19, 28] = true := by decide +kernel
theorem tbv_b2 : pd_zp (fun c p => (pd_st c || (pd_y c).name == "<init>") || pd_at p (.selects (pd_cn (pd_o c)) (pd_y c) (pd_y c))) ((List.range 201).drop 102 |>.take 51) [29, 30, 31, 32, 9999, 980, 33, 9999, 9999, 45, 54, 53, 56, 59, 52, 51, 50, 55, 58, 9999, 9999, 57, 49, 9999, 9999, 984, 996, 35, 36, 9999, 40, 39, 42, 41, 38, 37, 44, 43, 34, 1000, 1051, 1061, 1066, 46, 47, 1074, 1086, 1090, 48, 1094, 1146] = true := by decide +kernel
theorem tbv_b3 : pd_zp (fun c p => (pd_st c || (pd_y c).name == "<init>") || pd_at p (.selects (pd_cn (pd_o c)) (pd_y c) (pd_y c))) ((List.range 201).drop 153 |>.take 51) [1156, 1163, 1167, 1175, 1179, 1183, 1187, 1191, 1199, 1203, 1207, 1211, 1215, 1221, 9999, 1225, 1232, 1237, 61, 60, 9999, 1241, 1259, 1265, 1269, 9999, 9999, 9999, 9999, 9999, 9999, 9999, 9999, 9999, 9999, 9999, 9999, 9999, 9999, 9999, 9999, 9999, 9999, 9999, 9999, 9999, 9999, 9999] = true := by decide +kernel
set_option maxRecDepth 100000 in
theorem tbc_0 : pd_cw 0 ∈ lw_tbl := List.mem_of_getElem? (i := 235) rfl
set_option maxRecDepth 100000 in
theorem tbc_1 : pd_cw 1 ∈ lw_tbl := List.mem_of_getElem? (i := 412) rfl
set_option maxRecDepth 100000 in
theorem tbc_2 : pd_cw 2 ∈ lw_tbl := List.mem_of_getElem? (i := 417) rfl
set_option maxRecDepth 100000 in
theorem tbc_3 : pd_cw 3 ∈ lw_tbl := List.mem_of_getElem? (i := 434) rfl
set_option maxRecDepth 100000 in
theorem tbc_4 : pd_cw 4 ∈ lw_tbl := List.mem_of_getElem? (i := 408) rfl
set_option maxRecDepth 100000 in
theorem tbc_5 : pd_cw 5 ∈ lw_tbl := List.mem_of_getElem? (i := 483) rfl
set_option maxRecDepth 100000 in
theorem tbc_6 : pd_cw 6 ∈ lw_tbl := List.mem_of_getElem? (i := 487) rfl
set_option maxRecDepth 100000 in
theorem tbc_7 : pd_cw 7 ∈ lw_tbl := List.mem_of_getElem? (i := 442) rfl
set_option maxRecDepth 100000 in
theorem tbc_8 : pd_cw 8 ∈ lw_tbl := List.mem_of_getElem? (i := 446) rfl
set_option maxRecDepth 100000 in
theorem tbc_9 : pd_cw 9 ∈ lw_tbl := List.mem_of_getElem? (i := 470) rfl
set_option maxRecDepth 100000 in
theorem tbc_10 : pd_cw 10 ∈ lw_tbl := List.mem_of_getElem? (i := 672) rfl
set_option maxRecDepth 100000 in
theorem tbc_11 : pd_cw 11 ∈ lw_tbl := List.mem_of_getElem? (i := 687) rfl
set_option maxRecDepth 100000 in
theorem tbc_12 : pd_cw 12 ∈ lw_tbl := List.mem_of_getElem? (i := 692) rfl
set_option maxRecDepth 100000 in
theorem tbc_13 : pd_cw 13 ∈ lw_tbl := List.mem_of_getElem? (i := 719) rfl
set_option maxRecDepth 100000 in
theorem tbc_14 : pd_cw 14 ∈ lw_tbl := List.mem_of_getElem? (i := 723) rfl
set_option maxRecDepth 100000 in
theorem tbc_15 : pd_cw 15 ∈ lw_tbl := List.mem_of_getElem? (i := 727) rfl
set_option maxRecDepth 100000 in
theorem tbc_16 : pd_cw 16 ∈ lw_tbl := List.mem_of_getElem? (i := 820) rfl
set_option maxRecDepth 100000 in
theorem tbc_17 : pd_cw 17 ∈ lw_tbl := List.mem_of_getElem? (i := 696) rfl
set_option maxRecDepth 100000 in
theorem tbc_18 : pd_cw 18 ∈ lw_tbl := List.mem_of_getElem? (i := 700) rfl
set_option maxRecDepth 100000 in
theorem tbc_19 : pd_cw 19 ∈ lw_tbl := List.mem_of_getElem? (i := 707) rfl
set_option maxRecDepth 100000 in
theorem tbc_20 : pd_cw 20 ∈ lw_tbl := List.mem_of_getElem? (i := 711) rfl
set_option maxRecDepth 100000 in
theorem tbc_21 : pd_cw 21 ∈ lw_tbl := List.mem_of_getElem? (i := 278) rfl
set_option maxRecDepth 100000 in
theorem tbc_22 : pd_cw 22 ∈ lw_tbl := List.mem_of_getElem? (i := 677) rfl
set_option maxRecDepth 100000 in
theorem tbc_23 : pd_cw 23 ∈ lw_tbl := List.mem_of_getElem? (i := 777) rfl
set_option maxRecDepth 100000 in
theorem tbc_24 : pd_cw 24 ∈ lw_tbl := List.mem_of_getElem? (i := 604) rfl
set_option maxRecDepth 100000 in
theorem tbc_25 : pd_cw 25 ∈ lw_tbl := List.mem_of_getElem? (i := 96) rfl
set_option maxRecDepth 100000 in
theorem tbc_26 : pd_cw 26 ∈ lw_tbl := List.mem_of_getElem? (i := 191) rfl
set_option maxRecDepth 100000 in
theorem tbc_27 : pd_cw 27 ∈ lw_tbl := List.mem_of_getElem? (i := 595) rfl
set_option maxRecDepth 100000 in
theorem tbc_28 : pd_cw 28 ∈ lw_tbl := List.mem_of_getElem? (i := 211) rfl
set_option maxRecDepth 100000 in
theorem tbc_29 : pd_cw 29 ∈ lw_tbl := List.mem_of_getElem? (i := 203) rfl
set_option maxRecDepth 100000 in
theorem tbc_30 : pd_cw 30 ∈ lw_tbl := List.mem_of_getElem? (i := 400) rfl
set_option maxRecDepth 100000 in
theorem tbc_31 : pd_cw 31 ∈ lw_tbl := List.mem_of_getElem? (i := 207) rfl
set_option maxRecDepth 100000 in
theorem tbc_32 : pd_cw 32 ∈ lw_tbl := List.mem_of_getElem? (i := 199) rfl
set_option maxRecDepth 100000 in
theorem tbc_33 : pd_cw 33 ∈ lw_tbl := List.mem_of_getElem? (i := 195) rfl
set_option maxRecDepth 100000 in
theorem tbc_34 : pd_cw 34 ∈ lw_tbl := List.mem_of_getElem? (i := 215) rfl
set_option maxRecDepth 100000 in
theorem tbc_35 : pd_cw 35 ∈ lw_tbl := List.mem_of_getElem? (i := 219) rfl
set_option maxRecDepth 100000 in
theorem tbc_36 : pd_cw 36 ∈ lw_tbl := List.mem_of_getElem? (i := 223) rfl
set_option maxRecDepth 100000 in
theorem tbc_37 : pd_cw 37 ∈ lw_tbl := List.mem_of_getElem? (i := 227) rfl
set_option maxRecDepth 100000 in
theorem tbc_38 : pd_cw 38 ∈ lw_tbl := List.mem_of_getElem? (i := 454) rfl
set_option maxRecDepth 100000 in
theorem tbc_39 : pd_cw 39 ∈ lw_tbl := List.mem_of_getElem? (i := 450) rfl
set_option maxRecDepth 100000 in
theorem tbc_40 : pd_cw 40 ∈ lw_tbl := List.mem_of_getElem? (i := 90) rfl
set_option maxRecDepth 100000 in
theorem tbc_41 : pd_cw 41 ∈ lw_tbl := List.mem_of_getElem? (i := 346) rfl
set_option maxRecDepth 100000 in
theorem tbc_42 : pd_cw 42 ∈ lw_tbl := List.mem_of_getElem? (i := 353) rfl
set_option maxRecDepth 100000 in
theorem tbc_43 : pd_cw 43 ∈ lw_tbl := List.mem_of_getElem? (i := 361) rfl
set_option maxRecDepth 100000 in
theorem tbc_44 : pd_cw 44 ∈ lw_tbl := List.mem_of_getElem? (i := 365) rfl
set_option maxRecDepth 100000 in
theorem tbc_45 : pd_cw 45 ∈ lw_tbl := List.mem_of_getElem? (i := 357) rfl
set_option maxRecDepth 100000 in
theorem tbc_46 : pd_cw 46 ∈ lw_tbl := List.mem_of_getElem? (i := 374) rfl
set_option maxRecDepth 100000 in
theorem tbc_47 : pd_cw 47 ∈ lw_tbl := List.mem_of_getElem? (i := 370) rfl
set_option maxRecDepth 100000 in
theorem tbc_48 : pd_cw 48 ∈ lw_tbl := List.mem_of_getElem? (i := 380) rfl
set_option maxRecDepth 100000 in
theorem tbc_49 : pd_cw 49 ∈ lw_tbl := List.mem_of_getElem? (i := 388) rfl
set_option maxRecDepth 100000 in
theorem tbc_50 : pd_cw 50 ∈ lw_tbl := List.mem_of_getElem? (i := 392) rfl
set_option maxRecDepth 100000 in
theorem tbc_51 : pd_cw 51 ∈ lw_tbl := List.mem_of_getElem? (i := 126) rfl
set_option maxRecDepth 100000 in
theorem tbc_52 : pd_cw 52 ∈ lw_tbl := List.mem_of_getElem? (i := 681) rfl
set_option maxRecDepth 100000 in
theorem tbc_53 : pd_cw 53 ∈ lw_tbl := List.mem_of_getElem? (i := 599) rfl
set_option maxRecDepth 100000 in
theorem tbc_54 : pd_cw 54 ∈ lw_tbl := List.mem_of_getElem? (i := 384) rfl
set_option maxRecDepth 100000 in
theorem tbc_55 : pd_cw 55 ∈ lw_tbl := List.mem_of_getElem? (i := 425) rfl
set_option maxRecDepth 100000 in
theorem tbc_56 : pd_cw 56 ∈ lw_tbl := List.mem_of_getElem? (i := 429) rfl
set_option maxRecDepth 100000 in
theorem tbc_57 : pd_cw 57 ∈ lw_tbl := List.mem_of_getElem? (i := 421) rfl
set_option maxRecDepth 100000 in
theorem tbc_58 : pd_cw 58 ∈ lw_tbl := List.mem_of_getElem? (i := 273) rfl
set_option maxRecDepth 100000 in
theorem tbc_59 : pd_cw 59 ∈ lw_tbl := List.mem_of_getElem? (i := 715) rfl
set_option maxRecDepth 100000 in
theorem tbc_60 : pd_cw 60 ∈ lw_tbl := List.mem_of_getElem? (i := 749) rfl
set_option maxRecDepth 100000 in
theorem tbc_61 : pd_cw 61 ∈ lw_tbl := List.mem_of_getElem? (i := 731) rfl
set_option maxRecDepth 100000 in
theorem tbc_62 : pd_cw 62 ∈ lw_tbl := List.mem_of_getElem? (i := 82) rfl
set_option maxRecDepth 100000 in
theorem tbc_63 : pd_cw 63 ∈ lw_tbl := List.mem_of_getElem? (i := 496) rfl
set_option maxRecDepth 100000 in
theorem tbc_64 : pd_cw 64 ∈ lw_tbl := List.mem_of_getElem? (i := 338) rfl
set_option maxRecDepth 100000 in
theorem tbc_65 : pd_cw 65 ∈ lw_tbl := List.mem_of_getElem? (i := 342) rfl
set_option maxRecDepth 100000 in
theorem tbc_66 : pd_cw 66 ∈ lw_tbl := List.mem_of_getElem? (i := 590) rfl
set_option maxRecDepth 100000 in
theorem tbc_67 : pd_cw 67 ∈ lw_tbl := List.mem_of_getElem? (i := 611) rfl
set_option maxRecDepth 100000 in
theorem tbc_68 : pd_cw 68 ∈ lw_tbl := List.mem_of_getElem? (i := 620) rfl
set_option maxRecDepth 100000 in
theorem tbc_69 : pd_cw 69 ∈ lw_tbl := List.mem_of_getElem? (i := 647) rfl
set_option maxRecDepth 100000 in
theorem tbc_70 : pd_cw 70 ∈ lw_tbl := List.mem_of_getElem? (i := 658) rfl
set_option maxRecDepth 100000 in
theorem tbc_71 : pd_cw 71 ∈ lw_tbl := List.mem_of_getElem? (i := 396) rfl
set_option maxRecDepth 100000 in
theorem tbc_72 : pd_cw 72 ∈ lw_tbl := List.mem_of_getElem? (i := 665) rfl
set_option maxRecDepth 100000 in
theorem tbc_73 : pd_cw 73 ∈ lw_tbl := List.mem_of_getElem? (i := 738) rfl
set_option maxRecDepth 100000 in
theorem tbc_74 : pd_cw 74 ∈ lw_tbl := List.mem_of_getElem? (i := 745) rfl
set_option maxRecDepth 100000 in
theorem tbc_75 : pd_cw 75 ∈ lw_tbl := List.mem_of_getElem? (i := 758) rfl
set_option maxRecDepth 100000 in
theorem tbc_76 : pd_cw 76 ∈ lw_tbl := List.mem_of_getElem? (i := 765) rfl
set_option maxRecDepth 100000 in
theorem tbc_77 : pd_cw 77 ∈ lw_tbl := List.mem_of_getElem? (i := 772) rfl
set_option maxRecDepth 100000 in
theorem tbc_78 : pd_cw 78 ∈ lw_tbl := List.mem_of_getElem? (i := 784) rfl
set_option maxRecDepth 100000 in
theorem tbc_79 : pd_cw 79 ∈ lw_tbl := List.mem_of_getElem? (i := 791) rfl
set_option maxRecDepth 100000 in
theorem tbc_80 : pd_cw 80 ∈ lw_tbl := List.mem_of_getElem? (i := 798) rfl
set_option maxRecDepth 100000 in
theorem tbc_81 : pd_cw 81 ∈ lw_tbl := List.mem_of_getElem? (i := 404) rfl
set_option maxRecDepth 100000 in
theorem tbc_82 : pd_cw 82 ∈ lw_tbl := List.mem_of_getElem? (i := 438) rfl
set_option maxRecDepth 100000 in
theorem tbc_83 : pd_cw 83 ∈ lw_tbl := List.mem_of_getElem? (i := 460) rfl
set_option maxRecDepth 100000 in
theorem tbc_84 : pd_cw 84 ∈ lw_tbl := List.mem_of_getElem? (i := 465) rfl
set_option maxRecDepth 100000 in
theorem tbc_85 : pd_cw 85 ∈ lw_tbl := List.mem_of_getElem? (i := 474) rfl
set_option maxRecDepth 100000 in
theorem tbc_86 : pd_cw 86 ∈ lw_tbl := List.mem_of_getElem? (i := 805) rfl
set_option maxRecDepth 100000 in
theorem tbc_87 : pd_cw 87 ∈ lw_tbl := List.mem_of_getElem? (i := 479) rfl
set_option maxRecDepth 100000 in
theorem tbc_88 : pd_cw 88 ∈ lw_tbl := List.mem_of_getElem? (i := 816) rfl
set_option maxRecDepth 100000 in
theorem tbc_89 : pd_cw 89 ∈ lw_tbl := List.mem_of_getElem? (i := 834) rfl
set_option maxRecDepth 100000 in
theorem tbc_90 : pd_cw 90 ∈ lw_tbl := List.mem_of_getElem? (i := 843) rfl
set_option maxRecDepth 100000 in
theorem tbc_91 : pd_cw 91 ∈ lw_tbl := List.mem_of_getElem? (i := 850) rfl
set_option maxRecDepth 100000 in
theorem tbc_92 : pd_cw 92 ∈ lw_tbl := List.mem_of_getElem? (i := 874) rfl
set_option maxRecDepth 100000 in
theorem tbc_93 : pd_cw 93 ∈ lw_tbl := List.mem_of_getElem? (i := 887) rfl
set_option maxRecDepth 100000 in
theorem tbc_94 : pd_cw 94 ∈ lw_tbl := List.mem_of_getElem? (i := 894) rfl
set_option maxRecDepth 100000 in
theorem tbc_95 : pd_cw 95 ∈ lw_tbl := List.mem_of_getElem? (i := 623) rfl
set_option maxRecDepth 100000 in
theorem tbc_96 : pd_cw 96 ∈ lw_tbl := List.mem_of_getElem? (i := 499) rfl
set_option maxRecDepth 100000 in
theorem tbc_97 : pd_cw 97 ∈ lw_tbl := List.mem_of_getElem? (i := 668) rfl
set_option maxRecDepth 100000 in
theorem tbc_98 : pd_cw 98 ∈ lw_tbl := List.mem_of_getElem? (i := 808) rfl
set_option maxRecDepth 100000 in
theorem tbc_99 : pd_cw 99 ∈ lw_tbl := List.mem_of_getElem? (i := 827) rfl
set_option maxRecDepth 100000 in
theorem tbc_100 : pd_cw 100 ∈ lw_tbl := List.mem_of_getElem? (i := 651) rfl
set_option maxRecDepth 100000 in
theorem tbc_101 : pd_cw 101 ∈ lw_tbl := List.mem_of_getElem? (i := 855) rfl
set_option maxRecDepth 100000 in
theorem tbc_102 : pd_cw 102 ∈ lw_tbl := List.mem_of_getElem? (i := 859) rfl
set_option maxRecDepth 100000 in
theorem tbc_103 : pd_cw 103 ∈ lw_tbl := List.mem_of_getElem? (i := 863) rfl
set_option maxRecDepth 100000 in
theorem tbc_104 : pd_cw 104 ∈ lw_tbl := List.mem_of_getElem? (i := 867) rfl
set_option maxRecDepth 100000 in
theorem tbc_105 : pd_cw 105 ∈ lw_tbl := List.mem_of_getElem? (i := 880) rfl
set_option maxRecDepth 100000 in
theorem tbc_106 : pd_cw 106 ∈ lw_tbl := List.mem_of_getElem? (i := 900) rfl
set_option maxRecDepth 100000 in
theorem tbc_107 : pd_cw 107 ∈ lw_tbl := List.mem_of_getElem? (i := 981) rfl
set_option maxRecDepth 100000 in
theorem tbc_108 : pd_cw 108 ∈ lw_tbl := List.mem_of_getElem? (i := 993) rfl
set_option maxRecDepth 100000 in
theorem tbc_109 : pd_cw 109 ∈ lw_tbl := List.mem_of_getElem? (i := 989) rfl
set_option maxRecDepth 100000 in
theorem tbc_110 : pd_cw 110 ∈ lw_tbl := List.mem_of_getElem? (i := 1055) rfl
set_option maxRecDepth 100000 in
theorem tbc_111 : pd_cw 111 ∈ lw_tbl := List.mem_of_getElem? (i := 1071) rfl
set_option maxRecDepth 100000 in
theorem tbc_112 : pd_cw 112 ∈ lw_tbl := List.mem_of_getElem? (i := 1124) rfl
set_option maxRecDepth 100000 in
theorem tbc_113 : pd_cw 113 ∈ lw_tbl := List.mem_of_getElem? (i := 1120) rfl
set_option maxRecDepth 100000 in
theorem tbc_114 : pd_cw 114 ∈ lw_tbl := List.mem_of_getElem? (i := 1133) rfl
set_option maxRecDepth 100000 in
theorem tbc_115 : pd_cw 115 ∈ lw_tbl := List.mem_of_getElem? (i := 1196) rfl
set_option maxRecDepth 100000 in
theorem tbc_116 : pd_cw 116 ∈ lw_tbl := List.mem_of_getElem? (i := 1116) rfl
set_option maxRecDepth 100000 in
theorem tbc_117 : pd_cw 117 ∈ lw_tbl := List.mem_of_getElem? (i := 1112) rfl
set_option maxRecDepth 100000 in
theorem tbc_118 : pd_cw 118 ∈ lw_tbl := List.mem_of_getElem? (i := 1108) rfl
set_option maxRecDepth 100000 in
theorem tbc_119 : pd_cw 119 ∈ lw_tbl := List.mem_of_getElem? (i := 1128) rfl
set_option maxRecDepth 100000 in
theorem tbc_120 : pd_cw 120 ∈ lw_tbl := List.mem_of_getElem? (i := 1152) rfl
set_option maxRecDepth 100000 in
theorem tbc_121 : pd_cw 121 ∈ lw_tbl := List.mem_of_getElem? (i := 1140) rfl
set_option maxRecDepth 100000 in
theorem tbc_122 : pd_cw 122 ∈ lw_tbl := List.mem_of_getElem? (i := 1143) rfl
set_option maxRecDepth 100000 in
theorem tbc_123 : pd_cw 123 ∈ lw_tbl := List.mem_of_getElem? (i := 1137) rfl
set_option maxRecDepth 100000 in
theorem tbc_124 : pd_cw 124 ∈ lw_tbl := List.mem_of_getElem? (i := 1104) rfl
set_option maxRecDepth 100000 in
theorem tbc_125 : pd_cw 125 ∈ lw_tbl := List.mem_of_getElem? (i := 1160) rfl
set_option maxRecDepth 100000 in
theorem tbc_126 : pd_cw 126 ∈ lw_tbl := List.mem_of_getElem? (i := 1058) rfl
set_option maxRecDepth 100000 in
theorem tbc_127 : pd_cw 127 ∈ lw_tbl := List.mem_of_getElem? (i := 985) rfl
set_option maxRecDepth 100000 in
theorem tbc_128 : pd_cw 128 ∈ lw_tbl := List.mem_of_getElem? (i := 997) rfl
set_option maxRecDepth 100000 in
theorem tbc_129 : pd_cw 129 ∈ lw_tbl := List.mem_of_getElem? (i := 1009) rfl
set_option maxRecDepth 100000 in
theorem tbc_130 : pd_cw 130 ∈ lw_tbl := List.mem_of_getElem? (i := 1013) rfl
set_option maxRecDepth 100000 in
theorem tbc_131 : pd_cw 131 ∈ lw_tbl := List.mem_of_getElem? (i := 1032) rfl
set_option maxRecDepth 100000 in
theorem tbc_132 : pd_cw 132 ∈ lw_tbl := List.mem_of_getElem? (i := 1029) rfl
set_option maxRecDepth 100000 in
theorem tbc_133 : pd_cw 133 ∈ lw_tbl := List.mem_of_getElem? (i := 1025) rfl
set_option maxRecDepth 100000 in
theorem tbc_134 : pd_cw 134 ∈ lw_tbl := List.mem_of_getElem? (i := 1040) rfl
set_option maxRecDepth 100000 in
theorem tbc_135 : pd_cw 135 ∈ lw_tbl := List.mem_of_getElem? (i := 1036) rfl
set_option maxRecDepth 100000 in
theorem tbc_136 : pd_cw 136 ∈ lw_tbl := List.mem_of_getElem? (i := 1021) rfl
set_option maxRecDepth 100000 in
theorem tbc_137 : pd_cw 137 ∈ lw_tbl := List.mem_of_getElem? (i := 1017) rfl
set_option maxRecDepth 100000 in
theorem tbc_138 : pd_cw 138 ∈ lw_tbl := List.mem_of_getElem? (i := 1048) rfl
set_option maxRecDepth 100000 in
theorem tbc_139 : pd_cw 139 ∈ lw_tbl := List.mem_of_getElem? (i := 1044) rfl
set_option maxRecDepth 100000 in
theorem tbc_140 : pd_cw 140 ∈ lw_tbl := List.mem_of_getElem? (i := 1005) rfl
set_option maxRecDepth 100000 in
theorem tbc_141 : pd_cw 141 ∈ lw_tbl := List.mem_of_getElem? (i := 1001) rfl
set_option maxRecDepth 100000 in
theorem tbc_142 : pd_cw 142 ∈ lw_tbl := List.mem_of_getElem? (i := 1052) rfl
set_option maxRecDepth 100000 in
theorem tbc_143 : pd_cw 143 ∈ lw_tbl := List.mem_of_getElem? (i := 1062) rfl
set_option maxRecDepth 100000 in
theorem tbc_144 : pd_cw 144 ∈ lw_tbl := List.mem_of_getElem? (i := 1067) rfl
set_option maxRecDepth 100000 in
theorem tbc_145 : pd_cw 145 ∈ lw_tbl := List.mem_of_getElem? (i := 1079) rfl
set_option maxRecDepth 100000 in
theorem tbc_146 : pd_cw 146 ∈ lw_tbl := List.mem_of_getElem? (i := 1083) rfl
set_option maxRecDepth 100000 in
theorem tbc_147 : pd_cw 147 ∈ lw_tbl := List.mem_of_getElem? (i := 1075) rfl
set_option maxRecDepth 100000 in
theorem tbc_148 : pd_cw 148 ∈ lw_tbl := List.mem_of_getElem? (i := 1087) rfl
set_option maxRecDepth 100000 in
theorem tbc_149 : pd_cw 149 ∈ lw_tbl := List.mem_of_getElem? (i := 1091) rfl
set_option maxRecDepth 100000 in
theorem tbc_150 : pd_cw 150 ∈ lw_tbl := List.mem_of_getElem? (i := 1100) rfl
set_option maxRecDepth 100000 in
theorem tbc_151 : pd_cw 151 ∈ lw_tbl := List.mem_of_getElem? (i := 1095) rfl
set_option maxRecDepth 100000 in
theorem tbc_152 : pd_cw 152 ∈ lw_tbl := List.mem_of_getElem? (i := 1147) rfl
set_option maxRecDepth 100000 in
theorem tbc_153 : pd_cw 153 ∈ lw_tbl := List.mem_of_getElem? (i := 1157) rfl
set_option maxRecDepth 100000 in
theorem tbc_154 : pd_cw 154 ∈ lw_tbl := List.mem_of_getElem? (i := 1164) rfl
set_option maxRecDepth 100000 in
theorem tbc_155 : pd_cw 155 ∈ lw_tbl := List.mem_of_getElem? (i := 1168) rfl
set_option maxRecDepth 100000 in
theorem tbc_156 : pd_cw 156 ∈ lw_tbl := List.mem_of_getElem? (i := 1176) rfl
set_option maxRecDepth 100000 in
theorem tbc_157 : pd_cw 157 ∈ lw_tbl := List.mem_of_getElem? (i := 1180) rfl
set_option maxRecDepth 100000 in
theorem tbc_158 : pd_cw 158 ∈ lw_tbl := List.mem_of_getElem? (i := 1184) rfl
set_option maxRecDepth 100000 in
theorem tbc_159 : pd_cw 159 ∈ lw_tbl := List.mem_of_getElem? (i := 1188) rfl
set_option maxRecDepth 100000 in
theorem tbc_160 : pd_cw 160 ∈ lw_tbl := List.mem_of_getElem? (i := 1192) rfl
set_option maxRecDepth 100000 in
theorem tbc_161 : pd_cw 161 ∈ lw_tbl := List.mem_of_getElem? (i := 1200) rfl
set_option maxRecDepth 100000 in
theorem tbc_162 : pd_cw 162 ∈ lw_tbl := List.mem_of_getElem? (i := 1204) rfl
set_option maxRecDepth 100000 in
theorem tbc_163 : pd_cw 163 ∈ lw_tbl := List.mem_of_getElem? (i := 1208) rfl
set_option maxRecDepth 100000 in
theorem tbc_164 : pd_cw 164 ∈ lw_tbl := List.mem_of_getElem? (i := 1212) rfl
set_option maxRecDepth 100000 in
theorem tbc_165 : pd_cw 165 ∈ lw_tbl := List.mem_of_getElem? (i := 1216) rfl
set_option maxRecDepth 100000 in
theorem tbc_166 : pd_cw 166 ∈ lw_tbl := List.mem_of_getElem? (i := 1222) rfl
set_option maxRecDepth 100000 in
theorem tbc_167 : pd_cw 167 ∈ lw_tbl := List.mem_of_getElem? (i := 1229) rfl
set_option maxRecDepth 100000 in
theorem tbc_168 : pd_cw 168 ∈ lw_tbl := List.mem_of_getElem? (i := 1226) rfl
set_option maxRecDepth 100000 in
theorem tbc_169 : pd_cw 169 ∈ lw_tbl := List.mem_of_getElem? (i := 1233) rfl
set_option maxRecDepth 100000 in
theorem tbc_170 : pd_cw 170 ∈ lw_tbl := List.mem_of_getElem? (i := 1238) rfl
set_option maxRecDepth 100000 in
theorem tbc_171 : pd_cw 171 ∈ lw_tbl := List.mem_of_getElem? (i := 1256) rfl
set_option maxRecDepth 100000 in
theorem tbc_172 : pd_cw 172 ∈ lw_tbl := List.mem_of_getElem? (i := 1252) rfl
set_option maxRecDepth 100000 in
theorem tbc_173 : pd_cw 173 ∈ lw_tbl := List.mem_of_getElem? (i := 1246) rfl
set_option maxRecDepth 100000 in
theorem tbc_174 : pd_cw 174 ∈ lw_tbl := List.mem_of_getElem? (i := 1242) rfl
set_option maxRecDepth 100000 in
theorem tbc_175 : pd_cw 175 ∈ lw_tbl := List.mem_of_getElem? (i := 1260) rfl
set_option maxRecDepth 100000 in
theorem tbc_176 : pd_cw 176 ∈ lw_tbl := List.mem_of_getElem? (i := 1266) rfl
set_option maxRecDepth 100000 in
theorem tbc_177 : pd_cw 177 ∈ lw_tbl := List.mem_of_getElem? (i := 1270) rfl
set_option maxRecDepth 100000 in
theorem tbc_178 : pd_cw 178 ∈ lw_tbl := List.mem_of_getElem? (i := 490) rfl
set_option maxRecDepth 100000 in
theorem tbc_179 : pd_cw 179 ∈ lw_tbl := List.mem_of_getElem? (i := 586) rfl
set_option maxRecDepth 100000 in
theorem tbc_180 : pd_cw 180 ∈ lw_tbl := List.mem_of_getElem? (i := 607) rfl
set_option maxRecDepth 100000 in
theorem tbc_181 : pd_cw 181 ∈ lw_tbl := List.mem_of_getElem? (i := 615) rfl
set_option maxRecDepth 100000 in
theorem tbc_182 : pd_cw 182 ∈ lw_tbl := List.mem_of_getElem? (i := 643) rfl
set_option maxRecDepth 100000 in
theorem tbc_183 : pd_cw 183 ∈ lw_tbl := List.mem_of_getElem? (i := 654) rfl
set_option maxRecDepth 100000 in
theorem tbc_184 : pd_cw 184 ∈ lw_tbl := List.mem_of_getElem? (i := 661) rfl
set_option maxRecDepth 100000 in
theorem tbc_185 : pd_cw 185 ∈ lw_tbl := List.mem_of_getElem? (i := 734) rfl
set_option maxRecDepth 100000 in
theorem tbc_186 : pd_cw 186 ∈ lw_tbl := List.mem_of_getElem? (i := 741) rfl
set_option maxRecDepth 100000 in
theorem tbc_187 : pd_cw 187 ∈ lw_tbl := List.mem_of_getElem? (i := 754) rfl
set_option maxRecDepth 100000 in
theorem tbc_188 : pd_cw 188 ∈ lw_tbl := List.mem_of_getElem? (i := 761) rfl
set_option maxRecDepth 100000 in
theorem tbc_189 : pd_cw 189 ∈ lw_tbl := List.mem_of_getElem? (i := 768) rfl
set_option maxRecDepth 100000 in
theorem tbc_190 : pd_cw 190 ∈ lw_tbl := List.mem_of_getElem? (i := 780) rfl
set_option maxRecDepth 100000 in
theorem tbc_191 : pd_cw 191 ∈ lw_tbl := List.mem_of_getElem? (i := 787) rfl
set_option maxRecDepth 100000 in
theorem tbc_192 : pd_cw 192 ∈ lw_tbl := List.mem_of_getElem? (i := 794) rfl
set_option maxRecDepth 100000 in
theorem tbc_193 : pd_cw 193 ∈ lw_tbl := List.mem_of_getElem? (i := 801) rfl
set_option maxRecDepth 100000 in
theorem tbc_194 : pd_cw 194 ∈ lw_tbl := List.mem_of_getElem? (i := 812) rfl
set_option maxRecDepth 100000 in
theorem tbc_195 : pd_cw 195 ∈ lw_tbl := List.mem_of_getElem? (i := 830) rfl
set_option maxRecDepth 100000 in
theorem tbc_196 : pd_cw 196 ∈ lw_tbl := List.mem_of_getElem? (i := 839) rfl
set_option maxRecDepth 100000 in
theorem tbc_197 : pd_cw 197 ∈ lw_tbl := List.mem_of_getElem? (i := 846) rfl
set_option maxRecDepth 100000 in
theorem tbc_198 : pd_cw 198 ∈ lw_tbl := List.mem_of_getElem? (i := 870) rfl
set_option maxRecDepth 100000 in
theorem tbc_199 : pd_cw 199 ∈ lw_tbl := List.mem_of_getElem? (i := 883) rfl
set_option maxRecDepth 100000 in
theorem tbc_200 : pd_cw 200 ∈ lw_tbl := List.mem_of_getElem? (i := 890) rfl
theorem tbc_l0 : ∀ c ∈ ([0, 1, 2, 3, 4, 5, 6, 7, 8, 9, 10, 11, 12, 13, 14, 15, 16, 17, 18, 19, 20, 21, 22, 23, 24, 25, 26, 27, 28, 29, 30, 31, 32, 33, 34, 35, 36, 37, 38, 39, 40, 41, 42, 43, 44, 45, 46, 47, 48, 49, 50] : List Nat), pd_cw c ∈ lw_tbl := List.forall_mem_cons.mpr ⟨tbc_0, List.forall_mem_cons.mpr ⟨tbc_1, List.forall_mem_cons.mpr ⟨tbc_2, List.forall_mem_cons.mpr ⟨tbc_3, List.forall_mem_cons.mpr ⟨tbc_4, List.forall_mem_cons.mpr ⟨tbc_5, List.forall_mem_cons.mpr ⟨tbc_6, List.forall_mem_cons.mpr ⟨tbc_7, List.forall_mem_cons.mpr ⟨tbc_8, List.forall_mem_cons.mpr ⟨tbc_9, List.forall_mem_cons.mpr ⟨tbc_10, List.forall_mem_cons.mpr ⟨tbc_11, List.forall_mem_cons.mpr ⟨tbc_12, List.forall_mem_cons.mpr ⟨tbc_13, List.forall_mem_cons.mpr ⟨tbc_14, List.forall_mem_cons.mpr ⟨tbc_15, List.forall_mem_cons.mpr ⟨tbc_16, List.forall_mem_cons.mpr ⟨tbc_17, List.forall_mem_cons.mpr ⟨tbc_18, List.forall_mem_cons.mpr ⟨tbc_19, List.forall_mem_cons.mpr ⟨tbc_20, List.forall_mem_cons.mpr ⟨tbc_21, List.forall_mem_cons.mpr ⟨tbc_22, List.forall_mem_cons.mpr ⟨tbc_23, List.forall_mem_cons.mpr ⟨tbc_24, List.forall_mem_cons.mpr ⟨tbc_25, List.forall_mem_cons.mpr ⟨tbc_26, List.forall_mem_cons.mpr ⟨tbc_27, List.forall_mem_cons.mpr ⟨tbc_28, List.forall_mem_cons.mpr ⟨tbc_29, List.forall_mem_cons.mpr ⟨tbc_30, List.forall_mem_cons.mpr ⟨tbc_31, List.forall_mem_cons.mpr ⟨tbc_32, List.forall_mem_cons.mpr ⟨tbc_33, List.forall_mem_cons.mpr ⟨tbc_34, List.forall_mem_cons.mpr ⟨tbc_35, List.forall_mem_cons.mpr ⟨tbc_36, List.forall_mem_cons.mpr ⟨tbc_37, List.forall_mem_cons.mpr ⟨tbc_38, List.forall_mem_cons.mpr ⟨tbc_39, List.forall_mem_cons.mpr ⟨tbc_40, List.forall_mem_cons.mpr ⟨tbc_41, List.forall_mem_cons.mpr ⟨tbc_42, List.forall_mem_cons.mpr ⟨tbc_43, List.forall_mem_cons.mpr ⟨tbc_44, List.forall_mem_cons.mpr ⟨tbc_45, List.forall_mem_cons.mpr ⟨tbc_46, List.forall_mem_cons.mpr ⟨tbc_47, List.forall_mem_cons.mpr ⟨tbc_48, List.forall_mem_cons.mpr ⟨tbc_49, List.forall_mem_cons.mpr ⟨tbc_50, fun _ h => absurd h List.not_mem_nil⟩⟩⟩⟩⟩⟩⟩⟩⟩⟩⟩⟩⟩⟩⟩⟩⟩⟩⟩⟩⟩⟩⟩⟩⟩⟩⟩⟩⟩⟩⟩⟩⟩⟩⟩⟩⟩⟩⟩⟩⟩⟩⟩⟩⟩⟩⟩⟩⟩⟩⟩
theorem tbc_l1 : ∀ c ∈ ([51, 52, 53, 54, 55, 56, 57, 58, 59, 60, 61, 62, 63, 64, 65, 66, 67, 68, 69, 70, 71, 72, 73, 74, 75, 76, 77, 78, 79, 80, 81, 82, 83, 84, 85, 86, 87, 88, 89, 90, 91, 92, 93, 94, 95, 96, 97, 98, 99, 100, 101] : List Nat), pd_cw c ∈ lw_tbl := List.forall_mem_cons.mpr ⟨tbc_51, List.forall_mem_cons.mpr ⟨tbc_52, List.forall_mem_cons.mpr ⟨tbc_53, List.forall_mem_cons.mpr ⟨tbc_54, List.forall_mem_cons.mpr ⟨tbc_55, List.forall_mem_cons.mpr ⟨tbc_56, List.forall_mem_cons.mpr ⟨tbc_57, List.forall_mem_cons.mpr ⟨tbc_58, List.forall_mem_cons.mpr ⟨tbc_59, List.forall_mem_cons.mpr ⟨tbc_60, List.forall_mem_cons.mpr ⟨tbc_61, List.forall_mem_cons.mpr ⟨tbc_62, List.forall_mem_cons.mpr ⟨tbc_63, List.forall_mem_cons.mpr ⟨tbc_64, List.forall_mem_cons.mpr ⟨tbc_65, List.forall_mem_cons.mpr ⟨tbc_66, List.forall_mem_cons.mpr ⟨tbc_67, List.forall_mem_cons.mpr ⟨tbc_68, List.forall_mem_cons.mpr ⟨tbc_69, List.forall_mem_cons.mpr ⟨tbc_70, List.forall_mem_cons.mpr ⟨tbc_71, List.forall_mem_cons.mpr ⟨tbc_72, List.forall_mem_cons.mpr ⟨tbc_73, List.forall_mem_cons.mpr ⟨tbc_74, List.forall_mem_cons.mpr ⟨tbc_75, List.forall_mem_cons.mpr ⟨tbc_76, List.forall_mem_cons.mpr ⟨tbc_77, List.forall_mem_cons.mpr ⟨tbc_78, List.forall_mem_cons.mpr ⟨tbc_79, List.forall_mem_cons.mpr ⟨tbc_80, List.forall_mem_cons.mpr ⟨tbc_81, List.forall_mem_cons.mpr ⟨tbc_82, List.forall_mem_cons.mpr ⟨tbc_83, List.forall_mem_cons.mpr ⟨tbc_84, List.forall_mem_cons.mpr ⟨tbc_85, List.forall_mem_cons.mpr ⟨tbc_86, List.forall_mem_cons.mpr ⟨tbc_87, List.forall_mem_cons.mpr ⟨tbc_88, List.forall_mem_cons.mpr ⟨tbc_89, List.forall_mem_cons.mpr ⟨tbc_90, List.forall_mem_cons.mpr ⟨tbc_91, List.forall_mem_cons.mpr ⟨tbc_92, List.forall_mem_cons.mpr ⟨tbc_93, List.forall_mem_cons.mpr ⟨tbc_94, List.forall_mem_cons.mpr ⟨tbc_95, List.forall_mem_cons.mpr ⟨tbc_96, List.forall_mem_cons.mpr ⟨tbc_97, List.forall_mem_cons.mpr ⟨tbc_98, List.forall_mem_cons.mpr ⟨tbc_99, List.forall_mem_cons.mpr ⟨tbc_100, List.forall_mem_cons.mpr ⟨tbc_101, fun _ h => absurd h List.not_mem_nil⟩⟩⟩⟩⟩⟩⟩⟩⟩⟩⟩⟩⟩⟩⟩⟩⟩⟩⟩⟩⟩⟩⟩⟩⟩⟩⟩⟩⟩⟩⟩⟩⟩⟩⟩⟩⟩⟩⟩⟩⟩⟩⟩⟩⟩⟩⟩⟩⟩⟩⟩
theorem tbc_l2 : ∀ c ∈ ([102, 103, 104, 105, 106, 107, 108, 109, 110, 111, 112, 113, 114, 115, 116, 117, 118, 119, 120, 121, 122, 123, 124, 125, 126, 127, 128, 129, 130, 131, 132, 133, 134, 135, 136, 137, 138, 139, 140, 141, 142, 143, 144, 145, 146, 147, 148, 149, 150, 151, 152] : List Nat), pd_cw c ∈ lw_tbl := List.forall_mem_cons.mpr ⟨tbc_102, List.forall_mem_cons.mpr ⟨tbc_103, List.forall_mem_cons.mpr ⟨tbc_104, List.forall_mem_cons.mpr ⟨tbc_105, List.forall_mem_cons.mpr ⟨tbc_106, List.forall_mem_cons.mpr ⟨tbc_107, List.forall_mem_cons.mpr ⟨tbc_108, List.forall_mem_cons.mpr ⟨tbc_109, List.forall_mem_cons.mpr ⟨tbc_110, List.forall_mem_cons.mpr ⟨tbc_111, List.forall_mem_cons.mpr ⟨tbc_112, List.forall_mem_cons.mpr ⟨tbc_113, List.forall_mem_cons.mpr ⟨tbc_114, List.forall_mem_cons.mpr ⟨tbc_115, List.forall_mem_cons.mpr ⟨tbc_116, List.forall_mem_cons.mpr ⟨tbc_117, List.forall_mem_cons.mpr ⟨tbc_118, List.forall_mem_cons.mpr ⟨tbc_119, List.forall_mem_cons.mpr ⟨tbc_120, List.forall_mem_cons.mpr ⟨tbc_121, List.forall_mem_cons.mpr ⟨tbc_122, List.forall_mem_cons.mpr ⟨tbc_123, List.forall_mem_cons.mpr ⟨tbc_124, List.forall_mem_cons.mpr ⟨tbc_125, List.forall_mem_cons.mpr ⟨tbc_126, List.forall_mem_cons.mpr ⟨tbc_127, List.forall_mem_cons.mpr ⟨tbc_128, List.forall_mem_cons.mpr ⟨tbc_129, List.forall_mem_cons.mpr ⟨tbc_130, List.forall_mem_cons.mpr ⟨tbc_131, List.forall_mem_cons.mpr ⟨tbc_132, List.forall_mem_cons.mpr ⟨tbc_133, List.forall_mem_cons.mpr ⟨tbc_134, List.forall_mem_cons.mpr ⟨tbc_135, List.forall_mem_cons.mpr ⟨tbc_136, List.forall_mem_cons.mpr ⟨tbc_137, List.forall_mem_cons.mpr ⟨tbc_138, List.forall_mem_cons.mpr ⟨tbc_139, List.forall_mem_cons.mpr ⟨tbc_140, List.forall_mem_cons.mpr ⟨tbc_141, List.forall_mem_cons.mpr ⟨tbc_142, List.forall_mem_cons.mpr ⟨tbc_143, List.forall_mem_cons.mpr ⟨tbc_144, List.forall_mem_cons.mpr ⟨tbc_145, List.forall_mem_cons.mpr ⟨tbc_146, List.forall_mem_cons.mpr ⟨tbc_147, List.forall_mem_cons.mpr ⟨tbc_148, List.forall_mem_cons.mpr ⟨tbc_149, List.forall_mem_cons.mpr ⟨tbc_150, List.forall_mem_cons.mpr ⟨tbc_151, List.forall_mem_cons.mpr ⟨tbc_152, fun _ h => absurd h List.not_mem_nil⟩⟩⟩⟩⟩⟩⟩⟩⟩⟩⟩⟩⟩⟩⟩⟩⟩⟩⟩⟩⟩⟩⟩⟩⟩⟩⟩⟩⟩⟩⟩⟩⟩⟩⟩⟩⟩⟩⟩⟩⟩⟩⟩⟩⟩⟩⟩⟩⟩⟩⟩
theorem tbc_l3 : ∀ c ∈ ([153, 154, 155, 156, 157, 158, 159, 160, 161, 162, 163, 164, 165, 166, 167, 168, 169, 170, 171, 172, 173, 174, 175, 176, 177, 178, 179, 180, 181, 182, 183, 184, 185, 186, 187, 188, 189, 190, 191, 192, 193, 194, 195, 196, 197, 198, 199, 200] : List Nat), pd_cw c ∈ lw_tbl := List.forall_mem_cons.mpr ⟨tbc_153, List.forall_mem_cons.mpr ⟨tbc_154, List.forall_mem_cons.mpr ⟨tbc_155, List.forall_mem_cons.mpr ⟨tbc_156, List.forall_mem_cons.mpr ⟨tbc_157, List.forall_mem_cons.mpr ⟨tbc_158, List.forall_mem_cons.mpr ⟨tbc_159, List.forall_mem_cons.mpr ⟨tbc_160, List.forall_mem_cons.mpr ⟨tbc_161, List.forall_mem_cons.mpr ⟨tbc_162, List.forall_mem_cons.mpr ⟨tbc_163, List.forall_mem_cons.mpr ⟨tbc_164, List.forall_mem_cons.mpr ⟨tbc_165, List.forall_mem_cons.mpr ⟨tbc_166, List.forall_mem_cons.mpr ⟨tbc_167, List.forall_mem_cons.mpr ⟨tbc_168, List.forall_mem_cons.mpr ⟨tbc_169, List.forall_mem_cons.mpr ⟨tbc_170, List.forall_mem_cons.mpr ⟨tbc_171, List.forall_mem_cons.mpr ⟨tbc_172, List.forall_mem_cons.mpr ⟨tbc_173, List.forall_mem_cons.mpr ⟨tbc_174, List.forall_mem_cons.mpr ⟨tbc_175, List.forall_mem_cons.mpr ⟨tbc_176, List.forall_mem_cons.mpr ⟨tbc_177, List.forall_mem_cons.mpr ⟨tbc_178, List.forall_mem_cons.mpr ⟨tbc_179, List.forall_mem_cons.mpr ⟨tbc_180, List.forall_mem_cons.mpr ⟨tbc_181, List.forall_mem_cons.mpr ⟨tbc_182, List.forall_mem_cons.mpr ⟨tbc_183, List.forall_mem_cons.mpr ⟨tbc_184, List.forall_mem_cons.mpr ⟨tbc_185, List.forall_mem_cons.mpr ⟨tbc_186, List.forall_mem_cons.mpr ⟨tbc_187, List.forall_mem_cons.mpr ⟨tbc_188, List.forall_mem_cons.mpr ⟨tbc_189, List.forall_mem_cons.mpr ⟨tbc_190, List.forall_mem_cons.mpr ⟨tbc_191, List.forall_mem_cons.mpr ⟨tbc_192, List.forall_mem_cons.mpr ⟨tbc_193, List.forall_mem_cons.mpr ⟨tbc_194, List.forall_mem_cons.mpr ⟨tbc_195, List.forall_mem_cons.mpr ⟨tbc_196, List.forall_mem_cons.mpr ⟨tbc_197, List.forall_mem_cons.mpr ⟨tbc_198, List.forall_mem_cons.mpr ⟨tbc_199, List.forall_mem_cons.mpr ⟨tbc_200, fun _ h => absurd h List.not_mem_nil⟩⟩⟩⟩⟩⟩⟩⟩⟩⟩⟩⟩⟩⟩⟩⟩⟩⟩⟩⟩⟩⟩⟩⟩⟩⟩⟩⟩⟩⟩⟩⟩⟩⟩⟩⟩⟩⟩⟩⟩⟩⟩⟩⟩⟩⟩⟩⟩
theorem tbc_in {c : Nat} (h : c < 201) : pd_cw c ∈ lw_tbl := by
  have h3 : List.range 201 = ([0, 1, 2, 3, 4, 5, 6, 7, 8, 9, 10, 11, 12, 13, 14, 15, 16, 17, 18, 19, 20, 21, 22, 23, 24, 25, 26, 27, 28, 29, 30, 31, 32, 33, 34, 35, 36, 37, 38, 39, 40, 41, 42, 43, 44, 45, 46, 47, 48, 49, 50] : List Nat) ++ ([51, 52, 53, 54, 55, 56, 57, 58, 59, 60, 61, 62, 63, 64, 65, 66, 67, 68, 69, 70, 71, 72, 73, 74, 75, 76, 77, 78, 79, 80, 81, 82, 83, 84, 85, 86, 87, 88, 89, 90, 91, 92, 93, 94, 95, 96, 97, 98, 99, 100, 101] ++ ([102, 103, 104, 105, 106, 107, 108, 109, 110, 111, 112, 113, 114, 115, 116, 117, 118, 119, 120, 121, 122, 123, 124, 125, 126, 127, 128, 129, 130, 131, 132, 133, 134, 135, 136, 137, 138, 139, 140, 141, 142, 143, 144, 145, 146, 147, 148, 149, 150, 151, 152] ++ [153, 154, 155, 156, 157, 158, 159, 160, 161, 162, 163, 164, 165, 166, 167, 168, 169, 170, 171, 172, 173, 174, 175, 176, 177, 178, 179, 180, 181, 182, 183, 184, 185, 186, 187, 188, 189, 190, 191, 192, 193, 194, 195, 196, 197, 198, 199, 200])) := by decide +kernel
  have h1 : c ∈ List.range 201 := List.mem_range.mpr h
  rw [h3] at h1
  rcases List.mem_append.mp h1 with h1 | h1
  · exact tbc_l0 c h1
  rcases List.mem_append.mp h1 with h1 | h1
  · exact tbc_l1 c h1
  rcases List.mem_append.mp h1 with h1 | h1
  · exact tbc_l2 c h1
  · exact tbc_l3 c h1
theorem tbd_b : (List.range 202).all (fun c => decide ((pd_y c).cls = pd_cn (pd_o c)) && (plainName (pd_cn (pd_o c)) && (decide (pd_cn (pd_o c) ≠ "java/lang/invoke/MethodHandle") && (decide (pd_cn (pd_o c) ≠ "java/lang/invoke/VarHandle") && (decide ((parseMethodDescriptor (pd_y c).desc).map (fun d => d.parameters.length) = some (pd_np c)) && (!((pd_y c).name == "<init>") || decide (pd_r c = none))))))) = true := by decide +kernel
theorem tb_objInst : Cond.instanceMethod objectInit ∈ pd_tb := pd_at_in (p := 84) (by decide +kernel)
theorem tb_minS : Cond.static Lib.Math.min.name ∈ pd_tb := pd_at_in (p := 348) (by decide +kernel)
theorem tb_minLS : Cond.static Lib.MathLoose.min_long.x ∈ pd_tb := pd_at_in (p := 702) (by decide +kernel)
theorem tb_maxLS : Cond.static Lib.MathLoose.max_long.x ∈ pd_tb := pd_at_in (p := 822) (by decide +kernel)
theorem tb_mathI : Cond.initialized "java/lang/Math" ∈ pd_tb := pd_at_in (p := 76) (by decide +kernel)
theorem tb_sysI : Cond.initialized "java/lang/System" ∈ pd_tb := pd_at_in (p := 67) (by decide +kernel)
theorem tb_cpyN : Cond.native arraycopyName ∈ pd_tb := pd_at_in (p := 230) (by decide +kernel)
theorem tb_cpyS : Cond.static arraycopyName ∈ pd_tb := pd_at_in (p := 229) (by decide +kernel)
theorem tb_objC : Cond.code objectInit ⟨#[0xb1]⟩ 1 none ∈ pd_tb := pd_at_in (p := 85) (by decide +kernel)
theorem tb_minC : Cond.code Lib.Math.min.name Lib.Math.min.code 2 (some .int) ∈ pd_tb := pd_at_in (p := 349) (by decide +kernel)
theorem tb_minLC : Cond.code Lib.MathLoose.min_long.x Lib.MathLoose.min_long.code 4 (some .long) ∈ pd_tb := pd_at_in (p := 703) (by decide +kernel)
theorem tb_maxLC : Cond.code Lib.MathLoose.max_long.x Lib.MathLoose.max_long.code 4 (some .long) ∈ pd_tb := pd_at_in (p := 823) (by decide +kernel)
theorem tb_arr_int : Cond.arrayClass .int ∈ pd_tb := pd_at_in (p := 121) (by decide +kernel)
theorem tb_arr_long : Cond.arrayClass .long ∈ pd_tb := pd_at_in (p := 267) (by decide +kernel)
theorem tb_arr_boolean : Cond.arrayClass .boolean ∈ pd_tb := pd_at_in (p := 334) (by decide +kernel)
theorem tb_over : Cond.arrayOver (.object (pd_cn 4)) ∈ lw_tbl := List.mem_of_getElem? (i := 281) (by decide +kernel)
theorem tbl_b : pd_zp (fun e p => pd_at p (.classLink (pd_cn e.1) e.2.1 (pd_cn e.2.2)) && decide (e.2.2 < 7)) pd_CL [280, 92, 122, 86, 186, 231, 268, 274, 78, 896] = true := by decide +kernel
theorem tbg_b : pd_zp (fun ci p => pd_at p (.instantiable (pd_cn ci) (pd_fn ci))) (List.range 7) [232, 275, 93, 87, 123, 79, 897] = true := by decide +kernel
theorem tbh_b : pd_zp (fun ci p => pd_at p (.initialized (pd_cn ci))) (List.range 8) [68, 69, 65, 64, 66, 63, 70, 62] = true := by decide +kernel
theorem tbk_b : pd_zp (fun e p => pd_at p (.constantLong (pd_cn e.1) e.2.1 (Int64.ofInt e.2.2))) pd_KL [430, 455, 835, 851, 875, 876, 1096, 1153, 1129, 986, 1063, 1148, 1169, 1170, 1171, 1172, 1217, 1218, 1234, 1247, 1243, 1248, 1261, 1262, 1271] = true := by decide +kernel
