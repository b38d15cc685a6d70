/-! TABLES, by program (wip/whole/gen_tables.py): the pools' links, and the claim's words that stand for them -/
def mm_ws0 : List Cond := lw_tbl.filter goodWord
theorem mm_ws0_of {w : Cond} (h : w ∈ lw_tbl) (g : goodWord w = true) : w ∈ mm_ws0 := List.mem_filter.mpr ⟨h, g⟩
theorem mm_ws0_in {w : Cond} (h : w ∈ mm_ws0) : w ∈ lw_tbl := (List.mem_filter.mp h).1
theorem mm_ws0_good {w : Cond} (h : w ∈ mm_ws0) : goodWord w = true := (List.mem_filter.mp h).2
theorem mm_bulk (ws : List Cond) (ps : List Nat) (hp : ws = ps.filterMap (fun i => lw_tbl[i]?)) (h : ws.all goodWord = true) : ∀ w ∈ ws, w ∈ mm_ws0 := by
  intro w hw
  have h1 := List.all_eq_true.mp h w hw
  rw [hp] at hw
  obtain ⟨i, -, hi⟩ := List.mem_filterMap.mp hw
  exact mm_ws0_of (List.mem_of_getElem? hi) h1
/-- the methods: class, name, code, locals, answer, static, arguments -/
abbrev mm_T : Type := Nat × MethodName × ByteArray × Nat × Option FieldType × Bool × Nat
def mm_mtab : List mm_T := [
  (0, yX0_keepOf, cX0_keepOf, 2, none, false, 1), (0, yX0_giveTo, cX0_giveTo, 2, none, false, 1), (1, yX1_add, cX1_add, 2, none, false, 1),
  (1, yX1_read, cX1_read, 2, (some .int), false, 0), (1, yX1_readClause, cX1_readClause, 2, none, false, 0), (1, yX1_readPlace, cX1_readPlace, 4, none, false, 1),
  (1, yX1_readLetter, cX1_readLetter, 6, none, false, 1), (1, yX1_readStone, cX1_readStone, 3, none, false, 1), (1, yX1_readNumber, cX1_readNumber, 6, (some .int), false, 2),
  (1, yX1_readEnd, cX1_readEnd, 1, none, false, 0), (1, yX1_fail, cX1_fail, 3, none, false, 2), (1, yX1_skipBlanks, cX1_skipBlanks, 1, none, false, 0),
  (1, yX1_isWord, cX1_isWord, 4, (some .boolean), false, 2), (1, yX1_isBetween, cX1_isBetween, 3, (some .boolean), false, 2), (1, yX1_byteAt, cX1_byteAt, 2, (some .int), false, 1),
  (2, yX2_lay, cX2_lay, 3, none, false, 2), (2, yX2_weigh, cX2_weigh, 4, none, false, 2), (2, yX2_sort, cX2_sort, 10, none, false, 2),
  (2, yX2_walk, cX2_walk, 6, none, false, 1), (2, yX2_rankOf, cX2_rankOf, 4, (some .int), false, 2), (2, yX2_isInTime, cX2_isInTime, 3, (some .boolean), false, 2),
  (2, yX2_lettersInTime, cX2_lettersInTime, 4, (some .int), false, 1), (2, yX2_had, cX2_had, 5, (some .int), false, 4), (2, yX2_hadOfAll, cX2_hadOfAll, 5, (some .int), false, 2),
  (2, yX2_longerOfTwo, cX2_longerOfTwo, 6, (some .int), false, 2), (3, yX3_seek, cX3_seek, 3, none, false, 2), (3, yX3_letterAt, cX3_letterAt, 3, (some .int), false, 2),
  (3, yX3_extend, cX3_extend, 6, none, false, 4), (3, yX3_append, cX3_append, 8, none, false, 5), (3, yX3_mayLead, cX3_mayLead, 4, (some .boolean), false, 3),
  (3, yX3_consider, cX3_consider, 4, none, false, 2), (3, yX3_isBetter, cX3_isBetter, 3, (some .boolean), false, 2), (3, yX3_fewestStones, cX3_fewestStones, 12, (some .int), false, 1),
  (4, yX4_begin, cX4_begin, 2, none, false, 1), (4, yX4_bestStones, cX4_bestStones, 10, (some .int), false, 3), (4, yX4_settle, cX4_settle, 7, (some .boolean), false, 2),
  (4, yX4_wasSeen, cX4_wasSeen, 4, (some .boolean), false, 1), (4, yX4_packed, cX4_packed, 3, (some .int), false, 0), (5, yX5_hasPlace, cX5_hasPlace, 2, (some .boolean), false, 1),
  (5, yX5_hasLetter, cX5_hasLetter, 2, (some .boolean), false, 1), (5, yX5_apart, cX5_apart, 3, (some .int), false, 2), (5, yX5_addPlace, cX5_addPlace, 3, none, false, 2),
  (5, yX5_addLetter, cX5_addLetter, 5, none, false, 4), (5, yX5_becomeTold, cX5_becomeTold, 2, none, false, 1), (5, yX5_drawLetters, cX5_drawLetters, 2, none, false, 0),
  (5, yX5_draw, cX5_draw, 2, (some .int), false, 1), (6, yX6_feed, cX6_feed, 5, (some .int), false, 2), (6, yX6_town, cX6_town, 2, (some .int), false, 0),
  (6, yX6_fault, cX6_fault, 1, (some .int), false, 0), (6, yX6_told, cX6_told, 2, (some .int), false, 1), (6, yX6_place, cX6_place, 3, (some .int), false, 2),
  (6, yX6_letter, cX6_letter, 3, (some .int), false, 2), (6, yX6_far, cX6_far, 3, (some .int), false, 2), (6, yX6_order, cX6_order, 2, (some .int), false, 1),
  (6, yX6_stones, cX6_stones, 4, (some .int), false, 2), (6, yX6_law, cX6_law, 3, (some .int), false, 1), (6, yX6_price, cX6_price, 3, (some .int), false, 1),
  (6, yX6_drift, cX6_drift, 4, (some .int), false, 1), (6, yX6_shortest, cX6_shortest, 2, (some .int), false, 1), (6, yX6_inTime, cX6_inTime, 2, (some .int), false, 1),
  (6, yX6_answer, cX6_answer, 2, (some .int), false, 1), (6, yX6_rests, cX6_rests, 2, (some .int), false, 1), (6, yX6_best, cX6_best, 4, (some .int), false, 0),
  (6, yX6_agreed, cX6_agreed, 5, (some .int), false, 2), (6, yX6_two, cX6_two, 6, (some .int), false, 1), (6, yX6_came, cX6_came, 3, (some .int), false, 1),
  (6, yX6_ends, cX6_ends, 5, (some .int), false, 2), (6, yX6_write, cX6_write, 3, (some .int), false, 2), (6, yX6_tear, cX6_tear, 2, (some .int), false, 0),
  (6, yX6_judge, cX6_judge, 2, (some .int), false, 0), (6, yX6_seed, cX6_seed, 3, (some .int), false, 1), (6, yX6_keep, cX6_keep, 2, (some .int), false, 1),
  (6, yX6_goBack, cX6_goBack, 2, (some .int), false, 1), (6, yX6_imageOf, cX6_imageOf, 2, (some (.object "HeaviestFirst$Image")), false, 1), (6, yX6_nothingCanBeTried, cX6_nothingCanBeTried, 1, (some .boolean), false, 0),
  (6, yX6_agreeOnWeight, cX6_agreeOnWeight, 5, (some .boolean), false, 1), (6, yX6_isIn, cX6_isIn, 2, (some .boolean), true, 2), (6, yX6_at, cX6_at, 2, (some .int), true, 2),
  (6, yX6_put, cX6_put, 3, none, true, 3), (6, yX6_copyRow, cX6_copyRow, 3, none, true, 2), (6, yX6_sum, cX6_sum, 4, (some .int), true, 2),
  (6, yX6_sameRows, cX6_sameRows, 4, (some .boolean), true, 3), (7, yX7_in, cX7_in, 6, (some .boolean), true, 3), (7, yX7_has, cX7_has, 2, (some .boolean), true, 2),
  (7, yX7_size, cX7_size, 1, (some .int), true, 1), (7, yX7_isPlace, cX7_isPlace, 2, (some .boolean), false, 1), (7, yX7_isLetter, cX7_isLetter, 2, (some .boolean), false, 1),
  (7, yX7_feed, cX7_feed, 5, (some .int), false, 2), (7, yX7_here, cX7_here, 1, (some .int), false, 0), (7, yX7_fails, cX7_fails, 3, (some .int), false, 2),
  (7, yX7_readWord, cX7_readWord, 2, none, false, 0), (7, yX7_code, cX7_code, 5, (some .long), true, 5), (7, yX7_takeNumber, cX7_takeNumber, 4, (some .int), false, 2),
  (7, yX7_into, cX7_into, 6, (some .int), false, 4), (7, yX7_takePlace, cX7_takePlace, 3, (some .int), false, 0), (7, yX7_takeLetter, cX7_takeLetter, 3, (some .int), false, 0),
  (7, yX7_takeClause, cX7_takeClause, 3, (some .int), false, 0), (7, yX7_town, cX7_town, 3, (some .int), false, 0), (7, yX7_fault, cX7_fault, 1, (some .int), false, 0),
  (7, yX7_farOf, cX7_farOf, 3, (some .int), false, 2), (7, yX7_nextOf, cX7_nextOf, 6, (some .int), false, 2), (7, yX7_setHeavy, cX7_setHeavy, 2, none, false, 0),
  (7, yX7_putInOrder, cX7_putInOrder, 4, none, false, 0), (7, yX7_walkFrom, cX7_walkFrom, 6, (some .int), false, 2), (7, yX7_walkNow, cX7_walkNow, 1, (some .int), false, 0),
  (7, yX7_hadOf, cX7_hadOf, 2, (some .int), false, 1), (7, yX7_hadAll, cX7_hadAll, 4, (some .int), false, 0), (7, yX7_stonesAll, cX7_stonesAll, 3, (some .int), false, 0),
  (7, yX7_inTimeSet, cX7_inTimeSet, 4, (some .int), false, 0), (7, yX7_told, cX7_told, 2, (some .int), false, 1), (7, yX7_place, cX7_place, 3, (some .int), false, 2),
  (7, yX7_placeIn, cX7_placeIn, 4, (some .int), false, 1), (7, yX7_letter, cX7_letter, 4, (some .int), false, 2), (7, yX7_far, cX7_far, 3, (some .int), false, 2),
  (7, yX7_order, cX7_order, 3, (some .int), false, 1), (7, yX7_stones, cX7_stones, 4, (some .int), false, 2), (7, yX7_law, cX7_law, 3, (some .int), false, 1),
  (7, yX7_price, cX7_price, 3, (some .int), false, 1), (7, yX7_draw, cX7_draw, 2, (some .int), false, 1), (7, yX7_drift, cX7_drift, 5, (some .int), false, 1),
  (7, yX7_setOrder, cX7_setOrder, 5, (some .boolean), false, 1), (7, yX7_stonesFor, cX7_stonesFor, 9, (some .int), false, 0), (7, yX7_areInTime, cX7_areInTime, 3, (some .boolean), false, 0),
  (7, yX7_findOrder, cX7_findOrder, 10, (some .boolean), false, 1), (7, yX7_shortest, cX7_shortest, 3, (some .int), false, 1), (7, yX7_inTime, cX7_inTime, 3, (some .int), false, 1),
  (7, yX7_answerOf, cX7_answerOf, 8, (some .int), false, 1), (7, yX7_answer, cX7_answer, 2, (some .int), false, 1), (7, yX7_roundChanges, cX7_roundChanges, 4, (some .boolean), false, 0),
  (7, yX7_goToRest, cX7_goToRest, 2, (some .int), false, 0), (7, yX7_goBackFromRest, cX7_goBackFromRest, 2, none, false, 0), (7, yX7_rests, cX7_rests, 4, (some .int), false, 1),
  (7, yX7_best, cX7_best, 8, (some .int), false, 0), (7, yX7_agreed, cX7_agreed, 7, (some .int), false, 2), (7, yX7_two, cX7_two, 9, (some .int), false, 1),
  (7, yX7_came, cX7_came, 3, (some .int), false, 1), (7, yX7_isTold, cX7_isTold, 5, (some .boolean), false, 2), (7, yX7_ends, cX7_ends, 6, (some .int), false, 2),
  (7, yX7_write, cX7_write, 3, (some .int), false, 2), (7, yX7_tear, cX7_tear, 2, (some .int), false, 0), (7, yX7_judge, cX7_judge, 3, (some .int), false, 0),
  (7, yX7_seed, cX7_seed, 3, (some .int), false, 1), (7, yX7_keep, cX7_keep, 4, (some .int), false, 1), (7, yX7_goBack, cX7_goBack, 4, (some .int), false, 1)]
set_option maxRecDepth 100000 in
theorem mm_m_code : ∀ w ∈ mm_mtab.map (fun T => Cond.code T.2.1 T.2.2.1 T.2.2.2.1 T.2.2.2.2.1), w ∈ mm_ws0 := mm_bulk _ [736, 745, 343, 351, 363, 424, 448, 457, 432, 436, 428, 355, 372, 367, 359, 476, 480, 488, 495, 544, 515, 511, 523, 519, 694, 596, 632, 600, 622, 627, 604, 616, 608, 644, 649, 661, 671, 666, 531, 540, 499, 440, 452, 461, 576, 580, 337, 347, 468, 472, 527, 536, 549, 554, 558, 563, 567, 571, 588, 636, 640, 657, 675, 679, 690, 699, 703, 712, 716, 720, 724, 728, 741, 732, 592, 683, 491, 483, 443, 464, 506, 708, 890, 968, 979, 1003, 1012, 886, 901, 923, 909, 918, 927, 937, 933, 941, 905, 897, 945, 976, 965, 957, 961, 972, 953, 995, 991, 983, 987, 949, 999, 1016, 1008, 1020, 1024, 1028, 1033, 1038, 1048, 1043, 1065, 1069, 1073, 1060, 1056, 1077, 1085, 1081, 1100, 1096, 1104, 1090, 1108, 1112, 1116, 1120, 1128, 1124, 1132, 1137, 1141, 1145, 1149, 1153] rfl (by decide +kernel)
def mm_clss : List String := [RX0, RX1, RX2, RX3, RX4, RX5, RX6, RX7]
set_option maxRecDepth 100000 in
theorem mm_c_ini : ∀ w ∈ mm_clss.map (fun C => Cond.initialized C), w ∈ mm_ws0 := mm_bulk _ [62, 57, 59, 60, 61, 58, 56, 63] (by decide +kernel) (by decide +kernel)
set_option maxRecDepth 100000 in
theorem mm_m_inst : ∀ w ∈ (mm_mtab.filter (fun T => !T.2.2.2.2.2.1)).map (fun T => Cond.instanceMethod T.2.1), w ∈ mm_ws0 := mm_bulk _ [734, 743, 341, 349, 362, 423, 447, 456, 431, 435, 427, 354, 371, 366, 358, 474, 478, 486, 494, 542, 513, 509, 521, 517, 692, 594, 630, 599, 621, 626, 603, 615, 607, 642, 647, 659, 670, 665, 529, 538, 497, 438, 450, 459, 574, 579, 335, 345, 466, 470, 525, 534, 547, 552, 556, 561, 565, 569, 586, 634, 638, 655, 673, 677, 688, 697, 701, 710, 714, 718, 722, 726, 739, 731, 591, 682, 1002, 1011, 884, 900, 922, 908, 926, 936, 932, 940, 904, 895, 943, 975, 964, 956, 960, 971, 952, 994, 990, 982, 986, 947, 997, 1015, 1006, 1018, 1022, 1026, 1031, 1036, 1047, 1041, 1064, 1068, 1072, 1059, 1054, 1075, 1084, 1079, 1099, 1095, 1103, 1088, 1106, 1110, 1114, 1118, 1127, 1122, 1130, 1135, 1139, 1143, 1147, 1151] (by decide +kernel) (by decide +kernel)
set_option maxRecDepth 100000 in
theorem mm_m_sel : ∀ w ∈ (mm_mtab.filter (fun T => !T.2.2.2.2.2.1)).map (fun T => Cond.selects T.2.1.cls T.2.1 T.2.1), w ∈ mm_ws0 := mm_bulk _ [735, 744, 342, 350, 2, 5, 9, 10, 7, 8, 6, 0, 4, 3, 1, 475, 479, 487, 11, 543, 514, 510, 522, 518, 693, 595, 631, 14, 18, 19, 15, 17, 16, 643, 648, 660, 21, 20, 530, 539, 498, 439, 451, 460, 575, 12, 336, 346, 467, 471, 526, 535, 548, 553, 557, 562, 566, 570, 587, 635, 639, 656, 674, 678, 689, 698, 702, 711, 715, 719, 723, 727, 740, 23, 13, 22, 42, 43, 885, 24, 27, 26, 28, 30, 29, 31, 25, 896, 944, 37, 35, 33, 34, 36, 32, 41, 40, 38, 39, 948, 998, 44, 1007, 1019, 1023, 1027, 1032, 1037, 45, 1042, 47, 48, 49, 46, 1055, 1076, 50, 1080, 52, 51, 53, 1089, 1107, 1111, 1115, 1119, 54, 1123, 1131, 1136, 1140, 1144, 1148, 1152] (by decide +kernel) (by decide +kernel)
set_option maxRecDepth 100000 in
theorem mm_m_stat : ∀ w ∈ (mm_mtab.filter (fun T => T.2.2.2.2.2.1)).map (fun T => Cond.static T.2.1), w ∈ mm_ws0 := mm_bulk _ [490, 482, 442, 463, 505, 707, 889, 967, 978, 917] (by decide +kernel) (by decide +kernel)
set_option maxRecDepth 100000 in
theorem mm_m_plain : mm_mtab.all (fun T => plainName T.2.1.cls && (T.2.1.cls == mm_R T.1) && mm_clss.contains T.2.1.cls && (T.2.1.cls != "java/lang/invoke/MethodHandle") && (T.2.1.cls != "java/lang/invoke/VarHandle") && ((parseMethodDescriptor T.2.1.desc).map (fun d => d.parameters.length) == some T.2.2.2.2.2.2) && Nat.ble T.2.2.2.1 40) = true := by decide +kernel
def mm_TT : Nat → u_T
  | 0 => TX0
  | 1 => TX1
  | 2 => TX2
  | 3 => TX3
  | 4 => TX4
  | 5 => TX5
  | 6 => TX6
  | _ => TX7
def mm_NN : Nat → Nat
  | 0 => 7
  | 1 => 7
  | 2 => 4
  | 3 => 6
  | 4 => 4
  | 5 => 12
  | 6 => 13
  | _ => 43
/-- fields: own class, number in its pool, the field's class and place -/
def mm_ftab : List (Nat × Nat × Nat × Nat) := [
  (5, 9, 5, 0), (6, 140, 5, 0), (5, 15, 5, 1), (6, 146, 5, 1), (5, 18, 5, 2), (0, 21, 5, 2), (3, 57, 5, 2), (2, 60, 5, 2), (6, 152, 5, 2), (5, 21, 5, 3), (0, 28, 5, 3), (2, 42, 5, 3),
  (6, 155, 5, 3), (3, 89, 5, 3), (5, 24, 5, 4), (3, 72, 5, 4), (2, 67, 5, 4), (6, 158, 5, 4), (5, 27, 5, 5), (4, 36, 5, 5), (6, 161, 5, 5), (2, 74, 5, 5), (5, 30, 5, 6), (4, 25, 5, 6),
  (0, 29, 5, 6), (6, 104, 5, 6), (5, 40, 5, 7), (1, 29, 5, 7), (6, 111, 5, 7), (2, 25, 5, 8), (5, 43, 5, 8), (1, 32, 5, 8), (6, 98, 5, 8), (3, 40, 5, 8), (4, 59, 5, 8), (5, 33, 5, 9),
  (0, 30, 5, 9), (1, 35, 5, 9), (6, 114, 5, 9), (2, 77, 5, 9), (5, 37, 5, 10), (2, 31, 5, 10), (0, 35, 5, 10), (6, 117, 5, 10), (3, 86, 5, 10), (0, 39, 5, 11), (5, 67, 5, 11), (6, 244, 5, 11),
  (1, 9, 1, 0), (1, 18, 1, 1), (6, 81, 1, 1), (1, 26, 1, 2), (6, 68, 1, 2), (1, 22, 1, 3), (6, 101, 1, 3), (1, 42, 1, 4), (1, 45, 1, 5), (1, 38, 1, 6), (2, 9, 2, 0), (6, 164, 2, 0),
  (2, 15, 2, 1), (6, 181, 2, 1), (2, 18, 2, 2), (6, 171, 2, 2), (2, 57, 2, 3), (6, 120, 2, 3), (3, 9, 3, 0), (3, 15, 3, 1), (3, 18, 3, 2), (3, 22, 3, 3), (6, 209, 3, 3), (3, 25, 3, 4),
  (6, 200, 3, 4), (3, 29, 3, 5), (6, 203, 3, 5), (4, 9, 4, 0), (6, 225, 4, 0), (4, 18, 4, 1), (4, 22, 4, 2), (4, 67, 4, 3), (6, 222, 4, 3), (0, 9, 0, 0), (0, 15, 0, 1), (0, 18, 0, 2),
  (0, 34, 0, 3), (0, 38, 0, 4), (0, 42, 0, 5), (0, 45, 0, 6), (6, 94, 0, 6), (6, 10, 6, 0), (6, 19, 6, 1), (6, 26, 6, 2), (6, 33, 6, 3), (6, 40, 6, 4), (6, 47, 6, 5), (6, 51, 6, 6),
  (6, 54, 6, 7), (6, 58, 6, 8), (6, 61, 6, 9), (6, 64, 6, 10), (6, 88, 6, 11), (6, 91, 6, 12), (7, 90, 7, 0), (7, 7, 7, 1), (7, 13, 7, 2), (7, 97, 7, 3), (7, 16, 7, 4), (7, 19, 7, 5),
  (7, 22, 7, 6), (7, 25, 7, 7), (7, 28, 7, 8), (7, 31, 7, 9), (7, 197, 7, 10), (7, 248, 7, 11), (7, 35, 7, 12), (7, 103, 7, 13), (7, 38, 7, 14), (7, 109, 7, 15), (7, 116, 7, 16), (7, 120, 7, 17),
  (7, 146, 7, 18), (7, 143, 7, 19), (7, 152, 7, 20), (7, 41, 7, 21), (7, 44, 7, 22), (7, 159, 7, 23), (7, 47, 7, 24), (7, 50, 7, 25), (7, 53, 7, 26), (7, 56, 7, 27), (7, 171, 7, 28), (7, 59, 7, 29),
  (7, 62, 7, 30), (7, 65, 7, 31), (7, 68, 7, 32), (7, 263, 7, 33), (7, 266, 7, 34), (7, 71, 7, 35), (7, 183, 7, 36), (7, 74, 7, 37), (7, 186, 7, 38), (7, 77, 7, 39), (7, 80, 7, 40), (7, 83, 7, 41),
  (7, 86, 7, 42)]
set_option maxRecDepth 100000 in
theorem mm_f_link : ∀ w ∈ mm_ftab.map (fun q => Cond.fieldLink (mm_R q.1) q.2.1 (mm_TT q.2.2.1 q.2.2.2).1 (mm_TT q.2.2.1 q.2.2.2).2.1 (mm_TT q.2.2.1 q.2.2.2).2.2.1), w ∈ mm_ws0 := mm_bulk _ [89, 90, 91, 92, 93, 94, 95, 96, 97, 98, 99, 100, 101, 102, 103, 104, 105, 106, 107, 108, 109, 110, 111, 112, 113, 114, 115, 116, 117, 118, 119, 120, 121, 122, 123, 124, 125, 126, 127, 128, 129, 130, 131, 132, 133, 134, 135, 136, 164, 165, 166, 167, 168, 169, 170, 171, 172, 173, 197, 198, 199, 200, 201, 202, 203, 204, 220, 221, 222, 223, 224, 225, 226, 227, 228, 250, 251, 252, 253, 254, 255, 271, 272, 273, 274, 275, 276, 277, 278, 294, 295, 296, 297, 298, 299, 300, 301, 302, 303, 304, 305, 306, 752, 753, 754, 755, 756, 757, 758, 759, 760, 761, 762, 763, 764, 765, 766, 767, 768, 769, 770, 771, 772, 773, 774, 775, 776, 777, 778, 779, 780, 781, 782, 783, 784, 785, 786, 787, 788, 789, 790, 791, 792, 793, 794] (by decide +kernel) (by decide +kernel)
theorem mm_f_bound : mm_ftab.all (fun q => Nat.blt q.1 8 && Nat.blt q.2.2.1 8 && Nat.blt q.2.2.2 (mm_NN q.2.2.1)) = true := by decide +kernel
def mm_ctab : List (Nat × Nat × Int32) := [(6, 67, -1000000002), (6, 72, -1000000004), (6, 139, -1000000001), (6, 188, -1000000003), (5, 76, 65536), (7, 102, -1000000002), (7, 106, -1000000004), (7, 235, -1000000001), (7, 258, -1000000003), (7, 257, 65536), (7, 262, 1000000000), (7, 283, -1000000000)]
set_option maxRecDepth 100000 in
theorem mm_c_const : ∀ w ∈ mm_ctab.map (fun q => Cond.constant (mm_R q.1) q.2.1 q.2.2), w ∈ mm_ws0 := mm_bulk _ [338, 339, 532, 572, 584, 891, 892, 1004, 1044, 1052, 1061, 1086] (by decide +kernel) (by decide +kernel)
def mm_jtab : List (Nat × Nat × Int64) := [(5, 70, 1103515245), (5, 72, 12345), (5, 74, 2147483647), (7, 100, 8), (7, 107, 255), (7, 123, 97), (7, 125, 122), (7, 127, 1000000000000), (7, 129, 2000000000000), (7, 131, 27), (7, 133, 96), (7, 169, 114), (7, 135, 48), (7, 137, 57), (7, 242, 9), (7, 244, 2), (7, 246, 99), (7, 251, 1103515245), (7, 253, 12345), (7, 255, 2147483648), (7, 290, -3), (7, 292, -1), (7, 303, 9999)]
set_option maxRecDepth 100000 in
theorem mm_c_long : ∀ w ∈ mm_jtab.map (fun q => Cond.constantLong (mm_R q.1) q.2.1 q.2.2), w ∈ mm_ws0 := mm_bulk _ [581, 582, 583, 887, 893, 910, 911, 912, 913, 914, 915, 919, 928, 929, 1029, 1034, 1039, 1049, 1050, 1051, 1091, 1092, 1133] (by decide +kernel) (by decide +kernel)
/-- text constants: own class, number, the cell's number (1000 on) -/
def mm_stab : List (Nat × Nat × Nat) := [(1, 58, 1000), (1, 68, 1001), (1, 73, 1002)]
def mm_texts : List String := ["place", "letter", "stone"]
def mm_bytes : List (List Int32) := [[112, 108, 97, 99, 101], [108, 101, 116, 116, 101, 114], [115, 116, 111, 110, 101]]
/-- calls: own class, number, the method; by methodLink -/
def mm_ltab : List (Nat × Nat × Nat) := [
  (6, 73, 2), (6, 77, 3), (1, 48, 11), (1, 96, 14), (1, 51, 4), (1, 54, 13), (1, 60, 12), (1, 64, 5), (1, 78, 10), (1, 82, 8), (1, 86, 9), (1, 89, 41),
  (1, 70, 6), (1, 92, 42), (1, 75, 7), (6, 84, 43), (6, 107, 15), (2, 21, 16), (2, 34, 17), (2, 38, 18), (2, 63, 40), (6, 123, 80), (6, 143, 77), (6, 127, 21),
  (2, 70, 20), (6, 131, 23), (2, 80, 22), (6, 135, 38), (6, 149, 39), (6, 167, 19), (6, 174, 22), (6, 178, 40), (6, 184, 78), (6, 189, 44), (5, 64, 45), (6, 192, 74),
  (6, 196, 25), (3, 32, 27), (3, 45, 30), (3, 75, 32), (3, 79, 31), (3, 53, 28), (3, 60, 40), (3, 64, 29), (6, 206, 26), (6, 212, 33), (6, 215, 34), (4, 43, 15),
  (4, 47, 22), (6, 218, 35), (4, 51, 33), (4, 55, 37), (4, 63, 34), (4, 70, 36), (6, 226, 75), (6, 257, 76), (6, 266, 79), (6, 229, 24), (6, 233, 16), (6, 236, 17),
  (6, 240, 81), (6, 247, 73), (6, 251, 0), (6, 254, 1), (7, 93, 82), (7, 112, 88), (7, 180, 96), (7, 162, 90), (7, 165, 91), (7, 139, 89), (7, 149, 92), (7, 174, 94),
  (7, 155, 93), (7, 177, 95), (7, 216, 104), (7, 207, 101), (7, 210, 102), (7, 200, 100), (7, 193, 83), (7, 213, 103), (7, 204, 99), (7, 189, 84), (7, 222, 107), (7, 225, 108),
  (7, 228, 106), (7, 219, 105), (7, 231, 85), (7, 236, 86), (7, 239, 111), (7, 259, 118), (7, 279, 123), (7, 269, 120), (7, 272, 121), (7, 275, 122), (7, 284, 126), (7, 294, 129),
  (7, 287, 128), (7, 297, 130), (7, 300, 136)]
def mm_T0 : mm_T := (0, yX0_keepOf, cX0_keepOf, 0, none, false, 0)
def mm_mt (j : Nat) : mm_T := mm_mtab.getD j mm_T0
set_option maxRecDepth 100000 in
theorem mm_l_link : ∀ w ∈ mm_ltab.map (fun q => Cond.methodLink (mm_R q.1) q.2.1 (mm_mt q.2.2).2.1), w ∈ mm_ws0 := mm_bulk _ [340, 348, 352, 356, 360, 364, 369, 421, 425, 429, 433, 437, 445, 449, 454, 458, 473, 477, 485, 492, 496, 504, 507, 508, 512, 516, 520, 528, 537, 541, 545, 550, 559, 573, 577, 589, 593, 597, 601, 605, 613, 619, 623, 624, 629, 641, 646, 652, 653, 658, 662, 663, 667, 668, 680, 684, 686, 691, 704, 705, 706, 729, 733, 742, 888, 898, 902, 906, 916, 920, 924, 930, 934, 938, 950, 954, 958, 962, 966, 969, 973, 977, 980, 984, 988, 992, 1000, 1009, 1013, 1045, 1057, 1062, 1066, 1070, 1082, 1093, 1097, 1101, 1125] (by decide +kernel) (by decide +kernel)
theorem mm_l_ok : mm_ltab.all (fun q => Nat.blt q.2.2 mm_mtab.length && (!(mm_mt q.2.2).2.2.2.2.2.1 || (mm_mt q.2.2).1 == q.1)) = true := by decide +kernel
/-- calls of a nest mate's private static methods: own class, number, the method -/
def mm_ntab : List (Nat × Nat × Nat) := [(5, 56, 78), (5, 60, 79), (2, 45, 77), (2, 49, 78), (2, 53, 76), (5, 46, 77), (3, 36, 77), (3, 82, 79), (3, 49, 76), (3, 68, 78), (4, 28, 79), (4, 32, 77), (4, 39, 78), (0, 24, 79)]
theorem mm_n_ok : mm_ntab.all (fun q => Nat.blt q.2.2 mm_mtab.length && (mm_mt q.2.2).2.2.2.2.2.1) = true := by decide +kernel
set_option maxRecDepth 100000 in
theorem mm_n_link : ∀ w ∈ mm_ntab.map (fun q => Cond.methodLinkNest (mm_R q.1) q.2.1 (mm_mt q.2.2).2.1 RX6), w ∈ lw_tbl := fun w hw => by
  have hp : mm_ntab.map (fun q => Cond.methodLinkNest (mm_R q.1) q.2.1 (mm_mt q.2.2).2.1 RX6) = [441, 462, 481, 484, 489, 500, 609, 617, 618, 628, 645, 650, 651, 737].filterMap (fun i => lw_tbl[i]?) := by decide +kernel
  rw [hp] at hw
  obtain ⟨i, -, hi⟩ := List.mem_filterMap.mp hw
  exact List.mem_of_getElem? hi
/-- calls of the JDK's: own class, number, which: 3 String.length, 4 String.charAt, 5 Math.abs, 6 Math.max -/
def mm_xtab : List (Nat × Nat × Nat) := [(1, 100, 3), (1, 105, 4), (5, 50, 5), (3, 92, 6), (6, 261, 6), (2, 84, 6)]
def mm_xy : Nat → MethodName
  | 3 => yJ0_length_8abf5
  | 4 => yJ0_charAt_5068e
  | 5 => Lib.Math.abs.name
  | _ => Lib.Math.max.name
set_option maxRecDepth 100000 in
theorem mm_x_link : ∀ w ∈ mm_xtab.map (fun q => Cond.methodLink (mm_R q.1) q.2.1 (mm_xy q.2.2)), w ∈ mm_ws0 := mm_bulk _ [373, 383, 501, 610, 685, 695] (by decide +kernel) (by decide +kernel)
set_option maxRecDepth 100000 in
theorem mm_x_words : ∀ w ∈ [Cond.static Lib.Math.abs.name, Cond.static Lib.Math.max.name, Cond.initialized "java/lang/Math", Cond.code Lib.Math.abs.name Lib.Math.abs.code 1 (some .int), Cond.code Lib.Math.max.name Lib.Math.max.code 2 (some .int)], w ∈ mm_ws0 := mm_bulk _ [502, 611, 68, 503, 612] rfl (by decide +kernel)
