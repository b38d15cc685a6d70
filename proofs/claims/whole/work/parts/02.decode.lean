theorem dX0_init_0 : decode cX0_init 0 = .ok (.aload_n 0, 1) := by decide +kernel
theorem dX0_init_1 : decode cX0_init 1 = .ok (.invokespecial 3, 3) := by decide +kernel
theorem dX0_init_4 : decode cX0_init 4 = .ok (.aload_n 0, 1) := by decide +kernel
theorem dX0_init_5 : decode cX0_init 5 = .ok (.bipush 7, 2) := by decide +kernel
theorem dX0_init_7 : decode cX0_init 7 = .ok (.newarray .int, 2) := by decide +kernel
theorem dX0_init_9 : decode cX0_init 9 = .ok (.putfield 9, 3) := by decide +kernel
theorem dX0_init_12 : decode cX0_init 12 = .ok (.aload_n 0, 1) := by decide +kernel
theorem dX0_init_13 : decode cX0_init 13 = .ok (.bipush 7, 2) := by decide +kernel
theorem dX0_init_15 : decode cX0_init 15 = .ok (.newarray .int, 2) := by decide +kernel
theorem dX0_init_17 : decode cX0_init 17 = .ok (.putfield 15, 3) := by decide +kernel
theorem dX0_init_20 : decode cX0_init 20 = .ok (.aload_n 0, 1) := by decide +kernel
theorem dX0_init_21 : decode cX0_init 21 = .ok (.bipush 7, 2) := by decide +kernel
theorem dX0_init_23 : decode cX0_init 23 = .ok (.newarray .int, 2) := by decide +kernel
theorem dX0_init_25 : decode cX0_init 25 = .ok (.putfield 18, 3) := by decide +kernel
theorem dX0_init_28 : decode cX0_init 28 = .ok (.return_, 1) := by decide +kernel
theorem dX0_keepOf_0 : decode cX0_keepOf 0 = .ok (.aload_n 1, 1) := by decide +kernel
theorem dX0_keepOf_1 : decode cX0_keepOf 1 = .ok (.getfield 21, 3) := by decide +kernel
theorem dX0_keepOf_4 : decode cX0_keepOf 4 = .ok (.aload_n 0, 1) := by decide +kernel
theorem dX0_keepOf_5 : decode cX0_keepOf 5 = .ok (.getfield 9, 3) := by decide +kernel
theorem dX0_keepOf_8 : decode cX0_keepOf 8 = .ok (.invokestatic 24, 3) := by decide +kernel
theorem dX0_keepOf_11 : decode cX0_keepOf 11 = .ok (.aload_n 1, 1) := by decide +kernel
theorem dX0_keepOf_12 : decode cX0_keepOf 12 = .ok (.getfield 28, 3) := by decide +kernel
theorem dX0_keepOf_15 : decode cX0_keepOf 15 = .ok (.aload_n 0, 1) := by decide +kernel
theorem dX0_keepOf_16 : decode cX0_keepOf 16 = .ok (.getfield 15, 3) := by decide +kernel
theorem dX0_keepOf_19 : decode cX0_keepOf 19 = .ok (.invokestatic 24, 3) := by decide +kernel
theorem dX0_keepOf_22 : decode cX0_keepOf 22 = .ok (.aload_n 1, 1) := by decide +kernel
theorem dX0_keepOf_23 : decode cX0_keepOf 23 = .ok (.getfield 29, 3) := by decide +kernel
theorem dX0_keepOf_26 : decode cX0_keepOf 26 = .ok (.aload_n 0, 1) := by decide +kernel
theorem dX0_keepOf_27 : decode cX0_keepOf 27 = .ok (.getfield 18, 3) := by decide +kernel
theorem dX0_keepOf_30 : decode cX0_keepOf 30 = .ok (.invokestatic 24, 3) := by decide +kernel
theorem dX0_keepOf_33 : decode cX0_keepOf 33 = .ok (.aload_n 0, 1) := by decide +kernel
theorem dX0_keepOf_34 : decode cX0_keepOf 34 = .ok (.aload_n 1, 1) := by decide +kernel
theorem dX0_keepOf_35 : decode cX0_keepOf 35 = .ok (.getfield 30, 3) := by decide +kernel
theorem dX0_keepOf_38 : decode cX0_keepOf 38 = .ok (.putfield 34, 3) := by decide +kernel
theorem dX0_keepOf_41 : decode cX0_keepOf 41 = .ok (.aload_n 0, 1) := by decide +kernel
theorem dX0_keepOf_42 : decode cX0_keepOf 42 = .ok (.aload_n 1, 1) := by decide +kernel
theorem dX0_keepOf_43 : decode cX0_keepOf 43 = .ok (.getfield 35, 3) := by decide +kernel
theorem dX0_keepOf_46 : decode cX0_keepOf 46 = .ok (.putfield 38, 3) := by decide +kernel
theorem dX0_keepOf_49 : decode cX0_keepOf 49 = .ok (.aload_n 0, 1) := by decide +kernel
theorem dX0_keepOf_50 : decode cX0_keepOf 50 = .ok (.aload_n 1, 1) := by decide +kernel
theorem dX0_keepOf_51 : decode cX0_keepOf 51 = .ok (.getfield 39, 3) := by decide +kernel
theorem dX0_keepOf_54 : decode cX0_keepOf 54 = .ok (.putfield 42, 3) := by decide +kernel
theorem dX0_keepOf_57 : decode cX0_keepOf 57 = .ok (.aload_n 0, 1) := by decide +kernel
theorem dX0_keepOf_58 : decode cX0_keepOf 58 = .ok (.iconst 1, 1) := by decide +kernel
theorem dX0_keepOf_59 : decode cX0_keepOf 59 = .ok (.putfield 45, 3) := by decide +kernel
theorem dX0_keepOf_62 : decode cX0_keepOf 62 = .ok (.return_, 1) := by decide +kernel
theorem dX0_giveTo_0 : decode cX0_giveTo 0 = .ok (.aload_n 0, 1) := by decide +kernel
theorem dX0_giveTo_1 : decode cX0_giveTo 1 = .ok (.getfield 9, 3) := by decide +kernel
theorem dX0_giveTo_4 : decode cX0_giveTo 4 = .ok (.aload_n 1, 1) := by decide +kernel
theorem dX0_giveTo_5 : decode cX0_giveTo 5 = .ok (.getfield 21, 3) := by decide +kernel
theorem dX0_giveTo_8 : decode cX0_giveTo 8 = .ok (.invokestatic 24, 3) := by decide +kernel
theorem dX0_giveTo_11 : decode cX0_giveTo 11 = .ok (.aload_n 0, 1) := by decide +kernel
theorem dX0_giveTo_12 : decode cX0_giveTo 12 = .ok (.getfield 15, 3) := by decide +kernel
theorem dX0_giveTo_15 : decode cX0_giveTo 15 = .ok (.aload_n 1, 1) := by decide +kernel
theorem dX0_giveTo_16 : decode cX0_giveTo 16 = .ok (.getfield 28, 3) := by decide +kernel
theorem dX0_giveTo_19 : decode cX0_giveTo 19 = .ok (.invokestatic 24, 3) := by decide +kernel
theorem dX0_giveTo_22 : decode cX0_giveTo 22 = .ok (.aload_n 0, 1) := by decide +kernel
theorem dX0_giveTo_23 : decode cX0_giveTo 23 = .ok (.getfield 18, 3) := by decide +kernel
theorem dX0_giveTo_26 : decode cX0_giveTo 26 = .ok (.aload_n 1, 1) := by decide +kernel
theorem dX0_giveTo_27 : decode cX0_giveTo 27 = .ok (.getfield 29, 3) := by decide +kernel
theorem dX0_giveTo_30 : decode cX0_giveTo 30 = .ok (.invokestatic 24, 3) := by decide +kernel
theorem dX0_giveTo_33 : decode cX0_giveTo 33 = .ok (.aload_n 1, 1) := by decide +kernel
theorem dX0_giveTo_34 : decode cX0_giveTo 34 = .ok (.aload_n 0, 1) := by decide +kernel
theorem dX0_giveTo_35 : decode cX0_giveTo 35 = .ok (.getfield 34, 3) := by decide +kernel
theorem dX0_giveTo_38 : decode cX0_giveTo 38 = .ok (.putfield 30, 3) := by decide +kernel
theorem dX0_giveTo_41 : decode cX0_giveTo 41 = .ok (.aload_n 1, 1) := by decide +kernel
theorem dX0_giveTo_42 : decode cX0_giveTo 42 = .ok (.aload_n 0, 1) := by decide +kernel
theorem dX0_giveTo_43 : decode cX0_giveTo 43 = .ok (.getfield 38, 3) := by decide +kernel
theorem dX0_giveTo_46 : decode cX0_giveTo 46 = .ok (.putfield 35, 3) := by decide +kernel
theorem dX0_giveTo_49 : decode cX0_giveTo 49 = .ok (.aload_n 1, 1) := by decide +kernel
theorem dX0_giveTo_50 : decode cX0_giveTo 50 = .ok (.aload_n 0, 1) := by decide +kernel
theorem dX0_giveTo_51 : decode cX0_giveTo 51 = .ok (.getfield 42, 3) := by decide +kernel
theorem dX0_giveTo_54 : decode cX0_giveTo 54 = .ok (.putfield 39, 3) := by decide +kernel
theorem dX0_giveTo_57 : decode cX0_giveTo 57 = .ok (.return_, 1) := by decide +kernel
theorem dX1_init_0 : decode cX1_init 0 = .ok (.aload_n 0, 1) := by decide +kernel
theorem dX1_init_1 : decode cX1_init 1 = .ok (.invokespecial 3, 3) := by decide +kernel
theorem dX1_init_4 : decode cX1_init 4 = .ok (.aload_n 0, 1) := by decide +kernel
theorem dX1_init_5 : decode cX1_init 5 = .ok (.sipush 400, 3) := by decide +kernel
theorem dX1_init_8 : decode cX1_init 8 = .ok (.newarray .byte, 2) := by decide +kernel
theorem dX1_init_10 : decode cX1_init 10 = .ok (.putfield 9, 3) := by decide +kernel
theorem dX1_init_13 : decode cX1_init 13 = .ok (.aload_n 0, 1) := by decide +kernel
theorem dX1_init_14 : decode cX1_init 14 = .ok (.new 15, 3) := by decide +kernel
theorem dX1_init_17 : decode cX1_init 17 = .ok (.dup, 1) := by decide +kernel
theorem dX1_init_18 : decode cX1_init 18 = .ok (.invokespecial 17, 3) := by decide +kernel
theorem dX1_init_21 : decode cX1_init 21 = .ok (.putfield 18, 3) := by decide +kernel
theorem dX1_init_24 : decode cX1_init 24 = .ok (.aload_n 0, 1) := by decide +kernel
theorem dX1_init_25 : decode cX1_init 25 = .ok (.iconst (-1), 1) := by decide +kernel
theorem dX1_init_26 : decode cX1_init 26 = .ok (.putfield 22, 3) := by decide +kernel
theorem dX1_init_29 : decode cX1_init 29 = .ok (.return_, 1) := by decide +kernel
theorem dX1_add_0 : decode cX1_add 0 = .ok (.aload_n 0, 1) := by decide +kernel
theorem dX1_add_1 : decode cX1_add 1 = .ok (.getfield 26, 3) := by decide +kernel
theorem dX1_add_4 : decode cX1_add 4 = .ok (.ifCond .lt 35, 3) := by decide +kernel
theorem dX1_add_7 : decode cX1_add 7 = .ok (.aload_n 0, 1) := by decide +kernel
theorem dX1_add_8 : decode cX1_add 8 = .ok (.getfield 26, 3) := by decide +kernel
theorem dX1_add_11 : decode cX1_add 11 = .ok (.aload_n 0, 1) := by decide +kernel
theorem dX1_add_12 : decode cX1_add 12 = .ok (.getfield 9, 3) := by decide +kernel
theorem dX1_add_15 : decode cX1_add 15 = .ok (.arraylength, 1) := by decide +kernel
theorem dX1_add_16 : decode cX1_add 16 = .ok (.if_icmp .ge 23, 3) := by decide +kernel
theorem dX1_add_19 : decode cX1_add 19 = .ok (.aload_n 0, 1) := by decide +kernel
theorem dX1_add_20 : decode cX1_add 20 = .ok (.getfield 9, 3) := by decide +kernel
theorem dX1_add_23 : decode cX1_add 23 = .ok (.aload_n 0, 1) := by decide +kernel
theorem dX1_add_24 : decode cX1_add 24 = .ok (.getfield 26, 3) := by decide +kernel
theorem dX1_add_27 : decode cX1_add 27 = .ok (.iload_n 1, 1) := by decide +kernel
theorem dX1_add_28 : decode cX1_add 28 = .ok (.bastore, 1) := by decide +kernel
theorem dX1_add_29 : decode cX1_add 29 = .ok (.aload_n 0, 1) := by decide +kernel
theorem dX1_add_30 : decode cX1_add 30 = .ok (.dup, 1) := by decide +kernel
theorem dX1_add_31 : decode cX1_add 31 = .ok (.getfield 26, 3) := by decide +kernel
theorem dX1_add_34 : decode cX1_add 34 = .ok (.iconst 1, 1) := by decide +kernel
theorem dX1_add_35 : decode cX1_add 35 = .ok (.iadd, 1) := by decide +kernel
theorem dX1_add_36 : decode cX1_add 36 = .ok (.putfield 26, 3) := by decide +kernel
theorem dX1_add_39 : decode cX1_add 39 = .ok (.return_, 1) := by decide +kernel
theorem dX1_read_0 : decode cX1_read 0 = .ok (.aload_n 0, 1) := by decide +kernel
theorem dX1_read_1 : decode cX1_read 1 = .ok (.getfield 18, 3) := by decide +kernel
theorem dX1_read_4 : decode cX1_read 4 = .ok (.iconst 0, 1) := by decide +kernel
theorem dX1_read_5 : decode cX1_read 5 = .ok (.putfield 29, 3) := by decide +kernel
theorem dX1_read_8 : decode cX1_read 8 = .ok (.aload_n 0, 1) := by decide +kernel
theorem dX1_read_9 : decode cX1_read 9 = .ok (.getfield 18, 3) := by decide +kernel
theorem dX1_read_12 : decode cX1_read 12 = .ok (.iconst 0, 1) := by decide +kernel
theorem dX1_read_13 : decode cX1_read 13 = .ok (.putfield 32, 3) := by decide +kernel
theorem dX1_read_16 : decode cX1_read 16 = .ok (.aload_n 0, 1) := by decide +kernel
theorem dX1_read_17 : decode cX1_read 17 = .ok (.getfield 18, 3) := by decide +kernel
theorem dX1_read_20 : decode cX1_read 20 = .ok (.iconst 1, 1) := by decide +kernel
theorem dX1_read_21 : decode cX1_read 21 = .ok (.putfield 35, 3) := by decide +kernel
theorem dX1_read_24 : decode cX1_read 24 = .ok (.aload_n 0, 1) := by decide +kernel
theorem dX1_read_25 : decode cX1_read 25 = .ok (.iconst 0, 1) := by decide +kernel
theorem dX1_read_26 : decode cX1_read 26 = .ok (.putfield 38, 3) := by decide +kernel
theorem dX1_read_29 : decode cX1_read 29 = .ok (.aload_n 0, 1) := by decide +kernel
theorem dX1_read_30 : decode cX1_read 30 = .ok (.iconst 0, 1) := by decide +kernel
theorem dX1_read_31 : decode cX1_read 31 = .ok (.putfield 42, 3) := by decide +kernel
theorem dX1_read_34 : decode cX1_read 34 = .ok (.aload_n 0, 1) := by decide +kernel
theorem dX1_read_35 : decode cX1_read 35 = .ok (.iconst 0, 1) := by decide +kernel
theorem dX1_read_36 : decode cX1_read 36 = .ok (.putfield 45, 3) := by decide +kernel
theorem dX1_read_39 : decode cX1_read 39 = .ok (.aload_n 0, 1) := by decide +kernel
theorem dX1_read_40 : decode cX1_read 40 = .ok (.iconst (-1), 1) := by decide +kernel
theorem dX1_read_41 : decode cX1_read 41 = .ok (.putfield 22, 3) := by decide +kernel
theorem dX1_read_44 : decode cX1_read 44 = .ok (.aload_n 0, 1) := by decide +kernel
theorem dX1_read_45 : decode cX1_read 45 = .ok (.invokevirtual 48, 3) := by decide +kernel
theorem dX1_read_48 : decode cX1_read 48 = .ok (.iconst 0, 1) := by decide +kernel
theorem dX1_read_49 : decode cX1_read 49 = .ok (.istore_n 1, 1) := by decide +kernel
theorem dX1_read_50 : decode cX1_read 50 = .ok (.iload_n 1, 1) := by decide +kernel
theorem dX1_read_51 : decode cX1_read 51 = .ok (.sipush 400, 3) := by decide +kernel
theorem dX1_read_54 : decode cX1_read 54 = .ok (.if_icmp .ge 35, 3) := by decide +kernel
theorem dX1_read_57 : decode cX1_read 57 = .ok (.aload_n 0, 1) := by decide +kernel
theorem dX1_read_58 : decode cX1_read 58 = .ok (.getfield 42, 3) := by decide +kernel
theorem dX1_read_61 : decode cX1_read 61 = .ok (.aload_n 0, 1) := by decide +kernel
theorem dX1_read_62 : decode cX1_read 62 = .ok (.getfield 26, 3) := by decide +kernel
theorem dX1_read_65 : decode cX1_read 65 = .ok (.if_icmp .ge 24, 3) := by decide +kernel
theorem dX1_read_68 : decode cX1_read 68 = .ok (.aload_n 0, 1) := by decide +kernel
theorem dX1_read_69 : decode cX1_read 69 = .ok (.getfield 45, 3) := by decide +kernel
theorem dX1_read_72 : decode cX1_read 72 = .ok (.ifCond .ne 17, 3) := by decide +kernel
theorem dX1_read_75 : decode cX1_read 75 = .ok (.aload_n 0, 1) := by decide +kernel
theorem dX1_read_76 : decode cX1_read 76 = .ok (.invokevirtual 51, 3) := by decide +kernel
theorem dX1_read_79 : decode cX1_read 79 = .ok (.aload_n 0, 1) := by decide +kernel
theorem dX1_read_80 : decode cX1_read 80 = .ok (.invokevirtual 48, 3) := by decide +kernel
theorem dX1_read_83 : decode cX1_read 83 = .ok (.iinc 1 1, 3) := by decide +kernel
theorem dX1_read_86 : decode cX1_read 86 = .ok (.goto (-36), 3) := by decide +kernel
theorem dX1_read_89 : decode cX1_read 89 = .ok (.aload_n 0, 1) := by decide +kernel
theorem dX1_read_90 : decode cX1_read 90 = .ok (.iconst 0, 1) := by decide +kernel
theorem dX1_read_91 : decode cX1_read 91 = .ok (.putfield 26, 3) := by decide +kernel
theorem dX1_read_94 : decode cX1_read 94 = .ok (.aload_n 0, 1) := by decide +kernel
theorem dX1_read_95 : decode cX1_read 95 = .ok (.getfield 45, 3) := by decide +kernel
theorem dX1_read_98 : decode cX1_read 98 = .ok (.ireturn, 1) := by decide +kernel
theorem dX1_readClause_0 : decode cX1_readClause 0 = .ok (.aload_n 0, 1) := by decide +kernel
theorem dX1_readClause_1 : decode cX1_readClause 1 = .ok (.getfield 42, 3) := by decide +kernel
theorem dX1_readClause_4 : decode cX1_readClause 4 = .ok (.istore_n 1, 1) := by decide +kernel
theorem dX1_readClause_5 : decode cX1_readClause 5 = .ok (.aload_n 0, 1) := by decide +kernel
theorem dX1_readClause_6 : decode cX1_readClause 6 = .ok (.getfield 42, 3) := by decide +kernel
theorem dX1_readClause_9 : decode cX1_readClause 9 = .ok (.aload_n 0, 1) := by decide +kernel
theorem dX1_readClause_10 : decode cX1_readClause 10 = .ok (.getfield 26, 3) := by decide +kernel
theorem dX1_readClause_13 : decode cX1_readClause 13 = .ok (.if_icmp .ge 27, 3) := by decide +kernel
theorem dX1_readClause_16 : decode cX1_readClause 16 = .ok (.aload_n 0, 1) := by decide +kernel
theorem dX1_readClause_17 : decode cX1_readClause 17 = .ok (.bipush 97, 2) := by decide +kernel
theorem dX1_readClause_19 : decode cX1_readClause 19 = .ok (.bipush 122, 2) := by decide +kernel
theorem dX1_readClause_21 : decode cX1_readClause 21 = .ok (.invokevirtual 54, 3) := by decide +kernel
theorem dX1_readClause_24 : decode cX1_readClause 24 = .ok (.ifCond .eq 16, 3) := by decide +kernel
theorem dX1_readClause_27 : decode cX1_readClause 27 = .ok (.aload_n 0, 1) := by decide +kernel
theorem dX1_readClause_28 : decode cX1_readClause 28 = .ok (.dup, 1) := by decide +kernel
theorem dX1_readClause_29 : decode cX1_readClause 29 = .ok (.getfield 42, 3) := by decide +kernel
theorem dX1_readClause_32 : decode cX1_readClause 32 = .ok (.iconst 1, 1) := by decide +kernel
theorem dX1_readClause_33 : decode cX1_readClause 33 = .ok (.iadd, 1) := by decide +kernel
theorem dX1_readClause_34 : decode cX1_readClause 34 = .ok (.putfield 42, 3) := by decide +kernel
theorem dX1_readClause_37 : decode cX1_readClause 37 = .ok (.goto (-32), 3) := by decide +kernel
theorem dX1_readClause_40 : decode cX1_readClause 40 = .ok (.aload_n 0, 1) := by decide +kernel
theorem dX1_readClause_41 : decode cX1_readClause 41 = .ok (.iload_n 1, 1) := by decide +kernel
theorem dX1_readClause_42 : decode cX1_readClause 42 = .ok (.ldc 58, 2) := by decide +kernel
theorem dX1_readClause_44 : decode cX1_readClause 44 = .ok (.invokevirtual 60, 3) := by decide +kernel
theorem dX1_readClause_47 : decode cX1_readClause 47 = .ok (.ifCond .eq 11, 3) := by decide +kernel
theorem dX1_readClause_50 : decode cX1_readClause 50 = .ok (.aload_n 0, 1) := by decide +kernel
theorem dX1_readClause_51 : decode cX1_readClause 51 = .ok (.iload_n 1, 1) := by decide +kernel
theorem dX1_readClause_52 : decode cX1_readClause 52 = .ok (.invokevirtual 64, 3) := by decide +kernel
theorem dX1_readClause_55 : decode cX1_readClause 55 = .ok (.goto 45, 3) := by decide +kernel
theorem dX1_readClause_58 : decode cX1_readClause 58 = .ok (.aload_n 0, 1) := by decide +kernel
theorem dX1_readClause_59 : decode cX1_readClause 59 = .ok (.iload_n 1, 1) := by decide +kernel
theorem dX1_readClause_60 : decode cX1_readClause 60 = .ok (.ldc 68, 2) := by decide +kernel
theorem dX1_readClause_62 : decode cX1_readClause 62 = .ok (.invokevirtual 60, 3) := by decide +kernel
theorem dX1_readClause_65 : decode cX1_readClause 65 = .ok (.ifCond .eq 11, 3) := by decide +kernel
theorem dX1_readClause_68 : decode cX1_readClause 68 = .ok (.aload_n 0, 1) := by decide +kernel
theorem dX1_readClause_69 : decode cX1_readClause 69 = .ok (.iload_n 1, 1) := by decide +kernel
theorem dX1_readClause_70 : decode cX1_readClause 70 = .ok (.invokevirtual 70, 3) := by decide +kernel
theorem dX1_readClause_73 : decode cX1_readClause 73 = .ok (.goto 27, 3) := by decide +kernel
theorem dX1_readClause_76 : decode cX1_readClause 76 = .ok (.aload_n 0, 1) := by decide +kernel
theorem dX1_readClause_77 : decode cX1_readClause 77 = .ok (.iload_n 1, 1) := by decide +kernel
theorem dX1_readClause_78 : decode cX1_readClause 78 = .ok (.ldc 73, 2) := by decide +kernel
theorem dX1_readClause_80 : decode cX1_readClause 80 = .ok (.invokevirtual 60, 3) := by decide +kernel
theorem dX1_readClause_83 : decode cX1_readClause 83 = .ok (.ifCond .eq 11, 3) := by decide +kernel
theorem dX1_readClause_86 : decode cX1_readClause 86 = .ok (.aload_n 0, 1) := by decide +kernel
theorem dX1_readClause_87 : decode cX1_readClause 87 = .ok (.iload_n 1, 1) := by decide +kernel
theorem dX1_readClause_88 : decode cX1_readClause 88 = .ok (.invokevirtual 75, 3) := by decide +kernel
theorem dX1_readClause_91 : decode cX1_readClause 91 = .ok (.goto 9, 3) := by decide +kernel
theorem dX1_readClause_94 : decode cX1_readClause 94 = .ok (.aload_n 0, 1) := by decide +kernel
theorem dX1_readClause_95 : decode cX1_readClause 95 = .ok (.iconst 1, 1) := by decide +kernel
theorem dX1_readClause_96 : decode cX1_readClause 96 = .ok (.iload_n 1, 1) := by decide +kernel
theorem dX1_readClause_97 : decode cX1_readClause 97 = .ok (.invokevirtual 78, 3) := by decide +kernel
theorem dX1_readClause_100 : decode cX1_readClause 100 = .ok (.return_, 1) := by decide +kernel
theorem dX1_readPlace_0 : decode cX1_readPlace 0 = .ok (.aload_n 0, 1) := by decide +kernel
theorem dX1_readPlace_1 : decode cX1_readPlace 1 = .ok (.getfield 18, 3) := by decide +kernel
theorem dX1_readPlace_4 : decode cX1_readPlace 4 = .ok (.getfield 29, 3) := by decide +kernel
theorem dX1_readPlace_7 : decode cX1_readPlace 7 = .ok (.bipush 7, 2) := by decide +kernel
theorem dX1_readPlace_9 : decode cX1_readPlace 9 = .ok (.if_icmp .lt 9, 3) := by decide +kernel
theorem dX1_readPlace_12 : decode cX1_readPlace 12 = .ok (.aload_n 0, 1) := by decide +kernel
theorem dX1_readPlace_13 : decode cX1_readPlace 13 = .ok (.iconst 3, 1) := by decide +kernel
theorem dX1_readPlace_14 : decode cX1_readPlace 14 = .ok (.iload_n 1, 1) := by decide +kernel
theorem dX1_readPlace_15 : decode cX1_readPlace 15 = .ok (.invokevirtual 78, 3) := by decide +kernel
theorem dX1_readPlace_18 : decode cX1_readPlace 18 = .ok (.aload_n 0, 1) := by decide +kernel
theorem dX1_readPlace_19 : decode cX1_readPlace 19 = .ok (.iconst 0, 1) := by decide +kernel
theorem dX1_readPlace_20 : decode cX1_readPlace 20 = .ok (.bipush 99, 2) := by decide +kernel
theorem dX1_readPlace_22 : decode cX1_readPlace 22 = .ok (.invokevirtual 82, 3) := by decide +kernel
theorem dX1_readPlace_25 : decode cX1_readPlace 25 = .ok (.istore_n 2, 1) := by decide +kernel
theorem dX1_readPlace_26 : decode cX1_readPlace 26 = .ok (.aload_n 0, 1) := by decide +kernel
theorem dX1_readPlace_27 : decode cX1_readPlace 27 = .ok (.iconst 0, 1) := by decide +kernel
theorem dX1_readPlace_28 : decode cX1_readPlace 28 = .ok (.bipush 99, 2) := by decide +kernel
theorem dX1_readPlace_30 : decode cX1_readPlace 30 = .ok (.invokevirtual 82, 3) := by decide +kernel
theorem dX1_readPlace_33 : decode cX1_readPlace 33 = .ok (.istore_n 3, 1) := by decide +kernel
theorem dX1_readPlace_34 : decode cX1_readPlace 34 = .ok (.aload_n 0, 1) := by decide +kernel
theorem dX1_readPlace_35 : decode cX1_readPlace 35 = .ok (.invokevirtual 86, 3) := by decide +kernel
theorem dX1_readPlace_38 : decode cX1_readPlace 38 = .ok (.aload_n 0, 1) := by decide +kernel
theorem dX1_readPlace_39 : decode cX1_readPlace 39 = .ok (.getfield 45, 3) := by decide +kernel
theorem dX1_readPlace_42 : decode cX1_readPlace 42 = .ok (.ifCond .ne 12, 3) := by decide +kernel
theorem dX1_readPlace_45 : decode cX1_readPlace 45 = .ok (.aload_n 0, 1) := by decide +kernel
theorem dX1_readPlace_46 : decode cX1_readPlace 46 = .ok (.getfield 18, 3) := by decide +kernel
theorem dX1_readPlace_49 : decode cX1_readPlace 49 = .ok (.iload_n 2, 1) := by decide +kernel
theorem dX1_readPlace_50 : decode cX1_readPlace 50 = .ok (.iload_n 3, 1) := by decide +kernel
theorem dX1_readPlace_51 : decode cX1_readPlace 51 = .ok (.invokevirtual 89, 3) := by decide +kernel
theorem dX1_readPlace_54 : decode cX1_readPlace 54 = .ok (.return_, 1) := by decide +kernel
theorem dX1_readLetter_0 : decode cX1_readLetter 0 = .ok (.aload_n 0, 1) := by decide +kernel
theorem dX1_readLetter_1 : decode cX1_readLetter 1 = .ok (.getfield 18, 3) := by decide +kernel
theorem dX1_readLetter_4 : decode cX1_readLetter 4 = .ok (.getfield 32, 3) := by decide +kernel
theorem dX1_readLetter_7 : decode cX1_readLetter 7 = .ok (.bipush 7, 2) := by decide +kernel
theorem dX1_readLetter_9 : decode cX1_readLetter 9 = .ok (.if_icmp .lt 9, 3) := by decide +kernel
theorem dX1_readLetter_12 : decode cX1_readLetter 12 = .ok (.aload_n 0, 1) := by decide +kernel
theorem dX1_readLetter_13 : decode cX1_readLetter 13 = .ok (.iconst 3, 1) := by decide +kernel
theorem dX1_readLetter_14 : decode cX1_readLetter 14 = .ok (.iload_n 1, 1) := by decide +kernel
theorem dX1_readLetter_15 : decode cX1_readLetter 15 = .ok (.invokevirtual 78, 3) := by decide +kernel
theorem dX1_readLetter_18 : decode cX1_readLetter 18 = .ok (.aload_n 0, 1) := by decide +kernel
theorem dX1_readLetter_19 : decode cX1_readLetter 19 = .ok (.iconst 0, 1) := by decide +kernel
theorem dX1_readLetter_20 : decode cX1_readLetter 20 = .ok (.aload_n 0, 1) := by decide +kernel
theorem dX1_readLetter_21 : decode cX1_readLetter 21 = .ok (.getfield 18, 3) := by decide +kernel
theorem dX1_readLetter_24 : decode cX1_readLetter 24 = .ok (.getfield 29, 3) := by decide +kernel
theorem dX1_readLetter_27 : decode cX1_readLetter 27 = .ok (.iconst 1, 1) := by decide +kernel
theorem dX1_readLetter_28 : decode cX1_readLetter 28 = .ok (.isub, 1) := by decide +kernel
theorem dX1_readLetter_29 : decode cX1_readLetter 29 = .ok (.invokevirtual 82, 3) := by decide +kernel
theorem dX1_readLetter_32 : decode cX1_readLetter 32 = .ok (.istore_n 2, 1) := by decide +kernel
theorem dX1_readLetter_33 : decode cX1_readLetter 33 = .ok (.aload_n 0, 1) := by decide +kernel
theorem dX1_readLetter_34 : decode cX1_readLetter 34 = .ok (.iconst 1, 1) := by decide +kernel
theorem dX1_readLetter_35 : decode cX1_readLetter 35 = .ok (.bipush 99, 2) := by decide +kernel
theorem dX1_readLetter_37 : decode cX1_readLetter 37 = .ok (.invokevirtual 82, 3) := by decide +kernel
theorem dX1_readLetter_40 : decode cX1_readLetter 40 = .ok (.istore_n 3, 1) := by decide +kernel
theorem dX1_readLetter_41 : decode cX1_readLetter 41 = .ok (.aload_n 0, 1) := by decide +kernel
theorem dX1_readLetter_42 : decode cX1_readLetter 42 = .ok (.iconst 0, 1) := by decide +kernel
theorem dX1_readLetter_43 : decode cX1_readLetter 43 = .ok (.sipush 999, 3) := by decide +kernel
theorem dX1_readLetter_46 : decode cX1_readLetter 46 = .ok (.invokevirtual 82, 3) := by decide +kernel
theorem dX1_readLetter_49 : decode cX1_readLetter 49 = .ok (.istore 4, 2) := by decide +kernel
theorem dX1_readLetter_51 : decode cX1_readLetter 51 = .ok (.aload_n 0, 1) := by decide +kernel
theorem dX1_readLetter_52 : decode cX1_readLetter 52 = .ok (.iconst 0, 1) := by decide +kernel
theorem dX1_readLetter_53 : decode cX1_readLetter 53 = .ok (.bipush 99, 2) := by decide +kernel
theorem dX1_readLetter_55 : decode cX1_readLetter 55 = .ok (.invokevirtual 82, 3) := by decide +kernel
theorem dX1_readLetter_58 : decode cX1_readLetter 58 = .ok (.istore 5, 2) := by decide +kernel
theorem dX1_readLetter_60 : decode cX1_readLetter 60 = .ok (.aload_n 0, 1) := by decide +kernel
theorem dX1_readLetter_61 : decode cX1_readLetter 61 = .ok (.invokevirtual 86, 3) := by decide +kernel
theorem dX1_readLetter_64 : decode cX1_readLetter 64 = .ok (.aload_n 0, 1) := by decide +kernel
theorem dX1_readLetter_65 : decode cX1_readLetter 65 = .ok (.getfield 45, 3) := by decide +kernel
theorem dX1_readLetter_68 : decode cX1_readLetter 68 = .ok (.ifCond .ne 16, 3) := by decide +kernel
theorem dX1_readLetter_71 : decode cX1_readLetter 71 = .ok (.aload_n 0, 1) := by decide +kernel
theorem dX1_readLetter_72 : decode cX1_readLetter 72 = .ok (.getfield 18, 3) := by decide +kernel
theorem dX1_readLetter_75 : decode cX1_readLetter 75 = .ok (.iload_n 2, 1) := by decide +kernel
theorem dX1_readLetter_76 : decode cX1_readLetter 76 = .ok (.iload_n 3, 1) := by decide +kernel
theorem dX1_readLetter_77 : decode cX1_readLetter 77 = .ok (.iload 4, 2) := by decide +kernel
theorem dX1_readLetter_79 : decode cX1_readLetter 79 = .ok (.iload 5, 2) := by decide +kernel
theorem dX1_readLetter_81 : decode cX1_readLetter 81 = .ok (.invokevirtual 92, 3) := by decide +kernel
theorem dX1_readLetter_84 : decode cX1_readLetter 84 = .ok (.return_, 1) := by decide +kernel
theorem dX1_readStone_0 : decode cX1_readStone 0 = .ok (.aload_n 0, 1) := by decide +kernel
theorem dX1_readStone_1 : decode cX1_readStone 1 = .ok (.getfield 38, 3) := by decide +kernel
theorem dX1_readStone_4 : decode cX1_readStone 4 = .ok (.ifCond .eq 9, 3) := by decide +kernel
theorem dX1_readStone_7 : decode cX1_readStone 7 = .ok (.aload_n 0, 1) := by decide +kernel
theorem dX1_readStone_8 : decode cX1_readStone 8 = .ok (.iconst 3, 1) := by decide +kernel
theorem dX1_readStone_9 : decode cX1_readStone 9 = .ok (.iload_n 1, 1) := by decide +kernel
theorem dX1_readStone_10 : decode cX1_readStone 10 = .ok (.invokevirtual 78, 3) := by decide +kernel
theorem dX1_readStone_13 : decode cX1_readStone 13 = .ok (.aload_n 0, 1) := by decide +kernel
theorem dX1_readStone_14 : decode cX1_readStone 14 = .ok (.iconst 0, 1) := by decide +kernel
theorem dX1_readStone_15 : decode cX1_readStone 15 = .ok (.bipush 99, 2) := by decide +kernel
theorem dX1_readStone_17 : decode cX1_readStone 17 = .ok (.invokevirtual 82, 3) := by decide +kernel
theorem dX1_readStone_20 : decode cX1_readStone 20 = .ok (.istore_n 2, 1) := by decide +kernel
theorem dX1_readStone_21 : decode cX1_readStone 21 = .ok (.aload_n 0, 1) := by decide +kernel
theorem dX1_readStone_22 : decode cX1_readStone 22 = .ok (.invokevirtual 86, 3) := by decide +kernel
theorem dX1_readStone_25 : decode cX1_readStone 25 = .ok (.aload_n 0, 1) := by decide +kernel
theorem dX1_readStone_26 : decode cX1_readStone 26 = .ok (.getfield 45, 3) := by decide +kernel
theorem dX1_readStone_29 : decode cX1_readStone 29 = .ok (.ifCond .ne 16, 3) := by decide +kernel
theorem dX1_readStone_32 : decode cX1_readStone 32 = .ok (.aload_n 0, 1) := by decide +kernel
theorem dX1_readStone_33 : decode cX1_readStone 33 = .ok (.getfield 18, 3) := by decide +kernel
theorem dX1_readStone_36 : decode cX1_readStone 36 = .ok (.iload_n 2, 1) := by decide +kernel
theorem dX1_readStone_37 : decode cX1_readStone 37 = .ok (.putfield 35, 3) := by decide +kernel
theorem dX1_readStone_40 : decode cX1_readStone 40 = .ok (.aload_n 0, 1) := by decide +kernel
theorem dX1_readStone_41 : decode cX1_readStone 41 = .ok (.iconst 1, 1) := by decide +kernel
theorem dX1_readStone_42 : decode cX1_readStone 42 = .ok (.putfield 38, 3) := by decide +kernel
theorem dX1_readStone_45 : decode cX1_readStone 45 = .ok (.return_, 1) := by decide +kernel
theorem dX1_readNumber_0 : decode cX1_readNumber 0 = .ok (.aload_n 0, 1) := by decide +kernel
theorem dX1_readNumber_1 : decode cX1_readNumber 1 = .ok (.invokevirtual 48, 3) := by decide +kernel
theorem dX1_readNumber_4 : decode cX1_readNumber 4 = .ok (.aload_n 0, 1) := by decide +kernel
theorem dX1_readNumber_5 : decode cX1_readNumber 5 = .ok (.getfield 42, 3) := by decide +kernel
theorem dX1_readNumber_8 : decode cX1_readNumber 8 = .ok (.istore_n 3, 1) := by decide +kernel
theorem dX1_readNumber_9 : decode cX1_readNumber 9 = .ok (.iconst 0, 1) := by decide +kernel
theorem dX1_readNumber_10 : decode cX1_readNumber 10 = .ok (.istore 4, 2) := by decide +kernel
theorem dX1_readNumber_12 : decode cX1_readNumber 12 = .ok (.aload_n 0, 1) := by decide +kernel
theorem dX1_readNumber_13 : decode cX1_readNumber 13 = .ok (.getfield 42, 3) := by decide +kernel
theorem dX1_readNumber_16 : decode cX1_readNumber 16 = .ok (.aload_n 0, 1) := by decide +kernel
theorem dX1_readNumber_17 : decode cX1_readNumber 17 = .ok (.getfield 26, 3) := by decide +kernel
theorem dX1_readNumber_20 : decode cX1_readNumber 20 = .ok (.if_icmp .ge 56, 3) := by decide +kernel
theorem dX1_readNumber_23 : decode cX1_readNumber 23 = .ok (.aload_n 0, 1) := by decide +kernel
theorem dX1_readNumber_24 : decode cX1_readNumber 24 = .ok (.bipush 48, 2) := by decide +kernel
theorem dX1_readNumber_26 : decode cX1_readNumber 26 = .ok (.bipush 57, 2) := by decide +kernel
theorem dX1_readNumber_28 : decode cX1_readNumber 28 = .ok (.invokevirtual 54, 3) := by decide +kernel
theorem dX1_readNumber_31 : decode cX1_readNumber 31 = .ok (.ifCond .eq 45, 3) := by decide +kernel
theorem dX1_readNumber_34 : decode cX1_readNumber 34 = .ok (.aload_n 0, 1) := by decide +kernel
theorem dX1_readNumber_35 : decode cX1_readNumber 35 = .ok (.getfield 42, 3) := by decide +kernel
theorem dX1_readNumber_38 : decode cX1_readNumber 38 = .ok (.iload_n 3, 1) := by decide +kernel
theorem dX1_readNumber_39 : decode cX1_readNumber 39 = .ok (.isub, 1) := by decide +kernel
theorem dX1_readNumber_40 : decode cX1_readNumber 40 = .ok (.iconst 3, 1) := by decide +kernel
theorem dX1_readNumber_41 : decode cX1_readNumber 41 = .ok (.if_icmp .ge 22, 3) := by decide +kernel
theorem dX1_readNumber_44 : decode cX1_readNumber 44 = .ok (.iload 4, 2) := by decide +kernel
theorem dX1_readNumber_46 : decode cX1_readNumber 46 = .ok (.bipush 10, 2) := by decide +kernel
theorem dX1_readNumber_48 : decode cX1_readNumber 48 = .ok (.imul, 1) := by decide +kernel
theorem dX1_readNumber_49 : decode cX1_readNumber 49 = .ok (.aload_n 0, 1) := by decide +kernel
theorem dX1_readNumber_50 : decode cX1_readNumber 50 = .ok (.aload_n 0, 1) := by decide +kernel
theorem dX1_readNumber_51 : decode cX1_readNumber 51 = .ok (.getfield 42, 3) := by decide +kernel
theorem dX1_readNumber_54 : decode cX1_readNumber 54 = .ok (.invokevirtual 96, 3) := by decide +kernel
theorem dX1_readNumber_57 : decode cX1_readNumber 57 = .ok (.iadd, 1) := by decide +kernel
theorem dX1_readNumber_58 : decode cX1_readNumber 58 = .ok (.bipush 48, 2) := by decide +kernel
theorem dX1_readNumber_60 : decode cX1_readNumber 60 = .ok (.isub, 1) := by decide +kernel
theorem dX1_readNumber_61 : decode cX1_readNumber 61 = .ok (.istore 4, 2) := by decide +kernel
theorem dX1_readNumber_63 : decode cX1_readNumber 63 = .ok (.aload_n 0, 1) := by decide +kernel
theorem dX1_readNumber_64 : decode cX1_readNumber 64 = .ok (.dup, 1) := by decide +kernel
theorem dX1_readNumber_65 : decode cX1_readNumber 65 = .ok (.getfield 42, 3) := by decide +kernel
theorem dX1_readNumber_68 : decode cX1_readNumber 68 = .ok (.iconst 1, 1) := by decide +kernel
theorem dX1_readNumber_69 : decode cX1_readNumber 69 = .ok (.iadd, 1) := by decide +kernel
theorem dX1_readNumber_70 : decode cX1_readNumber 70 = .ok (.putfield 42, 3) := by decide +kernel
theorem dX1_readNumber_73 : decode cX1_readNumber 73 = .ok (.goto (-61), 3) := by decide +kernel
theorem dX1_readNumber_76 : decode cX1_readNumber 76 = .ok (.aload_n 0, 1) := by decide +kernel
theorem dX1_readNumber_77 : decode cX1_readNumber 77 = .ok (.getfield 42, 3) := by decide +kernel
theorem dX1_readNumber_80 : decode cX1_readNumber 80 = .ok (.iload_n 3, 1) := by decide +kernel
theorem dX1_readNumber_81 : decode cX1_readNumber 81 = .ok (.isub, 1) := by decide +kernel
theorem dX1_readNumber_82 : decode cX1_readNumber 82 = .ok (.istore 5, 2) := by decide +kernel
theorem dX1_readNumber_84 : decode cX1_readNumber 84 = .ok (.iload 5, 2) := by decide +kernel
theorem dX1_readNumber_86 : decode cX1_readNumber 86 = .ok (.ifCond .ne 12, 3) := by decide +kernel
theorem dX1_readNumber_89 : decode cX1_readNumber 89 = .ok (.aload_n 0, 1) := by decide +kernel
theorem dX1_readNumber_90 : decode cX1_readNumber 90 = .ok (.iconst 1, 1) := by decide +kernel
theorem dX1_readNumber_91 : decode cX1_readNumber 91 = .ok (.iload_n 3, 1) := by decide +kernel
theorem dX1_readNumber_92 : decode cX1_readNumber 92 = .ok (.invokevirtual 78, 3) := by decide +kernel
theorem dX1_readNumber_95 : decode cX1_readNumber 95 = .ok (.goto 27, 3) := by decide +kernel
theorem dX1_readNumber_98 : decode cX1_readNumber 98 = .ok (.iload 5, 2) := by decide +kernel
theorem dX1_readNumber_100 : decode cX1_readNumber 100 = .ok (.iconst 3, 1) := by decide +kernel
theorem dX1_readNumber_101 : decode cX1_readNumber 101 = .ok (.if_icmp .gt 15, 3) := by decide +kernel
theorem dX1_readNumber_104 : decode cX1_readNumber 104 = .ok (.iload 4, 2) := by decide +kernel
theorem dX1_readNumber_106 : decode cX1_readNumber 106 = .ok (.iload_n 1, 1) := by decide +kernel
theorem dX1_readNumber_107 : decode cX1_readNumber 107 = .ok (.if_icmp .lt 9, 3) := by decide +kernel
theorem dX1_readNumber_110 : decode cX1_readNumber 110 = .ok (.iload 4, 2) := by decide +kernel
theorem dX1_readNumber_112 : decode cX1_readNumber 112 = .ok (.iload_n 2, 1) := by decide +kernel
theorem dX1_readNumber_113 : decode cX1_readNumber 113 = .ok (.if_icmp .le 9, 3) := by decide +kernel
theorem dX1_readNumber_116 : decode cX1_readNumber 116 = .ok (.aload_n 0, 1) := by decide +kernel
theorem dX1_readNumber_117 : decode cX1_readNumber 117 = .ok (.iconst 2, 1) := by decide +kernel
theorem dX1_readNumber_118 : decode cX1_readNumber 118 = .ok (.iload_n 3, 1) := by decide +kernel
theorem dX1_readNumber_119 : decode cX1_readNumber 119 = .ok (.invokevirtual 78, 3) := by decide +kernel
theorem dX1_readNumber_122 : decode cX1_readNumber 122 = .ok (.iload 4, 2) := by decide +kernel
theorem dX1_readNumber_124 : decode cX1_readNumber 124 = .ok (.ireturn, 1) := by decide +kernel
theorem dX1_readEnd_0 : decode cX1_readEnd 0 = .ok (.aload_n 0, 1) := by decide +kernel
theorem dX1_readEnd_1 : decode cX1_readEnd 1 = .ok (.invokevirtual 48, 3) := by decide +kernel
theorem dX1_readEnd_4 : decode cX1_readEnd 4 = .ok (.aload_n 0, 1) := by decide +kernel
theorem dX1_readEnd_5 : decode cX1_readEnd 5 = .ok (.getfield 42, 3) := by decide +kernel
theorem dX1_readEnd_8 : decode cX1_readEnd 8 = .ok (.aload_n 0, 1) := by decide +kernel
theorem dX1_readEnd_9 : decode cX1_readEnd 9 = .ok (.getfield 26, 3) := by decide +kernel
theorem dX1_readEnd_12 : decode cX1_readEnd 12 = .ok (.if_icmp .ge 29, 3) := by decide +kernel
theorem dX1_readEnd_15 : decode cX1_readEnd 15 = .ok (.aload_n 0, 1) := by decide +kernel
theorem dX1_readEnd_16 : decode cX1_readEnd 16 = .ok (.aload_n 0, 1) := by decide +kernel
theorem dX1_readEnd_17 : decode cX1_readEnd 17 = .ok (.getfield 42, 3) := by decide +kernel
theorem dX1_readEnd_20 : decode cX1_readEnd 20 = .ok (.invokevirtual 96, 3) := by decide +kernel
theorem dX1_readEnd_23 : decode cX1_readEnd 23 = .ok (.bipush 59, 2) := by decide +kernel
theorem dX1_readEnd_25 : decode cX1_readEnd 25 = .ok (.if_icmp .ne 16, 3) := by decide +kernel
theorem dX1_readEnd_28 : decode cX1_readEnd 28 = .ok (.aload_n 0, 1) := by decide +kernel
theorem dX1_readEnd_29 : decode cX1_readEnd 29 = .ok (.dup, 1) := by decide +kernel
theorem dX1_readEnd_30 : decode cX1_readEnd 30 = .ok (.getfield 42, 3) := by decide +kernel
theorem dX1_readEnd_33 : decode cX1_readEnd 33 = .ok (.iconst 1, 1) := by decide +kernel
theorem dX1_readEnd_34 : decode cX1_readEnd 34 = .ok (.iadd, 1) := by decide +kernel
theorem dX1_readEnd_35 : decode cX1_readEnd 35 = .ok (.putfield 42, 3) := by decide +kernel
theorem dX1_readEnd_38 : decode cX1_readEnd 38 = .ok (.goto 12, 3) := by decide +kernel
theorem dX1_readEnd_41 : decode cX1_readEnd 41 = .ok (.aload_n 0, 1) := by decide +kernel
theorem dX1_readEnd_42 : decode cX1_readEnd 42 = .ok (.iconst 1, 1) := by decide +kernel
theorem dX1_readEnd_43 : decode cX1_readEnd 43 = .ok (.aload_n 0, 1) := by decide +kernel
theorem dX1_readEnd_44 : decode cX1_readEnd 44 = .ok (.getfield 42, 3) := by decide +kernel
theorem dX1_readEnd_47 : decode cX1_readEnd 47 = .ok (.invokevirtual 78, 3) := by decide +kernel
theorem dX1_readEnd_50 : decode cX1_readEnd 50 = .ok (.return_, 1) := by decide +kernel
theorem dX1_fail_0 : decode cX1_fail 0 = .ok (.aload_n 0, 1) := by decide +kernel
theorem dX1_fail_1 : decode cX1_fail 1 = .ok (.getfield 45, 3) := by decide +kernel
theorem dX1_fail_4 : decode cX1_fail 4 = .ok (.ifCond .ne 13, 3) := by decide +kernel
theorem dX1_fail_7 : decode cX1_fail 7 = .ok (.aload_n 0, 1) := by decide +kernel
theorem dX1_fail_8 : decode cX1_fail 8 = .ok (.iload_n 1, 1) := by decide +kernel
theorem dX1_fail_9 : decode cX1_fail 9 = .ok (.putfield 45, 3) := by decide +kernel
theorem dX1_fail_12 : decode cX1_fail 12 = .ok (.aload_n 0, 1) := by decide +kernel
theorem dX1_fail_13 : decode cX1_fail 13 = .ok (.iload_n 2, 1) := by decide +kernel
theorem dX1_fail_14 : decode cX1_fail 14 = .ok (.putfield 22, 3) := by decide +kernel
theorem dX1_fail_17 : decode cX1_fail 17 = .ok (.return_, 1) := by decide +kernel
theorem dX1_skipBlanks_0 : decode cX1_skipBlanks 0 = .ok (.aload_n 0, 1) := by decide +kernel
theorem dX1_skipBlanks_1 : decode cX1_skipBlanks 1 = .ok (.getfield 42, 3) := by decide +kernel
theorem dX1_skipBlanks_4 : decode cX1_skipBlanks 4 = .ok (.aload_n 0, 1) := by decide +kernel
theorem dX1_skipBlanks_5 : decode cX1_skipBlanks 5 = .ok (.getfield 26, 3) := by decide +kernel
theorem dX1_skipBlanks_8 : decode cX1_skipBlanks 8 = .ok (.if_icmp .ge 29, 3) := by decide +kernel
theorem dX1_skipBlanks_11 : decode cX1_skipBlanks 11 = .ok (.aload_n 0, 1) := by decide +kernel
theorem dX1_skipBlanks_12 : decode cX1_skipBlanks 12 = .ok (.aload_n 0, 1) := by decide +kernel
theorem dX1_skipBlanks_13 : decode cX1_skipBlanks 13 = .ok (.getfield 42, 3) := by decide +kernel
theorem dX1_skipBlanks_16 : decode cX1_skipBlanks 16 = .ok (.invokevirtual 96, 3) := by decide +kernel
theorem dX1_skipBlanks_19 : decode cX1_skipBlanks 19 = .ok (.bipush 32, 2) := by decide +kernel
theorem dX1_skipBlanks_21 : decode cX1_skipBlanks 21 = .ok (.if_icmp .ne 16, 3) := by decide +kernel
theorem dX1_skipBlanks_24 : decode cX1_skipBlanks 24 = .ok (.aload_n 0, 1) := by decide +kernel
theorem dX1_skipBlanks_25 : decode cX1_skipBlanks 25 = .ok (.dup, 1) := by decide +kernel
theorem dX1_skipBlanks_26 : decode cX1_skipBlanks 26 = .ok (.getfield 42, 3) := by decide +kernel
theorem dX1_skipBlanks_29 : decode cX1_skipBlanks 29 = .ok (.iconst 1, 1) := by decide +kernel
theorem dX1_skipBlanks_30 : decode cX1_skipBlanks 30 = .ok (.iadd, 1) := by decide +kernel
theorem dX1_skipBlanks_31 : decode cX1_skipBlanks 31 = .ok (.putfield 42, 3) := by decide +kernel
theorem dX1_skipBlanks_34 : decode cX1_skipBlanks 34 = .ok (.goto (-34), 3) := by decide +kernel
theorem dX1_skipBlanks_37 : decode cX1_skipBlanks 37 = .ok (.return_, 1) := by decide +kernel
theorem dX1_isWord_0 : decode cX1_isWord 0 = .ok (.aload_n 0, 1) := by decide +kernel
theorem dX1_isWord_1 : decode cX1_isWord 1 = .ok (.getfield 42, 3) := by decide +kernel
theorem dX1_isWord_4 : decode cX1_isWord 4 = .ok (.iload_n 1, 1) := by decide +kernel
theorem dX1_isWord_5 : decode cX1_isWord 5 = .ok (.isub, 1) := by decide +kernel
theorem dX1_isWord_6 : decode cX1_isWord 6 = .ok (.aload_n 2, 1) := by decide +kernel
theorem dX1_isWord_7 : decode cX1_isWord 7 = .ok (.invokevirtual 100, 3) := by decide +kernel
theorem dX1_isWord_10 : decode cX1_isWord 10 = .ok (.if_icmp .eq 5, 3) := by decide +kernel
theorem dX1_isWord_13 : decode cX1_isWord 13 = .ok (.iconst 0, 1) := by decide +kernel
theorem dX1_isWord_14 : decode cX1_isWord 14 = .ok (.ireturn, 1) := by decide +kernel
theorem dX1_isWord_15 : decode cX1_isWord 15 = .ok (.iconst 0, 1) := by decide +kernel
theorem dX1_isWord_16 : decode cX1_isWord 16 = .ok (.istore_n 3, 1) := by decide +kernel
theorem dX1_isWord_17 : decode cX1_isWord 17 = .ok (.iload_n 3, 1) := by decide +kernel
theorem dX1_isWord_18 : decode cX1_isWord 18 = .ok (.aload_n 2, 1) := by decide +kernel
theorem dX1_isWord_19 : decode cX1_isWord 19 = .ok (.invokevirtual 100, 3) := by decide +kernel
theorem dX1_isWord_22 : decode cX1_isWord 22 = .ok (.if_icmp .ge 26, 3) := by decide +kernel
theorem dX1_isWord_25 : decode cX1_isWord 25 = .ok (.aload_n 0, 1) := by decide +kernel
theorem dX1_isWord_26 : decode cX1_isWord 26 = .ok (.iload_n 1, 1) := by decide +kernel
theorem dX1_isWord_27 : decode cX1_isWord 27 = .ok (.iload_n 3, 1) := by decide +kernel
theorem dX1_isWord_28 : decode cX1_isWord 28 = .ok (.iadd, 1) := by decide +kernel
theorem dX1_isWord_29 : decode cX1_isWord 29 = .ok (.invokevirtual 96, 3) := by decide +kernel
theorem dX1_isWord_32 : decode cX1_isWord 32 = .ok (.aload_n 2, 1) := by decide +kernel
theorem dX1_isWord_33 : decode cX1_isWord 33 = .ok (.iload_n 3, 1) := by decide +kernel
theorem dX1_isWord_34 : decode cX1_isWord 34 = .ok (.invokevirtual 105, 3) := by decide +kernel
theorem dX1_isWord_37 : decode cX1_isWord 37 = .ok (.if_icmp .eq 5, 3) := by decide +kernel
theorem dX1_isWord_40 : decode cX1_isWord 40 = .ok (.iconst 0, 1) := by decide +kernel
theorem dX1_isWord_41 : decode cX1_isWord 41 = .ok (.ireturn, 1) := by decide +kernel
theorem dX1_isWord_42 : decode cX1_isWord 42 = .ok (.iinc 3 1, 3) := by decide +kernel
theorem dX1_isWord_45 : decode cX1_isWord 45 = .ok (.goto (-28), 3) := by decide +kernel
theorem dX1_isWord_48 : decode cX1_isWord 48 = .ok (.iconst 1, 1) := by decide +kernel
theorem dX1_isWord_49 : decode cX1_isWord 49 = .ok (.ireturn, 1) := by decide +kernel
theorem dX1_isBetween_0 : decode cX1_isBetween 0 = .ok (.aload_n 0, 1) := by decide +kernel
theorem dX1_isBetween_1 : decode cX1_isBetween 1 = .ok (.aload_n 0, 1) := by decide +kernel
theorem dX1_isBetween_2 : decode cX1_isBetween 2 = .ok (.getfield 42, 3) := by decide +kernel
theorem dX1_isBetween_5 : decode cX1_isBetween 5 = .ok (.invokevirtual 96, 3) := by decide +kernel
theorem dX1_isBetween_8 : decode cX1_isBetween 8 = .ok (.iload_n 1, 1) := by decide +kernel
theorem dX1_isBetween_9 : decode cX1_isBetween 9 = .ok (.if_icmp .lt 19, 3) := by decide +kernel
theorem dX1_isBetween_12 : decode cX1_isBetween 12 = .ok (.aload_n 0, 1) := by decide +kernel
theorem dX1_isBetween_13 : decode cX1_isBetween 13 = .ok (.aload_n 0, 1) := by decide +kernel
theorem dX1_isBetween_14 : decode cX1_isBetween 14 = .ok (.getfield 42, 3) := by decide +kernel
theorem dX1_isBetween_17 : decode cX1_isBetween 17 = .ok (.invokevirtual 96, 3) := by decide +kernel
theorem dX1_isBetween_20 : decode cX1_isBetween 20 = .ok (.iload_n 2, 1) := by decide +kernel
theorem dX1_isBetween_21 : decode cX1_isBetween 21 = .ok (.if_icmp .gt 7, 3) := by decide +kernel
theorem dX1_isBetween_24 : decode cX1_isBetween 24 = .ok (.iconst 1, 1) := by decide +kernel
theorem dX1_isBetween_25 : decode cX1_isBetween 25 = .ok (.goto 4, 3) := by decide +kernel
theorem dX1_isBetween_28 : decode cX1_isBetween 28 = .ok (.iconst 0, 1) := by decide +kernel
theorem dX1_isBetween_29 : decode cX1_isBetween 29 = .ok (.ireturn, 1) := by decide +kernel
theorem dX1_byteAt_0 : decode cX1_byteAt 0 = .ok (.iload_n 1, 1) := by decide +kernel
theorem dX1_byteAt_1 : decode cX1_byteAt 1 = .ok (.ifCond .lt 21, 3) := by decide +kernel
theorem dX1_byteAt_4 : decode cX1_byteAt 4 = .ok (.iload_n 1, 1) := by decide +kernel
theorem dX1_byteAt_5 : decode cX1_byteAt 5 = .ok (.aload_n 0, 1) := by decide +kernel
theorem dX1_byteAt_6 : decode cX1_byteAt 6 = .ok (.getfield 9, 3) := by decide +kernel
theorem dX1_byteAt_9 : decode cX1_byteAt 9 = .ok (.arraylength, 1) := by decide +kernel
theorem dX1_byteAt_10 : decode cX1_byteAt 10 = .ok (.if_icmp .ge 12, 3) := by decide +kernel
theorem dX1_byteAt_13 : decode cX1_byteAt 13 = .ok (.aload_n 0, 1) := by decide +kernel
theorem dX1_byteAt_14 : decode cX1_byteAt 14 = .ok (.getfield 9, 3) := by decide +kernel
theorem dX1_byteAt_17 : decode cX1_byteAt 17 = .ok (.iload_n 1, 1) := by decide +kernel
theorem dX1_byteAt_18 : decode cX1_byteAt 18 = .ok (.baload, 1) := by decide +kernel
theorem dX1_byteAt_19 : decode cX1_byteAt 19 = .ok (.goto 4, 3) := by decide +kernel
theorem dX1_byteAt_22 : decode cX1_byteAt 22 = .ok (.iconst 0, 1) := by decide +kernel
theorem dX1_byteAt_23 : decode cX1_byteAt 23 = .ok (.ireturn, 1) := by decide +kernel
theorem dX2_init_0 : decode cX2_init 0 = .ok (.aload_n 0, 1) := by decide +kernel
theorem dX2_init_1 : decode cX2_init 1 = .ok (.invokespecial 3, 3) := by decide +kernel
theorem dX2_init_4 : decode cX2_init 4 = .ok (.aload_n 0, 1) := by decide +kernel
theorem dX2_init_5 : decode cX2_init 5 = .ok (.bipush 7, 2) := by decide +kernel
theorem dX2_init_7 : decode cX2_init 7 = .ok (.newarray .int, 2) := by decide +kernel
theorem dX2_init_9 : decode cX2_init 9 = .ok (.putfield 9, 3) := by decide +kernel
theorem dX2_init_12 : decode cX2_init 12 = .ok (.aload_n 0, 1) := by decide +kernel
theorem dX2_init_13 : decode cX2_init 13 = .ok (.bipush 7, 2) := by decide +kernel
theorem dX2_init_15 : decode cX2_init 15 = .ok (.newarray .int, 2) := by decide +kernel
theorem dX2_init_17 : decode cX2_init 17 = .ok (.putfield 15, 3) := by decide +kernel
theorem dX2_init_20 : decode cX2_init 20 = .ok (.aload_n 0, 1) := by decide +kernel
theorem dX2_init_21 : decode cX2_init 21 = .ok (.bipush 7, 2) := by decide +kernel
theorem dX2_init_23 : decode cX2_init 23 = .ok (.newarray .int, 2) := by decide +kernel
theorem dX2_init_25 : decode cX2_init 25 = .ok (.putfield 18, 3) := by decide +kernel
theorem dX2_init_28 : decode cX2_init 28 = .ok (.return_, 1) := by decide +kernel
theorem dX2_lay_0 : decode cX2_lay 0 = .ok (.aload_n 0, 1) := by decide +kernel
theorem dX2_lay_1 : decode cX2_lay 1 = .ok (.aload_n 1, 1) := by decide +kernel
theorem dX2_lay_2 : decode cX2_lay 2 = .ok (.aload_n 2, 1) := by decide +kernel
theorem dX2_lay_3 : decode cX2_lay 3 = .ok (.invokevirtual 21, 3) := by decide +kernel
theorem dX2_lay_6 : decode cX2_lay 6 = .ok (.aload_n 0, 1) := by decide +kernel
theorem dX2_lay_7 : decode cX2_lay 7 = .ok (.aload_n 1, 1) := by decide +kernel
theorem dX2_lay_8 : decode cX2_lay 8 = .ok (.getfield 25, 3) := by decide +kernel
theorem dX2_lay_11 : decode cX2_lay 11 = .ok (.aload_n 1, 1) := by decide +kernel
theorem dX2_lay_12 : decode cX2_lay 12 = .ok (.getfield 31, 3) := by decide +kernel
theorem dX2_lay_15 : decode cX2_lay 15 = .ok (.invokevirtual 34, 3) := by decide +kernel
theorem dX2_lay_18 : decode cX2_lay 18 = .ok (.aload_n 0, 1) := by decide +kernel
theorem dX2_lay_19 : decode cX2_lay 19 = .ok (.aload_n 1, 1) := by decide +kernel
theorem dX2_lay_20 : decode cX2_lay 20 = .ok (.invokevirtual 38, 3) := by decide +kernel
theorem dX2_lay_23 : decode cX2_lay 23 = .ok (.return_, 1) := by decide +kernel
theorem dX2_weigh_0 : decode cX2_weigh 0 = .ok (.iconst 0, 1) := by decide +kernel
theorem dX2_weigh_1 : decode cX2_weigh 1 = .ok (.istore_n 3, 1) := by decide +kernel
theorem dX2_weigh_2 : decode cX2_weigh 2 = .ok (.iload_n 3, 1) := by decide +kernel
theorem dX2_weigh_3 : decode cX2_weigh 3 = .ok (.aload_n 1, 1) := by decide +kernel
theorem dX2_weigh_4 : decode cX2_weigh 4 = .ok (.getfield 25, 3) := by decide +kernel
theorem dX2_weigh_7 : decode cX2_weigh 7 = .ok (.if_icmp .ge 31, 3) := by decide +kernel
theorem dX2_weigh_10 : decode cX2_weigh 10 = .ok (.aload_n 0, 1) := by decide +kernel
theorem dX2_weigh_11 : decode cX2_weigh 11 = .ok (.getfield 9, 3) := by decide +kernel
theorem dX2_weigh_14 : decode cX2_weigh 14 = .ok (.iload_n 3, 1) := by decide +kernel
theorem dX2_weigh_15 : decode cX2_weigh 15 = .ok (.aload_n 1, 1) := by decide +kernel
theorem dX2_weigh_16 : decode cX2_weigh 16 = .ok (.getfield 42, 3) := by decide +kernel
theorem dX2_weigh_19 : decode cX2_weigh 19 = .ok (.iload_n 3, 1) := by decide +kernel
theorem dX2_weigh_20 : decode cX2_weigh 20 = .ok (.invokestatic 45, 3) := by decide +kernel
theorem dX2_weigh_23 : decode cX2_weigh 23 = .ok (.aload_n 2, 1) := by decide +kernel
theorem dX2_weigh_24 : decode cX2_weigh 24 = .ok (.iload_n 3, 1) := by decide +kernel
theorem dX2_weigh_25 : decode cX2_weigh 25 = .ok (.invokestatic 45, 3) := by decide +kernel
theorem dX2_weigh_28 : decode cX2_weigh 28 = .ok (.iadd, 1) := by decide +kernel
theorem dX2_weigh_29 : decode cX2_weigh 29 = .ok (.invokestatic 49, 3) := by decide +kernel
theorem dX2_weigh_32 : decode cX2_weigh 32 = .ok (.iinc 3 1, 3) := by decide +kernel
theorem dX2_weigh_35 : decode cX2_weigh 35 = .ok (.goto (-33), 3) := by decide +kernel
theorem dX2_weigh_38 : decode cX2_weigh 38 = .ok (.return_, 1) := by decide +kernel
theorem dX2_sort_0 : decode cX2_sort 0 = .ok (.iconst 0, 1) := by decide +kernel
theorem dX2_sort_1 : decode cX2_sort 1 = .ok (.istore_n 3, 1) := by decide +kernel
theorem dX2_sort_2 : decode cX2_sort 2 = .ok (.iconst 0, 1) := by decide +kernel
theorem dX2_sort_3 : decode cX2_sort 3 = .ok (.istore 4, 2) := by decide +kernel
theorem dX2_sort_5 : decode cX2_sort 5 = .ok (.iload 4, 2) := by decide +kernel
theorem dX2_sort_7 : decode cX2_sort 7 = .ok (.iload_n 1, 1) := by decide +kernel
theorem dX2_sort_8 : decode cX2_sort 8 = .ok (.if_icmp .ge 127, 3) := by decide +kernel
theorem dX2_sort_11 : decode cX2_sort 11 = .ok (.iload_n 2, 1) := by decide +kernel
theorem dX2_sort_12 : decode cX2_sort 12 = .ok (.ifCond .eq 15, 3) := by decide +kernel
theorem dX2_sort_15 : decode cX2_sort 15 = .ok (.iload_n 2, 1) := by decide +kernel
theorem dX2_sort_16 : decode cX2_sort 16 = .ok (.iconst 2, 1) := by decide +kernel
theorem dX2_sort_17 : decode cX2_sort 17 = .ok (.if_icmp .ne 14, 3) := by decide +kernel
theorem dX2_sort_20 : decode cX2_sort 20 = .ok (.iload 4, 2) := by decide +kernel
theorem dX2_sort_22 : decode cX2_sort 22 = .ok (.iconst 2, 1) := by decide +kernel
theorem dX2_sort_23 : decode cX2_sort 23 = .ok (.irem, 1) := by decide +kernel
theorem dX2_sort_24 : decode cX2_sort 24 = .ok (.ifCond .ne 7, 3) := by decide +kernel
theorem dX2_sort_27 : decode cX2_sort 27 = .ok (.iconst 1, 1) := by decide +kernel
theorem dX2_sort_28 : decode cX2_sort 28 = .ok (.goto 4, 3) := by decide +kernel
theorem dX2_sort_31 : decode cX2_sort 31 = .ok (.iconst 0, 1) := by decide +kernel
theorem dX2_sort_32 : decode cX2_sort 32 = .ok (.istore 5, 2) := by decide +kernel
theorem dX2_sort_34 : decode cX2_sort 34 = .ok (.iconst (-1), 1) := by decide +kernel
theorem dX2_sort_35 : decode cX2_sort 35 = .ok (.istore 6, 2) := by decide +kernel
theorem dX2_sort_37 : decode cX2_sort 37 = .ok (.iconst 0, 1) := by decide +kernel
theorem dX2_sort_38 : decode cX2_sort 38 = .ok (.istore 7, 2) := by decide +kernel
theorem dX2_sort_40 : decode cX2_sort 40 = .ok (.iconst 0, 1) := by decide +kernel
theorem dX2_sort_41 : decode cX2_sort 41 = .ok (.istore 8, 2) := by decide +kernel
theorem dX2_sort_43 : decode cX2_sort 43 = .ok (.iload 8, 2) := by decide +kernel
theorem dX2_sort_45 : decode cX2_sort 45 = .ok (.iload_n 1, 1) := by decide +kernel
theorem dX2_sort_46 : decode cX2_sort 46 = .ok (.if_icmp .ge 65, 3) := by decide +kernel
theorem dX2_sort_49 : decode cX2_sort 49 = .ok (.iload_n 3, 1) := by decide +kernel
theorem dX2_sort_50 : decode cX2_sort 50 = .ok (.iload 8, 2) := by decide +kernel
theorem dX2_sort_52 : decode cX2_sort 52 = .ok (.invokestatic 53, 3) := by decide +kernel
theorem dX2_sort_55 : decode cX2_sort 55 = .ok (.ifCond .ne 50, 3) := by decide +kernel
theorem dX2_sort_58 : decode cX2_sort 58 = .ok (.aload_n 0, 1) := by decide +kernel
theorem dX2_sort_59 : decode cX2_sort 59 = .ok (.getfield 9, 3) := by decide +kernel
theorem dX2_sort_62 : decode cX2_sort 62 = .ok (.iload 8, 2) := by decide +kernel
theorem dX2_sort_64 : decode cX2_sort 64 = .ok (.invokestatic 45, 3) := by decide +kernel
theorem dX2_sort_67 : decode cX2_sort 67 = .ok (.istore 9, 2) := by decide +kernel
theorem dX2_sort_69 : decode cX2_sort 69 = .ok (.iload 6, 2) := by decide +kernel
theorem dX2_sort_71 : decode cX2_sort 71 = .ok (.iconst (-1), 1) := by decide +kernel
theorem dX2_sort_72 : decode cX2_sort 72 = .ok (.if_icmp .eq 25, 3) := by decide +kernel
theorem dX2_sort_75 : decode cX2_sort 75 = .ok (.iload 5, 2) := by decide +kernel
theorem dX2_sort_77 : decode cX2_sort 77 = .ok (.ifCond .eq 13, 3) := by decide +kernel
theorem dX2_sort_80 : decode cX2_sort 80 = .ok (.iload 9, 2) := by decide +kernel
theorem dX2_sort_82 : decode cX2_sort 82 = .ok (.iload 7, 2) := by decide +kernel
theorem dX2_sort_84 : decode cX2_sort 84 = .ok (.if_icmp .le 21, 3) := by decide +kernel
theorem dX2_sort_87 : decode cX2_sort 87 = .ok (.goto 10, 3) := by decide +kernel
theorem dX2_sort_90 : decode cX2_sort 90 = .ok (.iload 9, 2) := by decide +kernel
theorem dX2_sort_92 : decode cX2_sort 92 = .ok (.iload 7, 2) := by decide +kernel
theorem dX2_sort_94 : decode cX2_sort 94 = .ok (.if_icmp .ge 11, 3) := by decide +kernel
theorem dX2_sort_97 : decode cX2_sort 97 = .ok (.iload 8, 2) := by decide +kernel
theorem dX2_sort_99 : decode cX2_sort 99 = .ok (.istore 6, 2) := by decide +kernel
theorem dX2_sort_101 : decode cX2_sort 101 = .ok (.iload 9, 2) := by decide +kernel
theorem dX2_sort_103 : decode cX2_sort 103 = .ok (.istore 7, 2) := by decide +kernel
theorem dX2_sort_105 : decode cX2_sort 105 = .ok (.iinc 8 1, 3) := by decide +kernel
theorem dX2_sort_108 : decode cX2_sort 108 = .ok (.goto (-65), 3) := by decide +kernel
theorem dX2_sort_111 : decode cX2_sort 111 = .ok (.aload_n 0, 1) := by decide +kernel
theorem dX2_sort_112 : decode cX2_sort 112 = .ok (.getfield 15, 3) := by decide +kernel
theorem dX2_sort_115 : decode cX2_sort 115 = .ok (.iload 4, 2) := by decide +kernel
theorem dX2_sort_117 : decode cX2_sort 117 = .ok (.iload 6, 2) := by decide +kernel
theorem dX2_sort_119 : decode cX2_sort 119 = .ok (.invokestatic 49, 3) := by decide +kernel
theorem dX2_sort_122 : decode cX2_sort 122 = .ok (.iload_n 3, 1) := by decide +kernel
theorem dX2_sort_123 : decode cX2_sort 123 = .ok (.iconst 1, 1) := by decide +kernel
theorem dX2_sort_124 : decode cX2_sort 124 = .ok (.iload 6, 2) := by decide +kernel
theorem dX2_sort_126 : decode cX2_sort 126 = .ok (.ishl, 1) := by decide +kernel
theorem dX2_sort_127 : decode cX2_sort 127 = .ok (.ior, 1) := by decide +kernel
theorem dX2_sort_128 : decode cX2_sort 128 = .ok (.istore_n 3, 1) := by decide +kernel
theorem dX2_sort_129 : decode cX2_sort 129 = .ok (.iinc 4 1, 3) := by decide +kernel
theorem dX2_sort_132 : decode cX2_sort 132 = .ok (.goto (-127), 3) := by decide +kernel
theorem dX2_sort_135 : decode cX2_sort 135 = .ok (.return_, 1) := by decide +kernel
theorem dX2_walk_0 : decode cX2_walk 0 = .ok (.aload_n 0, 1) := by decide +kernel
theorem dX2_walk_1 : decode cX2_walk 1 = .ok (.iconst 0, 1) := by decide +kernel
theorem dX2_walk_2 : decode cX2_walk 2 = .ok (.putfield 57, 3) := by decide +kernel
theorem dX2_walk_5 : decode cX2_walk 5 = .ok (.iconst 0, 1) := by decide +kernel
theorem dX2_walk_6 : decode cX2_walk 6 = .ok (.istore_n 2, 1) := by decide +kernel
theorem dX2_walk_7 : decode cX2_walk 7 = .ok (.iconst 0, 1) := by decide +kernel
theorem dX2_walk_8 : decode cX2_walk 8 = .ok (.istore_n 3, 1) := by decide +kernel
theorem dX2_walk_9 : decode cX2_walk 9 = .ok (.iload_n 3, 1) := by decide +kernel
theorem dX2_walk_10 : decode cX2_walk 10 = .ok (.aload_n 1, 1) := by decide +kernel
theorem dX2_walk_11 : decode cX2_walk 11 = .ok (.getfield 25, 3) := by decide +kernel
theorem dX2_walk_14 : decode cX2_walk 14 = .ok (.if_icmp .ge 62, 3) := by decide +kernel
theorem dX2_walk_17 : decode cX2_walk 17 = .ok (.aload_n 0, 1) := by decide +kernel
theorem dX2_walk_18 : decode cX2_walk 18 = .ok (.getfield 15, 3) := by decide +kernel
theorem dX2_walk_21 : decode cX2_walk 21 = .ok (.iload_n 3, 1) := by decide +kernel
theorem dX2_walk_22 : decode cX2_walk 22 = .ok (.invokestatic 45, 3) := by decide +kernel
theorem dX2_walk_25 : decode cX2_walk 25 = .ok (.istore 4, 2) := by decide +kernel
theorem dX2_walk_27 : decode cX2_walk 27 = .ok (.aload_n 1, 1) := by decide +kernel
theorem dX2_walk_28 : decode cX2_walk 28 = .ok (.getfield 60, 3) := by decide +kernel
theorem dX2_walk_31 : decode cX2_walk 31 = .ok (.iload 4, 2) := by decide +kernel
theorem dX2_walk_33 : decode cX2_walk 33 = .ok (.invokestatic 45, 3) := by decide +kernel
theorem dX2_walk_36 : decode cX2_walk 36 = .ok (.istore 5, 2) := by decide +kernel
theorem dX2_walk_38 : decode cX2_walk 38 = .ok (.aload_n 0, 1) := by decide +kernel
theorem dX2_walk_39 : decode cX2_walk 39 = .ok (.dup, 1) := by decide +kernel
theorem dX2_walk_40 : decode cX2_walk 40 = .ok (.getfield 57, 3) := by decide +kernel
theorem dX2_walk_43 : decode cX2_walk 43 = .ok (.aload_n 1, 1) := by decide +kernel
theorem dX2_walk_44 : decode cX2_walk 44 = .ok (.iload_n 2, 1) := by decide +kernel
theorem dX2_walk_45 : decode cX2_walk 45 = .ok (.iload 5, 2) := by decide +kernel
theorem dX2_walk_47 : decode cX2_walk 47 = .ok (.invokevirtual 63, 3) := by decide +kernel
theorem dX2_walk_50 : decode cX2_walk 50 = .ok (.iadd, 1) := by decide +kernel
theorem dX2_walk_51 : decode cX2_walk 51 = .ok (.putfield 57, 3) := by decide +kernel
theorem dX2_walk_54 : decode cX2_walk 54 = .ok (.aload_n 0, 1) := by decide +kernel
theorem dX2_walk_55 : decode cX2_walk 55 = .ok (.getfield 18, 3) := by decide +kernel
theorem dX2_walk_58 : decode cX2_walk 58 = .ok (.iload 4, 2) := by decide +kernel
theorem dX2_walk_60 : decode cX2_walk 60 = .ok (.aload_n 0, 1) := by decide +kernel
theorem dX2_walk_61 : decode cX2_walk 61 = .ok (.getfield 57, 3) := by decide +kernel
theorem dX2_walk_64 : decode cX2_walk 64 = .ok (.invokestatic 49, 3) := by decide +kernel
theorem dX2_walk_67 : decode cX2_walk 67 = .ok (.iload 5, 2) := by decide +kernel
theorem dX2_walk_69 : decode cX2_walk 69 = .ok (.istore_n 2, 1) := by decide +kernel
theorem dX2_walk_70 : decode cX2_walk 70 = .ok (.iinc 3 1, 3) := by decide +kernel
theorem dX2_walk_73 : decode cX2_walk 73 = .ok (.goto (-64), 3) := by decide +kernel
theorem dX2_walk_76 : decode cX2_walk 76 = .ok (.return_, 1) := by decide +kernel
theorem dX2_rankOf_0 : decode cX2_rankOf 0 = .ok (.iconst 0, 1) := by decide +kernel
theorem dX2_rankOf_1 : decode cX2_rankOf 1 = .ok (.istore_n 3, 1) := by decide +kernel
theorem dX2_rankOf_2 : decode cX2_rankOf 2 = .ok (.iload_n 3, 1) := by decide +kernel
theorem dX2_rankOf_3 : decode cX2_rankOf 3 = .ok (.iload_n 2, 1) := by decide +kernel
theorem dX2_rankOf_4 : decode cX2_rankOf 4 = .ok (.if_icmp .ge 23, 3) := by decide +kernel
theorem dX2_rankOf_7 : decode cX2_rankOf 7 = .ok (.aload_n 0, 1) := by decide +kernel
theorem dX2_rankOf_8 : decode cX2_rankOf 8 = .ok (.getfield 15, 3) := by decide +kernel
theorem dX2_rankOf_11 : decode cX2_rankOf 11 = .ok (.iload_n 3, 1) := by decide +kernel
theorem dX2_rankOf_12 : decode cX2_rankOf 12 = .ok (.invokestatic 45, 3) := by decide +kernel
theorem dX2_rankOf_15 : decode cX2_rankOf 15 = .ok (.iload_n 1, 1) := by decide +kernel
theorem dX2_rankOf_16 : decode cX2_rankOf 16 = .ok (.if_icmp .ne 5, 3) := by decide +kernel
theorem dX2_rankOf_19 : decode cX2_rankOf 19 = .ok (.iload_n 3, 1) := by decide +kernel
theorem dX2_rankOf_20 : decode cX2_rankOf 20 = .ok (.ireturn, 1) := by decide +kernel
theorem dX2_rankOf_21 : decode cX2_rankOf 21 = .ok (.iinc 3 1, 3) := by decide +kernel
theorem dX2_rankOf_24 : decode cX2_rankOf 24 = .ok (.goto (-22), 3) := by decide +kernel
theorem dX2_rankOf_27 : decode cX2_rankOf 27 = .ok (.iconst (-1), 1) := by decide +kernel
theorem dX2_rankOf_28 : decode cX2_rankOf 28 = .ok (.ireturn, 1) := by decide +kernel
theorem dX2_isInTime_0 : decode cX2_isInTime 0 = .ok (.aload_n 0, 1) := by decide +kernel
theorem dX2_isInTime_1 : decode cX2_isInTime 1 = .ok (.getfield 18, 3) := by decide +kernel
theorem dX2_isInTime_4 : decode cX2_isInTime 4 = .ok (.iload_n 2, 1) := by decide +kernel
theorem dX2_isInTime_5 : decode cX2_isInTime 5 = .ok (.invokestatic 45, 3) := by decide +kernel
theorem dX2_isInTime_8 : decode cX2_isInTime 8 = .ok (.aload_n 1, 1) := by decide +kernel
theorem dX2_isInTime_9 : decode cX2_isInTime 9 = .ok (.getfield 67, 3) := by decide +kernel
theorem dX2_isInTime_12 : decode cX2_isInTime 12 = .ok (.iload_n 2, 1) := by decide +kernel
theorem dX2_isInTime_13 : decode cX2_isInTime 13 = .ok (.invokestatic 45, 3) := by decide +kernel
theorem dX2_isInTime_16 : decode cX2_isInTime 16 = .ok (.if_icmp .gt 7, 3) := by decide +kernel
theorem dX2_isInTime_19 : decode cX2_isInTime 19 = .ok (.iconst 1, 1) := by decide +kernel
theorem dX2_isInTime_20 : decode cX2_isInTime 20 = .ok (.goto 4, 3) := by decide +kernel
theorem dX2_isInTime_23 : decode cX2_isInTime 23 = .ok (.iconst 0, 1) := by decide +kernel
theorem dX2_isInTime_24 : decode cX2_isInTime 24 = .ok (.ireturn, 1) := by decide +kernel
theorem dX2_lettersInTime_0 : decode cX2_lettersInTime 0 = .ok (.iconst 0, 1) := by decide +kernel
theorem dX2_lettersInTime_1 : decode cX2_lettersInTime 1 = .ok (.istore_n 2, 1) := by decide +kernel
theorem dX2_lettersInTime_2 : decode cX2_lettersInTime 2 = .ok (.iconst 0, 1) := by decide +kernel
theorem dX2_lettersInTime_3 : decode cX2_lettersInTime 3 = .ok (.istore_n 3, 1) := by decide +kernel
theorem dX2_lettersInTime_4 : decode cX2_lettersInTime 4 = .ok (.iload_n 3, 1) := by decide +kernel
theorem dX2_lettersInTime_5 : decode cX2_lettersInTime 5 = .ok (.aload_n 1, 1) := by decide +kernel
theorem dX2_lettersInTime_6 : decode cX2_lettersInTime 6 = .ok (.getfield 25, 3) := by decide +kernel
theorem dX2_lettersInTime_9 : decode cX2_lettersInTime 9 = .ok (.if_icmp .ge 24, 3) := by decide +kernel
theorem dX2_lettersInTime_12 : decode cX2_lettersInTime 12 = .ok (.aload_n 0, 1) := by decide +kernel
theorem dX2_lettersInTime_13 : decode cX2_lettersInTime 13 = .ok (.aload_n 1, 1) := by decide +kernel
theorem dX2_lettersInTime_14 : decode cX2_lettersInTime 14 = .ok (.iload_n 3, 1) := by decide +kernel
theorem dX2_lettersInTime_15 : decode cX2_lettersInTime 15 = .ok (.invokevirtual 70, 3) := by decide +kernel
theorem dX2_lettersInTime_18 : decode cX2_lettersInTime 18 = .ok (.ifCond .eq 9, 3) := by decide +kernel
theorem dX2_lettersInTime_21 : decode cX2_lettersInTime 21 = .ok (.iload_n 2, 1) := by decide +kernel
theorem dX2_lettersInTime_22 : decode cX2_lettersInTime 22 = .ok (.iconst 1, 1) := by decide +kernel
theorem dX2_lettersInTime_23 : decode cX2_lettersInTime 23 = .ok (.iload_n 3, 1) := by decide +kernel
theorem dX2_lettersInTime_24 : decode cX2_lettersInTime 24 = .ok (.ishl, 1) := by decide +kernel
theorem dX2_lettersInTime_25 : decode cX2_lettersInTime 25 = .ok (.ior, 1) := by decide +kernel
theorem dX2_lettersInTime_26 : decode cX2_lettersInTime 26 = .ok (.istore_n 2, 1) := by decide +kernel
theorem dX2_lettersInTime_27 : decode cX2_lettersInTime 27 = .ok (.iinc 3 1, 3) := by decide +kernel
theorem dX2_lettersInTime_30 : decode cX2_lettersInTime 30 = .ok (.goto (-26), 3) := by decide +kernel
theorem dX2_lettersInTime_33 : decode cX2_lettersInTime 33 = .ok (.iload_n 2, 1) := by decide +kernel
theorem dX2_lettersInTime_34 : decode cX2_lettersInTime 34 = .ok (.ireturn, 1) := by decide +kernel
theorem dX2_had_0 : decode cX2_had 0 = .ok (.aload_n 0, 1) := by decide +kernel
theorem dX2_had_1 : decode cX2_had 1 = .ok (.aload_n 1, 1) := by decide +kernel
theorem dX2_had_2 : decode cX2_had 2 = .ok (.iload_n 2, 1) := by decide +kernel
theorem dX2_had_3 : decode cX2_had 3 = .ok (.invokevirtual 70, 3) := by decide +kernel
theorem dX2_had_6 : decode cX2_had 6 = .ok (.ifCond .eq 14, 3) := by decide +kernel
theorem dX2_had_9 : decode cX2_had 9 = .ok (.aload_n 1, 1) := by decide +kernel
theorem dX2_had_10 : decode cX2_had 10 = .ok (.getfield 74, 3) := by decide +kernel
theorem dX2_had_13 : decode cX2_had 13 = .ok (.iload_n 2, 1) := by decide +kernel
theorem dX2_had_14 : decode cX2_had 14 = .ok (.invokestatic 45, 3) := by decide +kernel
theorem dX2_had_17 : decode cX2_had 17 = .ok (.goto 4, 3) := by decide +kernel
theorem dX2_had_20 : decode cX2_had 20 = .ok (.iconst 0, 1) := by decide +kernel
theorem dX2_had_21 : decode cX2_had 21 = .ok (.iload 4, 2) := by decide +kernel
theorem dX2_had_23 : decode cX2_had 23 = .ok (.iload_n 3, 1) := by decide +kernel
theorem dX2_had_24 : decode cX2_had 24 = .ok (.imul, 1) := by decide +kernel
theorem dX2_had_25 : decode cX2_had 25 = .ok (.isub, 1) := by decide +kernel
theorem dX2_had_26 : decode cX2_had 26 = .ok (.ireturn, 1) := by decide +kernel
theorem dX2_hadOfAll_0 : decode cX2_hadOfAll 0 = .ok (.iconst 0, 1) := by decide +kernel
theorem dX2_hadOfAll_1 : decode cX2_hadOfAll 1 = .ok (.istore_n 3, 1) := by decide +kernel
theorem dX2_hadOfAll_2 : decode cX2_hadOfAll 2 = .ok (.iconst 0, 1) := by decide +kernel
theorem dX2_hadOfAll_3 : decode cX2_hadOfAll 3 = .ok (.istore 4, 2) := by decide +kernel
theorem dX2_hadOfAll_5 : decode cX2_hadOfAll 5 = .ok (.iload 4, 2) := by decide +kernel
theorem dX2_hadOfAll_7 : decode cX2_hadOfAll 7 = .ok (.aload_n 1, 1) := by decide +kernel
theorem dX2_hadOfAll_8 : decode cX2_hadOfAll 8 = .ok (.getfield 25, 3) := by decide +kernel
theorem dX2_hadOfAll_11 : decode cX2_hadOfAll 11 = .ok (.if_icmp .ge 29, 3) := by decide +kernel
theorem dX2_hadOfAll_14 : decode cX2_hadOfAll 14 = .ok (.iload_n 3, 1) := by decide +kernel
theorem dX2_hadOfAll_15 : decode cX2_hadOfAll 15 = .ok (.aload_n 0, 1) := by decide +kernel
theorem dX2_hadOfAll_16 : decode cX2_hadOfAll 16 = .ok (.aload_n 1, 1) := by decide +kernel
theorem dX2_hadOfAll_17 : decode cX2_hadOfAll 17 = .ok (.iload 4, 2) := by decide +kernel
theorem dX2_hadOfAll_19 : decode cX2_hadOfAll 19 = .ok (.aload_n 2, 1) := by decide +kernel
theorem dX2_hadOfAll_20 : decode cX2_hadOfAll 20 = .ok (.iload 4, 2) := by decide +kernel
theorem dX2_hadOfAll_22 : decode cX2_hadOfAll 22 = .ok (.invokestatic 45, 3) := by decide +kernel
theorem dX2_hadOfAll_25 : decode cX2_hadOfAll 25 = .ok (.aload_n 1, 1) := by decide +kernel
theorem dX2_hadOfAll_26 : decode cX2_hadOfAll 26 = .ok (.getfield 77, 3) := by decide +kernel
theorem dX2_hadOfAll_29 : decode cX2_hadOfAll 29 = .ok (.invokevirtual 80, 3) := by decide +kernel
theorem dX2_hadOfAll_32 : decode cX2_hadOfAll 32 = .ok (.iadd, 1) := by decide +kernel
theorem dX2_hadOfAll_33 : decode cX2_hadOfAll 33 = .ok (.istore_n 3, 1) := by decide +kernel
theorem dX2_hadOfAll_34 : decode cX2_hadOfAll 34 = .ok (.iinc 4 1, 3) := by decide +kernel
theorem dX2_hadOfAll_37 : decode cX2_hadOfAll 37 = .ok (.goto (-32), 3) := by decide +kernel
theorem dX2_hadOfAll_40 : decode cX2_hadOfAll 40 = .ok (.iload_n 3, 1) := by decide +kernel
theorem dX2_hadOfAll_41 : decode cX2_hadOfAll 41 = .ok (.ireturn, 1) := by decide +kernel
theorem dX2_longerOfTwo_0 : decode cX2_longerOfTwo 0 = .ok (.iload_n 2, 1) := by decide +kernel
theorem dX2_longerOfTwo_1 : decode cX2_longerOfTwo 1 = .ok (.ifCond .le 23, 3) := by decide +kernel
theorem dX2_longerOfTwo_4 : decode cX2_longerOfTwo 4 = .ok (.aload_n 0, 1) := by decide +kernel
theorem dX2_longerOfTwo_5 : decode cX2_longerOfTwo 5 = .ok (.getfield 18, 3) := by decide +kernel
theorem dX2_longerOfTwo_8 : decode cX2_longerOfTwo 8 = .ok (.aload_n 0, 1) := by decide +kernel
theorem dX2_longerOfTwo_9 : decode cX2_longerOfTwo 9 = .ok (.getfield 15, 3) := by decide +kernel
theorem dX2_longerOfTwo_12 : decode cX2_longerOfTwo 12 = .ok (.iload_n 2, 1) := by decide +kernel
theorem dX2_longerOfTwo_13 : decode cX2_longerOfTwo 13 = .ok (.iconst 1, 1) := by decide +kernel
theorem dX2_longerOfTwo_14 : decode cX2_longerOfTwo 14 = .ok (.isub, 1) := by decide +kernel
theorem dX2_longerOfTwo_15 : decode cX2_longerOfTwo 15 = .ok (.invokestatic 45, 3) := by decide +kernel
theorem dX2_longerOfTwo_18 : decode cX2_longerOfTwo 18 = .ok (.invokestatic 45, 3) := by decide +kernel
theorem dX2_longerOfTwo_21 : decode cX2_longerOfTwo 21 = .ok (.goto 4, 3) := by decide +kernel
theorem dX2_longerOfTwo_24 : decode cX2_longerOfTwo 24 = .ok (.iconst 0, 1) := by decide +kernel
theorem dX2_longerOfTwo_25 : decode cX2_longerOfTwo 25 = .ok (.istore_n 3, 1) := by decide +kernel
theorem dX2_longerOfTwo_26 : decode cX2_longerOfTwo 26 = .ok (.iload_n 2, 1) := by decide +kernel
theorem dX2_longerOfTwo_27 : decode cX2_longerOfTwo 27 = .ok (.aload_n 1, 1) := by decide +kernel
theorem dX2_longerOfTwo_28 : decode cX2_longerOfTwo 28 = .ok (.getfield 25, 3) := by decide +kernel
theorem dX2_longerOfTwo_31 : decode cX2_longerOfTwo 31 = .ok (.if_icmp .lt 5, 3) := by decide +kernel
theorem dX2_longerOfTwo_34 : decode cX2_longerOfTwo 34 = .ok (.iload_n 3, 1) := by decide +kernel
theorem dX2_longerOfTwo_35 : decode cX2_longerOfTwo 35 = .ok (.ireturn, 1) := by decide +kernel
theorem dX2_longerOfTwo_36 : decode cX2_longerOfTwo 36 = .ok (.aload_n 0, 1) := by decide +kernel
theorem dX2_longerOfTwo_37 : decode cX2_longerOfTwo 37 = .ok (.getfield 15, 3) := by decide +kernel
theorem dX2_longerOfTwo_40 : decode cX2_longerOfTwo 40 = .ok (.iload_n 2, 1) := by decide +kernel
theorem dX2_longerOfTwo_41 : decode cX2_longerOfTwo 41 = .ok (.invokestatic 45, 3) := by decide +kernel
theorem dX2_longerOfTwo_44 : decode cX2_longerOfTwo 44 = .ok (.istore 4, 2) := by decide +kernel
theorem dX2_longerOfTwo_46 : decode cX2_longerOfTwo 46 = .ok (.aload_n 1, 1) := by decide +kernel
theorem dX2_longerOfTwo_47 : decode cX2_longerOfTwo 47 = .ok (.iconst 0, 1) := by decide +kernel
theorem dX2_longerOfTwo_48 : decode cX2_longerOfTwo 48 = .ok (.aload_n 1, 1) := by decide +kernel
theorem dX2_longerOfTwo_49 : decode cX2_longerOfTwo 49 = .ok (.getfield 60, 3) := by decide +kernel
theorem dX2_longerOfTwo_52 : decode cX2_longerOfTwo 52 = .ok (.iload 4, 2) := by decide +kernel
theorem dX2_longerOfTwo_54 : decode cX2_longerOfTwo 54 = .ok (.invokestatic 45, 3) := by decide +kernel
theorem dX2_longerOfTwo_57 : decode cX2_longerOfTwo 57 = .ok (.invokevirtual 63, 3) := by decide +kernel
theorem dX2_longerOfTwo_60 : decode cX2_longerOfTwo 60 = .ok (.aload_n 0, 1) := by decide +kernel
theorem dX2_longerOfTwo_61 : decode cX2_longerOfTwo 61 = .ok (.getfield 57, 3) := by decide +kernel
theorem dX2_longerOfTwo_64 : decode cX2_longerOfTwo 64 = .ok (.iadd, 1) := by decide +kernel
theorem dX2_longerOfTwo_65 : decode cX2_longerOfTwo 65 = .ok (.aload_n 0, 1) := by decide +kernel
theorem dX2_longerOfTwo_66 : decode cX2_longerOfTwo 66 = .ok (.getfield 18, 3) := by decide +kernel
theorem dX2_longerOfTwo_69 : decode cX2_longerOfTwo 69 = .ok (.iload 4, 2) := by decide +kernel
theorem dX2_longerOfTwo_71 : decode cX2_longerOfTwo 71 = .ok (.invokestatic 45, 3) := by decide +kernel
theorem dX2_longerOfTwo_74 : decode cX2_longerOfTwo 74 = .ok (.isub, 1) := by decide +kernel
theorem dX2_longerOfTwo_75 : decode cX2_longerOfTwo 75 = .ok (.istore 5, 2) := by decide +kernel
theorem dX2_longerOfTwo_77 : decode cX2_longerOfTwo 77 = .ok (.iload_n 3, 1) := by decide +kernel
theorem dX2_longerOfTwo_78 : decode cX2_longerOfTwo 78 = .ok (.iload 5, 2) := by decide +kernel
theorem dX2_longerOfTwo_80 : decode cX2_longerOfTwo 80 = .ok (.invokestatic 84, 3) := by decide +kernel
theorem dX2_longerOfTwo_83 : decode cX2_longerOfTwo 83 = .ok (.ireturn, 1) := by decide +kernel
theorem dX3_init_0 : decode cX3_init 0 = .ok (.aload_n 0, 1) := by decide +kernel
theorem dX3_init_1 : decode cX3_init 1 = .ok (.invokespecial 3, 3) := by decide +kernel
theorem dX3_init_4 : decode cX3_init 4 = .ok (.aload_n 0, 1) := by decide +kernel
theorem dX3_init_5 : decode cX3_init 5 = .ok (.bipush 7, 2) := by decide +kernel
theorem dX3_init_7 : decode cX3_init 7 = .ok (.newarray .int, 2) := by decide +kernel
theorem dX3_init_9 : decode cX3_init 9 = .ok (.putfield 9, 3) := by decide +kernel
theorem dX3_init_12 : decode cX3_init 12 = .ok (.aload_n 0, 1) := by decide +kernel
theorem dX3_init_13 : decode cX3_init 13 = .ok (.bipush 7, 2) := by decide +kernel
theorem dX3_init_15 : decode cX3_init 15 = .ok (.newarray .int, 2) := by decide +kernel
theorem dX3_init_17 : decode cX3_init 17 = .ok (.putfield 15, 3) := by decide +kernel
theorem dX3_init_20 : decode cX3_init 20 = .ok (.return_, 1) := by decide +kernel
theorem dX3_seek_0 : decode cX3_seek 0 = .ok (.aload_n 0, 1) := by decide +kernel
theorem dX3_seek_1 : decode cX3_seek 1 = .ok (.iload_n 2, 1) := by decide +kernel
theorem dX3_seek_2 : decode cX3_seek 2 = .ok (.putfield 18, 3) := by decide +kernel
theorem dX3_seek_5 : decode cX3_seek 5 = .ok (.aload_n 0, 1) := by decide +kernel
theorem dX3_seek_6 : decode cX3_seek 6 = .ok (.iconst 0, 1) := by decide +kernel
theorem dX3_seek_7 : decode cX3_seek 7 = .ok (.putfield 22, 3) := by decide +kernel
theorem dX3_seek_10 : decode cX3_seek 10 = .ok (.aload_n 0, 1) := by decide +kernel
theorem dX3_seek_11 : decode cX3_seek 11 = .ok (.iconst 0, 1) := by decide +kernel
theorem dX3_seek_12 : decode cX3_seek 12 = .ok (.putfield 25, 3) := by decide +kernel
theorem dX3_seek_15 : decode cX3_seek 15 = .ok (.aload_n 0, 1) := by decide +kernel
theorem dX3_seek_16 : decode cX3_seek 16 = .ok (.iconst 0, 1) := by decide +kernel
theorem dX3_seek_17 : decode cX3_seek 17 = .ok (.putfield 29, 3) := by decide +kernel
theorem dX3_seek_20 : decode cX3_seek 20 = .ok (.aload_n 0, 1) := by decide +kernel
theorem dX3_seek_21 : decode cX3_seek 21 = .ok (.aload_n 1, 1) := by decide +kernel
theorem dX3_seek_22 : decode cX3_seek 22 = .ok (.iconst 0, 1) := by decide +kernel
theorem dX3_seek_23 : decode cX3_seek 23 = .ok (.iconst 0, 1) := by decide +kernel
theorem dX3_seek_24 : decode cX3_seek 24 = .ok (.iconst 0, 1) := by decide +kernel
theorem dX3_seek_25 : decode cX3_seek 25 = .ok (.invokevirtual 32, 3) := by decide +kernel
theorem dX3_seek_28 : decode cX3_seek 28 = .ok (.return_, 1) := by decide +kernel
theorem dX3_letterAt_0 : decode cX3_letterAt 0 = .ok (.iload_n 1, 1) := by decide +kernel
theorem dX3_letterAt_1 : decode cX3_letterAt 1 = .ok (.ifCond .lt 19, 3) := by decide +kernel
theorem dX3_letterAt_4 : decode cX3_letterAt 4 = .ok (.iload_n 1, 1) := by decide +kernel
theorem dX3_letterAt_5 : decode cX3_letterAt 5 = .ok (.iload_n 2, 1) := by decide +kernel
theorem dX3_letterAt_6 : decode cX3_letterAt 6 = .ok (.if_icmp .ge 14, 3) := by decide +kernel
theorem dX3_letterAt_9 : decode cX3_letterAt 9 = .ok (.aload_n 0, 1) := by decide +kernel
theorem dX3_letterAt_10 : decode cX3_letterAt 10 = .ok (.getfield 15, 3) := by decide +kernel
theorem dX3_letterAt_13 : decode cX3_letterAt 13 = .ok (.iload_n 1, 1) := by decide +kernel
theorem dX3_letterAt_14 : decode cX3_letterAt 14 = .ok (.invokestatic 36, 3) := by decide +kernel
theorem dX3_letterAt_17 : decode cX3_letterAt 17 = .ok (.goto 4, 3) := by decide +kernel
theorem dX3_letterAt_20 : decode cX3_letterAt 20 = .ok (.iconst (-1), 1) := by decide +kernel
theorem dX3_letterAt_21 : decode cX3_letterAt 21 = .ok (.ireturn, 1) := by decide +kernel
theorem dX3_extend_0 : decode cX3_extend 0 = .ok (.iload_n 2, 1) := by decide +kernel
theorem dX3_extend_1 : decode cX3_extend 1 = .ok (.aload_n 1, 1) := by decide +kernel
theorem dX3_extend_2 : decode cX3_extend 2 = .ok (.getfield 40, 3) := by decide +kernel
theorem dX3_extend_5 : decode cX3_extend 5 = .ok (.if_icmp .ge 9, 3) := by decide +kernel
theorem dX3_extend_8 : decode cX3_extend 8 = .ok (.iload_n 2, 1) := by decide +kernel
theorem dX3_extend_9 : decode cX3_extend 9 = .ok (.bipush 7, 2) := by decide +kernel
theorem dX3_extend_11 : decode cX3_extend 11 = .ok (.if_icmp .lt 11, 3) := by decide +kernel
theorem dX3_extend_14 : decode cX3_extend 14 = .ok (.aload_n 0, 1) := by decide +kernel
theorem dX3_extend_15 : decode cX3_extend 15 = .ok (.aload_n 1, 1) := by decide +kernel
theorem dX3_extend_16 : decode cX3_extend 16 = .ok (.iload 4, 2) := by decide +kernel
theorem dX3_extend_18 : decode cX3_extend 18 = .ok (.invokevirtual 45, 3) := by decide +kernel
theorem dX3_extend_21 : decode cX3_extend 21 = .ok (.return_, 1) := by decide +kernel
theorem dX3_extend_22 : decode cX3_extend 22 = .ok (.iconst 0, 1) := by decide +kernel
theorem dX3_extend_23 : decode cX3_extend 23 = .ok (.istore 5, 2) := by decide +kernel
theorem dX3_extend_25 : decode cX3_extend 25 = .ok (.iload 5, 2) := by decide +kernel
theorem dX3_extend_27 : decode cX3_extend 27 = .ok (.aload_n 1, 1) := by decide +kernel
theorem dX3_extend_28 : decode cX3_extend 28 = .ok (.getfield 40, 3) := by decide +kernel
theorem dX3_extend_31 : decode cX3_extend 31 = .ok (.if_icmp .ge 29, 3) := by decide +kernel
theorem dX3_extend_34 : decode cX3_extend 34 = .ok (.iload_n 3, 1) := by decide +kernel
theorem dX3_extend_35 : decode cX3_extend 35 = .ok (.iload 5, 2) := by decide +kernel
theorem dX3_extend_37 : decode cX3_extend 37 = .ok (.invokestatic 49, 3) := by decide +kernel
theorem dX3_extend_40 : decode cX3_extend 40 = .ok (.ifCond .ne 14, 3) := by decide +kernel
theorem dX3_extend_43 : decode cX3_extend 43 = .ok (.aload_n 0, 1) := by decide +kernel
theorem dX3_extend_44 : decode cX3_extend 44 = .ok (.aload_n 1, 1) := by decide +kernel
theorem dX3_extend_45 : decode cX3_extend 45 = .ok (.iload 5, 2) := by decide +kernel
theorem dX3_extend_47 : decode cX3_extend 47 = .ok (.iload_n 2, 1) := by decide +kernel
theorem dX3_extend_48 : decode cX3_extend 48 = .ok (.iload_n 3, 1) := by decide +kernel
theorem dX3_extend_49 : decode cX3_extend 49 = .ok (.iload 4, 2) := by decide +kernel
theorem dX3_extend_51 : decode cX3_extend 51 = .ok (.invokevirtual 53, 3) := by decide +kernel
theorem dX3_extend_54 : decode cX3_extend 54 = .ok (.iinc 5 1, 3) := by decide +kernel
theorem dX3_extend_57 : decode cX3_extend 57 = .ok (.goto (-32), 3) := by decide +kernel
theorem dX3_extend_60 : decode cX3_extend 60 = .ok (.return_, 1) := by decide +kernel
theorem dX3_append_0 : decode cX3_append 0 = .ok (.iload_n 3, 1) := by decide +kernel
theorem dX3_append_1 : decode cX3_append 1 = .ok (.ifCond .ne 7, 3) := by decide +kernel
theorem dX3_append_4 : decode cX3_append 4 = .ok (.iconst 0, 1) := by decide +kernel
theorem dX3_append_5 : decode cX3_append 5 = .ok (.goto 20, 3) := by decide +kernel
theorem dX3_append_8 : decode cX3_append 8 = .ok (.aload_n 1, 1) := by decide +kernel
theorem dX3_append_9 : decode cX3_append 9 = .ok (.getfield 57, 3) := by decide +kernel
theorem dX3_append_12 : decode cX3_append 12 = .ok (.aload_n 0, 1) := by decide +kernel
theorem dX3_append_13 : decode cX3_append 13 = .ok (.getfield 9, 3) := by decide +kernel
theorem dX3_append_16 : decode cX3_append 16 = .ok (.iload_n 3, 1) := by decide +kernel
theorem dX3_append_17 : decode cX3_append 17 = .ok (.iconst 1, 1) := by decide +kernel
theorem dX3_append_18 : decode cX3_append 18 = .ok (.isub, 1) := by decide +kernel
theorem dX3_append_19 : decode cX3_append 19 = .ok (.invokestatic 36, 3) := by decide +kernel
theorem dX3_append_22 : decode cX3_append 22 = .ok (.invokestatic 36, 3) := by decide +kernel
theorem dX3_append_25 : decode cX3_append 25 = .ok (.istore 6, 2) := by decide +kernel
theorem dX3_append_27 : decode cX3_append 27 = .ok (.iload 5, 2) := by decide +kernel
theorem dX3_append_29 : decode cX3_append 29 = .ok (.aload_n 1, 1) := by decide +kernel
theorem dX3_append_30 : decode cX3_append 30 = .ok (.iload 6, 2) := by decide +kernel
theorem dX3_append_32 : decode cX3_append 32 = .ok (.aload_n 1, 1) := by decide +kernel
theorem dX3_append_33 : decode cX3_append 33 = .ok (.getfield 57, 3) := by decide +kernel
theorem dX3_append_36 : decode cX3_append 36 = .ok (.iload_n 2, 1) := by decide +kernel
theorem dX3_append_37 : decode cX3_append 37 = .ok (.invokestatic 36, 3) := by decide +kernel
theorem dX3_append_40 : decode cX3_append 40 = .ok (.invokevirtual 60, 3) := by decide +kernel
theorem dX3_append_43 : decode cX3_append 43 = .ok (.iadd, 1) := by decide +kernel
theorem dX3_append_44 : decode cX3_append 44 = .ok (.istore 7, 2) := by decide +kernel
theorem dX3_append_46 : decode cX3_append 46 = .ok (.aload_n 0, 1) := by decide +kernel
theorem dX3_append_47 : decode cX3_append 47 = .ok (.aload_n 1, 1) := by decide +kernel
theorem dX3_append_48 : decode cX3_append 48 = .ok (.iload_n 2, 1) := by decide +kernel
theorem dX3_append_49 : decode cX3_append 49 = .ok (.iload 7, 2) := by decide +kernel
theorem dX3_append_51 : decode cX3_append 51 = .ok (.invokevirtual 64, 3) := by decide +kernel
theorem dX3_append_54 : decode cX3_append 54 = .ok (.ifCond .eq 28, 3) := by decide +kernel
theorem dX3_append_57 : decode cX3_append 57 = .ok (.aload_n 0, 1) := by decide +kernel
theorem dX3_append_58 : decode cX3_append 58 = .ok (.getfield 9, 3) := by decide +kernel
theorem dX3_append_61 : decode cX3_append 61 = .ok (.iload_n 3, 1) := by decide +kernel
theorem dX3_append_62 : decode cX3_append 62 = .ok (.iload_n 2, 1) := by decide +kernel
theorem dX3_append_63 : decode cX3_append 63 = .ok (.invokestatic 68, 3) := by decide +kernel
theorem dX3_append_66 : decode cX3_append 66 = .ok (.aload_n 0, 1) := by decide +kernel
theorem dX3_append_67 : decode cX3_append 67 = .ok (.aload_n 1, 1) := by decide +kernel
theorem dX3_append_68 : decode cX3_append 68 = .ok (.iload_n 3, 1) := by decide +kernel
theorem dX3_append_69 : decode cX3_append 69 = .ok (.iconst 1, 1) := by decide +kernel
theorem dX3_append_70 : decode cX3_append 70 = .ok (.iadd, 1) := by decide +kernel
theorem dX3_append_71 : decode cX3_append 71 = .ok (.iload 4, 2) := by decide +kernel
theorem dX3_append_73 : decode cX3_append 73 = .ok (.iconst 1, 1) := by decide +kernel
theorem dX3_append_74 : decode cX3_append 74 = .ok (.iload_n 2, 1) := by decide +kernel
theorem dX3_append_75 : decode cX3_append 75 = .ok (.ishl, 1) := by decide +kernel
theorem dX3_append_76 : decode cX3_append 76 = .ok (.ior, 1) := by decide +kernel
theorem dX3_append_77 : decode cX3_append 77 = .ok (.iload 7, 2) := by decide +kernel
theorem dX3_append_79 : decode cX3_append 79 = .ok (.invokevirtual 32, 3) := by decide +kernel
theorem dX3_append_82 : decode cX3_append 82 = .ok (.return_, 1) := by decide +kernel
theorem dX3_mayLead_0 : decode cX3_mayLead 0 = .ok (.aload_n 0, 1) := by decide +kernel
theorem dX3_mayLead_1 : decode cX3_mayLead 1 = .ok (.getfield 18, 3) := by decide +kernel
theorem dX3_mayLead_4 : decode cX3_mayLead 4 = .ok (.ifCond .eq 21, 3) := by decide +kernel
theorem dX3_mayLead_7 : decode cX3_mayLead 7 = .ok (.iload_n 3, 1) := by decide +kernel
theorem dX3_mayLead_8 : decode cX3_mayLead 8 = .ok (.aload_n 1, 1) := by decide +kernel
theorem dX3_mayLead_9 : decode cX3_mayLead 9 = .ok (.getfield 72, 3) := by decide +kernel
theorem dX3_mayLead_12 : decode cX3_mayLead 12 = .ok (.iload_n 2, 1) := by decide +kernel
theorem dX3_mayLead_13 : decode cX3_mayLead 13 = .ok (.invokestatic 36, 3) := by decide +kernel
theorem dX3_mayLead_16 : decode cX3_mayLead 16 = .ok (.if_icmp .gt 7, 3) := by decide +kernel
theorem dX3_mayLead_19 : decode cX3_mayLead 19 = .ok (.iconst 1, 1) := by decide +kernel
theorem dX3_mayLead_20 : decode cX3_mayLead 20 = .ok (.goto 4, 3) := by decide +kernel
theorem dX3_mayLead_23 : decode cX3_mayLead 23 = .ok (.iconst 0, 1) := by decide +kernel
theorem dX3_mayLead_24 : decode cX3_mayLead 24 = .ok (.ireturn, 1) := by decide +kernel
theorem dX3_mayLead_25 : decode cX3_mayLead 25 = .ok (.aload_n 0, 1) := by decide +kernel
theorem dX3_mayLead_26 : decode cX3_mayLead 26 = .ok (.getfield 22, 3) := by decide +kernel
theorem dX3_mayLead_29 : decode cX3_mayLead 29 = .ok (.ifCond .eq 11, 3) := by decide +kernel
theorem dX3_mayLead_32 : decode cX3_mayLead 32 = .ok (.iload_n 3, 1) := by decide +kernel
theorem dX3_mayLead_33 : decode cX3_mayLead 33 = .ok (.aload_n 0, 1) := by decide +kernel
theorem dX3_mayLead_34 : decode cX3_mayLead 34 = .ok (.getfield 25, 3) := by decide +kernel
theorem dX3_mayLead_37 : decode cX3_mayLead 37 = .ok (.if_icmp .gt 7, 3) := by decide +kernel
theorem dX3_mayLead_40 : decode cX3_mayLead 40 = .ok (.iconst 1, 1) := by decide +kernel
theorem dX3_mayLead_41 : decode cX3_mayLead 41 = .ok (.goto 4, 3) := by decide +kernel
theorem dX3_mayLead_44 : decode cX3_mayLead 44 = .ok (.iconst 0, 1) := by decide +kernel
theorem dX3_mayLead_45 : decode cX3_mayLead 45 = .ok (.ireturn, 1) := by decide +kernel
theorem dX3_consider_0 : decode cX3_consider 0 = .ok (.aload_n 0, 1) := by decide +kernel
theorem dX3_consider_1 : decode cX3_consider 1 = .ok (.aload_n 1, 1) := by decide +kernel
theorem dX3_consider_2 : decode cX3_consider 2 = .ok (.invokevirtual 75, 3) := by decide +kernel
theorem dX3_consider_5 : decode cX3_consider 5 = .ok (.istore_n 3, 1) := by decide +kernel
theorem dX3_consider_6 : decode cX3_consider 6 = .ok (.iload_n 3, 1) := by decide +kernel
theorem dX3_consider_7 : decode cX3_consider 7 = .ok (.iconst (-1), 1) := by decide +kernel
theorem dX3_consider_8 : decode cX3_consider 8 = .ok (.if_icmp .eq 45, 3) := by decide +kernel
theorem dX3_consider_11 : decode cX3_consider 11 = .ok (.aload_n 0, 1) := by decide +kernel
theorem dX3_consider_12 : decode cX3_consider 12 = .ok (.getfield 22, 3) := by decide +kernel
theorem dX3_consider_15 : decode cX3_consider 15 = .ok (.ifCond .eq 12, 3) := by decide +kernel
theorem dX3_consider_18 : decode cX3_consider 18 = .ok (.aload_n 0, 1) := by decide +kernel
theorem dX3_consider_19 : decode cX3_consider 19 = .ok (.iload_n 3, 1) := by decide +kernel
theorem dX3_consider_20 : decode cX3_consider 20 = .ok (.iload_n 2, 1) := by decide +kernel
theorem dX3_consider_21 : decode cX3_consider 21 = .ok (.invokevirtual 79, 3) := by decide +kernel
theorem dX3_consider_24 : decode cX3_consider 24 = .ok (.ifCond .eq 29, 3) := by decide +kernel
theorem dX3_consider_27 : decode cX3_consider 27 = .ok (.aload_n 0, 1) := by decide +kernel
theorem dX3_consider_28 : decode cX3_consider 28 = .ok (.iconst 1, 1) := by decide +kernel
theorem dX3_consider_29 : decode cX3_consider 29 = .ok (.putfield 22, 3) := by decide +kernel
theorem dX3_consider_32 : decode cX3_consider 32 = .ok (.aload_n 0, 1) := by decide +kernel
theorem dX3_consider_33 : decode cX3_consider 33 = .ok (.iload_n 2, 1) := by decide +kernel
theorem dX3_consider_34 : decode cX3_consider 34 = .ok (.putfield 25, 3) := by decide +kernel
theorem dX3_consider_37 : decode cX3_consider 37 = .ok (.aload_n 0, 1) := by decide +kernel
theorem dX3_consider_38 : decode cX3_consider 38 = .ok (.iload_n 3, 1) := by decide +kernel
theorem dX3_consider_39 : decode cX3_consider 39 = .ok (.putfield 29, 3) := by decide +kernel
theorem dX3_consider_42 : decode cX3_consider 42 = .ok (.aload_n 0, 1) := by decide +kernel
theorem dX3_consider_43 : decode cX3_consider 43 = .ok (.getfield 9, 3) := by decide +kernel
theorem dX3_consider_46 : decode cX3_consider 46 = .ok (.aload_n 0, 1) := by decide +kernel
theorem dX3_consider_47 : decode cX3_consider 47 = .ok (.getfield 15, 3) := by decide +kernel
theorem dX3_consider_50 : decode cX3_consider 50 = .ok (.invokestatic 82, 3) := by decide +kernel
theorem dX3_consider_53 : decode cX3_consider 53 = .ok (.return_, 1) := by decide +kernel
theorem dX3_isBetter_0 : decode cX3_isBetter 0 = .ok (.aload_n 0, 1) := by decide +kernel
theorem dX3_isBetter_1 : decode cX3_isBetter 1 = .ok (.getfield 18, 3) := by decide +kernel
theorem dX3_isBetter_4 : decode cX3_isBetter 4 = .ok (.ifCond .eq 33, 3) := by decide +kernel
theorem dX3_isBetter_7 : decode cX3_isBetter 7 = .ok (.iload_n 1, 1) := by decide +kernel
theorem dX3_isBetter_8 : decode cX3_isBetter 8 = .ok (.aload_n 0, 1) := by decide +kernel
theorem dX3_isBetter_9 : decode cX3_isBetter 9 = .ok (.getfield 29, 3) := by decide +kernel
theorem dX3_isBetter_12 : decode cX3_isBetter 12 = .ok (.if_icmp .lt 19, 3) := by decide +kernel
theorem dX3_isBetter_15 : decode cX3_isBetter 15 = .ok (.iload_n 1, 1) := by decide +kernel
theorem dX3_isBetter_16 : decode cX3_isBetter 16 = .ok (.aload_n 0, 1) := by decide +kernel
theorem dX3_isBetter_17 : decode cX3_isBetter 17 = .ok (.getfield 29, 3) := by decide +kernel
theorem dX3_isBetter_20 : decode cX3_isBetter 20 = .ok (.if_icmp .ne 15, 3) := by decide +kernel
theorem dX3_isBetter_23 : decode cX3_isBetter 23 = .ok (.iload_n 2, 1) := by decide +kernel
theorem dX3_isBetter_24 : decode cX3_isBetter 24 = .ok (.aload_n 0, 1) := by decide +kernel
theorem dX3_isBetter_25 : decode cX3_isBetter 25 = .ok (.getfield 25, 3) := by decide +kernel
theorem dX3_isBetter_28 : decode cX3_isBetter 28 = .ok (.if_icmp .ge 7, 3) := by decide +kernel
theorem dX3_isBetter_31 : decode cX3_isBetter 31 = .ok (.iconst 1, 1) := by decide +kernel
theorem dX3_isBetter_32 : decode cX3_isBetter 32 = .ok (.goto 4, 3) := by decide +kernel
theorem dX3_isBetter_35 : decode cX3_isBetter 35 = .ok (.iconst 0, 1) := by decide +kernel
theorem dX3_isBetter_36 : decode cX3_isBetter 36 = .ok (.ireturn, 1) := by decide +kernel
theorem dX3_isBetter_37 : decode cX3_isBetter 37 = .ok (.iload_n 2, 1) := by decide +kernel
theorem dX3_isBetter_38 : decode cX3_isBetter 38 = .ok (.aload_n 0, 1) := by decide +kernel
theorem dX3_isBetter_39 : decode cX3_isBetter 39 = .ok (.getfield 25, 3) := by decide +kernel
theorem dX3_isBetter_42 : decode cX3_isBetter 42 = .ok (.if_icmp .lt 19, 3) := by decide +kernel
theorem dX3_isBetter_45 : decode cX3_isBetter 45 = .ok (.iload_n 2, 1) := by decide +kernel
theorem dX3_isBetter_46 : decode cX3_isBetter 46 = .ok (.aload_n 0, 1) := by decide +kernel
theorem dX3_isBetter_47 : decode cX3_isBetter 47 = .ok (.getfield 25, 3) := by decide +kernel
theorem dX3_isBetter_50 : decode cX3_isBetter 50 = .ok (.if_icmp .ne 15, 3) := by decide +kernel
theorem dX3_isBetter_53 : decode cX3_isBetter 53 = .ok (.iload_n 1, 1) := by decide +kernel
theorem dX3_isBetter_54 : decode cX3_isBetter 54 = .ok (.aload_n 0, 1) := by decide +kernel
theorem dX3_isBetter_55 : decode cX3_isBetter 55 = .ok (.getfield 29, 3) := by decide +kernel
theorem dX3_isBetter_58 : decode cX3_isBetter 58 = .ok (.if_icmp .ge 7, 3) := by decide +kernel
theorem dX3_isBetter_61 : decode cX3_isBetter 61 = .ok (.iconst 1, 1) := by decide +kernel
theorem dX3_isBetter_62 : decode cX3_isBetter 62 = .ok (.goto 4, 3) := by decide +kernel
theorem dX3_isBetter_65 : decode cX3_isBetter 65 = .ok (.iconst 0, 1) := by decide +kernel
theorem dX3_isBetter_66 : decode cX3_isBetter 66 = .ok (.ireturn, 1) := by decide +kernel
theorem dX3_fewestStones_0 : decode cX3_fewestStones 0 = .ok (.aload_n 1, 1) := by decide +kernel
theorem dX3_fewestStones_1 : decode cX3_fewestStones 1 = .ok (.getfield 40, 3) := by decide +kernel
theorem dX3_fewestStones_4 : decode cX3_fewestStones 4 = .ok (.istore_n 2, 1) := by decide +kernel
theorem dX3_fewestStones_5 : decode cX3_fewestStones 5 = .ok (.aload_n 1, 1) := by decide +kernel
theorem dX3_fewestStones_6 : decode cX3_fewestStones 6 = .ok (.getfield 86, 3) := by decide +kernel
theorem dX3_fewestStones_9 : decode cX3_fewestStones 9 = .ok (.ifCond .ne 7, 3) := by decide +kernel
theorem dX3_fewestStones_12 : decode cX3_fewestStones 12 = .ok (.iconst 1, 1) := by decide +kernel
theorem dX3_fewestStones_13 : decode cX3_fewestStones 13 = .ok (.goto 4, 3) := by decide +kernel
theorem dX3_fewestStones_16 : decode cX3_fewestStones 16 = .ok (.iconst 0, 1) := by decide +kernel
theorem dX3_fewestStones_17 : decode cX3_fewestStones 17 = .ok (.istore_n 3, 1) := by decide +kernel
theorem dX3_fewestStones_18 : decode cX3_fewestStones 18 = .ok (.iconst 0, 1) := by decide +kernel
theorem dX3_fewestStones_19 : decode cX3_fewestStones 19 = .ok (.istore 4, 2) := by decide +kernel
theorem dX3_fewestStones_21 : decode cX3_fewestStones 21 = .ok (.iconst (-1), 1) := by decide +kernel
theorem dX3_fewestStones_22 : decode cX3_fewestStones 22 = .ok (.istore 5, 2) := by decide +kernel
theorem dX3_fewestStones_24 : decode cX3_fewestStones 24 = .ok (.iconst 0, 1) := by decide +kernel
theorem dX3_fewestStones_25 : decode cX3_fewestStones 25 = .ok (.istore 6, 2) := by decide +kernel
theorem dX3_fewestStones_27 : decode cX3_fewestStones 27 = .ok (.iconst 0, 1) := by decide +kernel
theorem dX3_fewestStones_28 : decode cX3_fewestStones 28 = .ok (.istore 7, 2) := by decide +kernel
theorem dX3_fewestStones_30 : decode cX3_fewestStones 30 = .ok (.iload 7, 2) := by decide +kernel
theorem dX3_fewestStones_32 : decode cX3_fewestStones 32 = .ok (.iload_n 2, 1) := by decide +kernel
theorem dX3_fewestStones_33 : decode cX3_fewestStones 33 = .ok (.if_icmp .ge 134, 3) := by decide +kernel
theorem dX3_fewestStones_36 : decode cX3_fewestStones 36 = .ok (.aload_n 0, 1) := by decide +kernel
theorem dX3_fewestStones_37 : decode cX3_fewestStones 37 = .ok (.getfield 9, 3) := by decide +kernel
theorem dX3_fewestStones_40 : decode cX3_fewestStones 40 = .ok (.iload_n 3, 1) := by decide +kernel
theorem dX3_fewestStones_41 : decode cX3_fewestStones 41 = .ok (.ifCond .eq 12, 3) := by decide +kernel
theorem dX3_fewestStones_44 : decode cX3_fewestStones 44 = .ok (.iload_n 2, 1) := by decide +kernel
theorem dX3_fewestStones_45 : decode cX3_fewestStones 45 = .ok (.iconst 1, 1) := by decide +kernel
theorem dX3_fewestStones_46 : decode cX3_fewestStones 46 = .ok (.isub, 1) := by decide +kernel
theorem dX3_fewestStones_47 : decode cX3_fewestStones 47 = .ok (.iload 7, 2) := by decide +kernel
theorem dX3_fewestStones_49 : decode cX3_fewestStones 49 = .ok (.isub, 1) := by decide +kernel
theorem dX3_fewestStones_50 : decode cX3_fewestStones 50 = .ok (.goto 5, 3) := by decide +kernel
theorem dX3_fewestStones_53 : decode cX3_fewestStones 53 = .ok (.iload 7, 2) := by decide +kernel
theorem dX3_fewestStones_55 : decode cX3_fewestStones 55 = .ok (.invokestatic 36, 3) := by decide +kernel
theorem dX3_fewestStones_58 : decode cX3_fewestStones 58 = .ok (.istore 8, 2) := by decide +kernel
theorem dX3_fewestStones_60 : decode cX3_fewestStones 60 = .ok (.iload_n 3, 1) := by decide +kernel
theorem dX3_fewestStones_61 : decode cX3_fewestStones 61 = .ok (.ifCond .eq 18, 3) := by decide +kernel
theorem dX3_fewestStones_64 : decode cX3_fewestStones 64 = .ok (.iload 8, 2) := by decide +kernel
theorem dX3_fewestStones_66 : decode cX3_fewestStones 66 = .ok (.iload 5, 2) := by decide +kernel
theorem dX3_fewestStones_68 : decode cX3_fewestStones 68 = .ok (.if_icmp .ge 7, 3) := by decide +kernel
theorem dX3_fewestStones_71 : decode cX3_fewestStones 71 = .ok (.iconst 1, 1) := by decide +kernel
theorem dX3_fewestStones_72 : decode cX3_fewestStones 72 = .ok (.goto 19, 3) := by decide +kernel
theorem dX3_fewestStones_75 : decode cX3_fewestStones 75 = .ok (.iconst 0, 1) := by decide +kernel
theorem dX3_fewestStones_76 : decode cX3_fewestStones 76 = .ok (.goto 15, 3) := by decide +kernel
theorem dX3_fewestStones_79 : decode cX3_fewestStones 79 = .ok (.iload 5, 2) := by decide +kernel
theorem dX3_fewestStones_81 : decode cX3_fewestStones 81 = .ok (.iload 8, 2) := by decide +kernel
theorem dX3_fewestStones_83 : decode cX3_fewestStones 83 = .ok (.if_icmp .ge 7, 3) := by decide +kernel
theorem dX3_fewestStones_86 : decode cX3_fewestStones 86 = .ok (.iconst 1, 1) := by decide +kernel
theorem dX3_fewestStones_87 : decode cX3_fewestStones 87 = .ok (.goto 4, 3) := by decide +kernel
theorem dX3_fewestStones_90 : decode cX3_fewestStones 90 = .ok (.iconst 0, 1) := by decide +kernel
theorem dX3_fewestStones_91 : decode cX3_fewestStones 91 = .ok (.istore 9, 2) := by decide +kernel
theorem dX3_fewestStones_93 : decode cX3_fewestStones 93 = .ok (.iload 9, 2) := by decide +kernel
theorem dX3_fewestStones_95 : decode cX3_fewestStones 95 = .ok (.ifCond .eq 8, 3) := by decide +kernel
theorem dX3_fewestStones_98 : decode cX3_fewestStones 98 = .ok (.iload 6, 2) := by decide +kernel
theorem dX3_fewestStones_100 : decode cX3_fewestStones 100 = .ok (.goto 7, 3) := by decide +kernel
theorem dX3_fewestStones_103 : decode cX3_fewestStones 103 = .ok (.iload 6, 2) := by decide +kernel
theorem dX3_fewestStones_105 : decode cX3_fewestStones 105 = .ok (.iconst 1, 1) := by decide +kernel
theorem dX3_fewestStones_106 : decode cX3_fewestStones 106 = .ok (.iadd, 1) := by decide +kernel
theorem dX3_fewestStones_107 : decode cX3_fewestStones 107 = .ok (.istore 10, 2) := by decide +kernel
theorem dX3_fewestStones_109 : decode cX3_fewestStones 109 = .ok (.iconst 0, 1) := by decide +kernel
theorem dX3_fewestStones_110 : decode cX3_fewestStones 110 = .ok (.iload 10, 2) := by decide +kernel
theorem dX3_fewestStones_112 : decode cX3_fewestStones 112 = .ok (.aload_n 1, 1) := by decide +kernel
theorem dX3_fewestStones_113 : decode cX3_fewestStones 113 = .ok (.getfield 89, 3) := by decide +kernel
theorem dX3_fewestStones_116 : decode cX3_fewestStones 116 = .ok (.iload 8, 2) := by decide +kernel
theorem dX3_fewestStones_118 : decode cX3_fewestStones 118 = .ok (.invokestatic 36, 3) := by decide +kernel
theorem dX3_fewestStones_121 : decode cX3_fewestStones 121 = .ok (.isub, 1) := by decide +kernel
theorem dX3_fewestStones_122 : decode cX3_fewestStones 122 = .ok (.invokestatic 92, 3) := by decide +kernel
theorem dX3_fewestStones_125 : decode cX3_fewestStones 125 = .ok (.istore 11, 2) := by decide +kernel
theorem dX3_fewestStones_127 : decode cX3_fewestStones 127 = .ok (.iload 11, 2) := by decide +kernel
theorem dX3_fewestStones_129 : decode cX3_fewestStones 129 = .ok (.bipush 9, 2) := by decide +kernel
theorem dX3_fewestStones_131 : decode cX3_fewestStones 131 = .ok (.if_icmp .le 5, 3) := by decide +kernel
theorem dX3_fewestStones_134 : decode cX3_fewestStones 134 = .ok (.iconst (-1), 1) := by decide +kernel
theorem dX3_fewestStones_135 : decode cX3_fewestStones 135 = .ok (.ireturn, 1) := by decide +kernel
theorem dX3_fewestStones_136 : decode cX3_fewestStones 136 = .ok (.iload 4, 2) := by decide +kernel
theorem dX3_fewestStones_138 : decode cX3_fewestStones 138 = .ok (.iload 11, 2) := by decide +kernel
theorem dX3_fewestStones_140 : decode cX3_fewestStones 140 = .ok (.iadd, 1) := by decide +kernel
theorem dX3_fewestStones_141 : decode cX3_fewestStones 141 = .ok (.istore 4, 2) := by decide +kernel
theorem dX3_fewestStones_143 : decode cX3_fewestStones 143 = .ok (.iload 8, 2) := by decide +kernel
theorem dX3_fewestStones_145 : decode cX3_fewestStones 145 = .ok (.istore 5, 2) := by decide +kernel
theorem dX3_fewestStones_147 : decode cX3_fewestStones 147 = .ok (.aload_n 1, 1) := by decide +kernel
theorem dX3_fewestStones_148 : decode cX3_fewestStones 148 = .ok (.getfield 89, 3) := by decide +kernel
theorem dX3_fewestStones_151 : decode cX3_fewestStones 151 = .ok (.iload 8, 2) := by decide +kernel
theorem dX3_fewestStones_153 : decode cX3_fewestStones 153 = .ok (.invokestatic 36, 3) := by decide +kernel
theorem dX3_fewestStones_156 : decode cX3_fewestStones 156 = .ok (.iload 11, 2) := by decide +kernel
theorem dX3_fewestStones_158 : decode cX3_fewestStones 158 = .ok (.iadd, 1) := by decide +kernel
theorem dX3_fewestStones_159 : decode cX3_fewestStones 159 = .ok (.istore 6, 2) := by decide +kernel
theorem dX3_fewestStones_161 : decode cX3_fewestStones 161 = .ok (.iinc 7 1, 3) := by decide +kernel
theorem dX3_fewestStones_164 : decode cX3_fewestStones 164 = .ok (.goto (-134), 3) := by decide +kernel
theorem dX3_fewestStones_167 : decode cX3_fewestStones 167 = .ok (.iload 4, 2) := by decide +kernel
theorem dX3_fewestStones_169 : decode cX3_fewestStones 169 = .ok (.ireturn, 1) := by decide +kernel
theorem dX4_init_0 : decode cX4_init 0 = .ok (.aload_n 0, 1) := by decide +kernel
theorem dX4_init_1 : decode cX4_init 1 = .ok (.invokespecial 3, 3) := by decide +kernel
theorem dX4_init_4 : decode cX4_init 4 = .ok (.aload_n 0, 1) := by decide +kernel
theorem dX4_init_5 : decode cX4_init 5 = .ok (.bipush 7, 2) := by decide +kernel
theorem dX4_init_7 : decode cX4_init 7 = .ok (.newarray .int, 2) := by decide +kernel
theorem dX4_init_9 : decode cX4_init 9 = .ok (.putfield 9, 3) := by decide +kernel
theorem dX4_init_12 : decode cX4_init 12 = .ok (.aload_n 0, 1) := by decide +kernel
theorem dX4_init_13 : decode cX4_init 13 = .ok (.new 15, 3) := by decide +kernel
theorem dX4_init_16 : decode cX4_init 16 = .ok (.dup, 1) := by decide +kernel
theorem dX4_init_17 : decode cX4_init 17 = .ok (.invokespecial 17, 3) := by decide +kernel
theorem dX4_init_20 : decode cX4_init 20 = .ok (.putfield 18, 3) := by decide +kernel
theorem dX4_init_23 : decode cX4_init 23 = .ok (.aload_n 0, 1) := by decide +kernel
theorem dX4_init_24 : decode cX4_init 24 = .ok (.bipush 30, 2) := by decide +kernel
theorem dX4_init_26 : decode cX4_init 26 = .ok (.newarray .int, 2) := by decide +kernel
theorem dX4_init_28 : decode cX4_init 28 = .ok (.putfield 22, 3) := by decide +kernel
theorem dX4_init_31 : decode cX4_init 31 = .ok (.return_, 1) := by decide +kernel
theorem dX4_begin_0 : decode cX4_begin 0 = .ok (.aload_n 1, 1) := by decide +kernel
theorem dX4_begin_1 : decode cX4_begin 1 = .ok (.getfield 25, 3) := by decide +kernel
theorem dX4_begin_4 : decode cX4_begin 4 = .ok (.aload_n 0, 1) := by decide +kernel
theorem dX4_begin_5 : decode cX4_begin 5 = .ok (.getfield 9, 3) := by decide +kernel
theorem dX4_begin_8 : decode cX4_begin 8 = .ok (.invokestatic 28, 3) := by decide +kernel
theorem dX4_begin_11 : decode cX4_begin 11 = .ok (.return_, 1) := by decide +kernel
theorem dX4_bestStones_0 : decode cX4_bestStones 0 = .ok (.aload_n 0, 1) := by decide +kernel
theorem dX4_bestStones_1 : decode cX4_bestStones 1 = .ok (.getfield 9, 3) := by decide +kernel
theorem dX4_bestStones_4 : decode cX4_bestStones 4 = .ok (.iload_n 2, 1) := by decide +kernel
theorem dX4_bestStones_5 : decode cX4_bestStones 5 = .ok (.invokestatic 32, 3) := by decide +kernel
theorem dX4_bestStones_8 : decode cX4_bestStones 8 = .ok (.istore 4, 2) := by decide +kernel
theorem dX4_bestStones_10 : decode cX4_bestStones 10 = .ok (.aload_n 1, 1) := by decide +kernel
theorem dX4_bestStones_11 : decode cX4_bestStones 11 = .ok (.getfield 36, 3) := by decide +kernel
theorem dX4_bestStones_14 : decode cX4_bestStones 14 = .ok (.iload_n 2, 1) := by decide +kernel
theorem dX4_bestStones_15 : decode cX4_bestStones 15 = .ok (.invokestatic 32, 3) := by decide +kernel
theorem dX4_bestStones_18 : decode cX4_bestStones 18 = .ok (.istore 5, 2) := by decide +kernel
theorem dX4_bestStones_20 : decode cX4_bestStones 20 = .ok (.iconst 0, 1) := by decide +kernel
theorem dX4_bestStones_21 : decode cX4_bestStones 21 = .ok (.istore 6, 2) := by decide +kernel
theorem dX4_bestStones_23 : decode cX4_bestStones 23 = .ok (.iconst 0, 1) := by decide +kernel
theorem dX4_bestStones_24 : decode cX4_bestStones 24 = .ok (.istore 7, 2) := by decide +kernel
theorem dX4_bestStones_26 : decode cX4_bestStones 26 = .ok (.iconst 0, 1) := by decide +kernel
theorem dX4_bestStones_27 : decode cX4_bestStones 27 = .ok (.istore 8, 2) := by decide +kernel
theorem dX4_bestStones_29 : decode cX4_bestStones 29 = .ok (.iload 8, 2) := by decide +kernel
theorem dX4_bestStones_31 : decode cX4_bestStones 31 = .ok (.bipush 9, 2) := by decide +kernel
theorem dX4_bestStones_33 : decode cX4_bestStones 33 = .ok (.if_icmp .gt 85, 3) := by decide +kernel
theorem dX4_bestStones_36 : decode cX4_bestStones 36 = .ok (.iload 8, 2) := by decide +kernel
theorem dX4_bestStones_38 : decode cX4_bestStones 38 = .ok (.ifCond .le 18, 3) := by decide +kernel
theorem dX4_bestStones_41 : decode cX4_bestStones 41 = .ok (.iload 5, 2) := by decide +kernel
theorem dX4_bestStones_43 : decode cX4_bestStones 43 = .ok (.iload_n 3, 1) := by decide +kernel
theorem dX4_bestStones_44 : decode cX4_bestStones 44 = .ok (.iload 8, 2) := by decide +kernel
theorem dX4_bestStones_46 : decode cX4_bestStones 46 = .ok (.imul, 1) := by decide +kernel
theorem dX4_bestStones_47 : decode cX4_bestStones 47 = .ok (.isub, 1) := by decide +kernel
theorem dX4_bestStones_48 : decode cX4_bestStones 48 = .ok (.iload 7, 2) := by decide +kernel
theorem dX4_bestStones_50 : decode cX4_bestStones 50 = .ok (.if_icmp .gt 6, 3) := by decide +kernel
theorem dX4_bestStones_53 : decode cX4_bestStones 53 = .ok (.goto 65, 3) := by decide +kernel
theorem dX4_bestStones_56 : decode cX4_bestStones 56 = .ok (.aload_n 0, 1) := by decide +kernel
theorem dX4_bestStones_57 : decode cX4_bestStones 57 = .ok (.getfield 9, 3) := by decide +kernel
theorem dX4_bestStones_60 : decode cX4_bestStones 60 = .ok (.iload_n 2, 1) := by decide +kernel
theorem dX4_bestStones_61 : decode cX4_bestStones 61 = .ok (.iload 8, 2) := by decide +kernel
theorem dX4_bestStones_63 : decode cX4_bestStones 63 = .ok (.invokestatic 39, 3) := by decide +kernel
theorem dX4_bestStones_66 : decode cX4_bestStones 66 = .ok (.aload_n 0, 1) := by decide +kernel
theorem dX4_bestStones_67 : decode cX4_bestStones 67 = .ok (.getfield 18, 3) := by decide +kernel
theorem dX4_bestStones_70 : decode cX4_bestStones 70 = .ok (.aload_n 1, 1) := by decide +kernel
theorem dX4_bestStones_71 : decode cX4_bestStones 71 = .ok (.aload_n 0, 1) := by decide +kernel
theorem dX4_bestStones_72 : decode cX4_bestStones 72 = .ok (.getfield 9, 3) := by decide +kernel
theorem dX4_bestStones_75 : decode cX4_bestStones 75 = .ok (.invokevirtual 43, 3) := by decide +kernel
theorem dX4_bestStones_78 : decode cX4_bestStones 78 = .ok (.aload_n 0, 1) := by decide +kernel
theorem dX4_bestStones_79 : decode cX4_bestStones 79 = .ok (.getfield 18, 3) := by decide +kernel
theorem dX4_bestStones_82 : decode cX4_bestStones 82 = .ok (.aload_n 1, 1) := by decide +kernel
theorem dX4_bestStones_83 : decode cX4_bestStones 83 = .ok (.iload_n 2, 1) := by decide +kernel
theorem dX4_bestStones_84 : decode cX4_bestStones 84 = .ok (.iload 8, 2) := by decide +kernel
theorem dX4_bestStones_86 : decode cX4_bestStones 86 = .ok (.iload_n 3, 1) := by decide +kernel
theorem dX4_bestStones_87 : decode cX4_bestStones 87 = .ok (.invokevirtual 47, 3) := by decide +kernel
theorem dX4_bestStones_90 : decode cX4_bestStones 90 = .ok (.istore 9, 2) := by decide +kernel
theorem dX4_bestStones_92 : decode cX4_bestStones 92 = .ok (.iload 8, 2) := by decide +kernel
theorem dX4_bestStones_94 : decode cX4_bestStones 94 = .ok (.ifCond .eq 10, 3) := by decide +kernel
theorem dX4_bestStones_97 : decode cX4_bestStones 97 = .ok (.iload 9, 2) := by decide +kernel
theorem dX4_bestStones_99 : decode cX4_bestStones 99 = .ok (.iload 7, 2) := by decide +kernel
theorem dX4_bestStones_101 : decode cX4_bestStones 101 = .ok (.if_icmp .le 11, 3) := by decide +kernel
theorem dX4_bestStones_104 : decode cX4_bestStones 104 = .ok (.iload 8, 2) := by decide +kernel
theorem dX4_bestStones_106 : decode cX4_bestStones 106 = .ok (.istore 6, 2) := by decide +kernel
theorem dX4_bestStones_108 : decode cX4_bestStones 108 = .ok (.iload 9, 2) := by decide +kernel
theorem dX4_bestStones_110 : decode cX4_bestStones 110 = .ok (.istore 7, 2) := by decide +kernel
theorem dX4_bestStones_112 : decode cX4_bestStones 112 = .ok (.iinc 8 1, 3) := by decide +kernel
theorem dX4_bestStones_115 : decode cX4_bestStones 115 = .ok (.goto (-86), 3) := by decide +kernel
theorem dX4_bestStones_118 : decode cX4_bestStones 118 = .ok (.aload_n 0, 1) := by decide +kernel
theorem dX4_bestStones_119 : decode cX4_bestStones 119 = .ok (.getfield 9, 3) := by decide +kernel
theorem dX4_bestStones_122 : decode cX4_bestStones 122 = .ok (.iload_n 2, 1) := by decide +kernel
theorem dX4_bestStones_123 : decode cX4_bestStones 123 = .ok (.iload 4, 2) := by decide +kernel
theorem dX4_bestStones_125 : decode cX4_bestStones 125 = .ok (.invokestatic 39, 3) := by decide +kernel
theorem dX4_bestStones_128 : decode cX4_bestStones 128 = .ok (.iload 6, 2) := by decide +kernel
theorem dX4_bestStones_130 : decode cX4_bestStones 130 = .ok (.ireturn, 1) := by decide +kernel
theorem dX4_settle_0 : decode cX4_settle 0 = .ok (.aload_n 0, 1) := by decide +kernel
theorem dX4_settle_1 : decode cX4_settle 1 = .ok (.aload_n 1, 1) := by decide +kernel
theorem dX4_settle_2 : decode cX4_settle 2 = .ok (.invokevirtual 51, 3) := by decide +kernel
theorem dX4_settle_5 : decode cX4_settle 5 = .ok (.iconst 0, 1) := by decide +kernel
theorem dX4_settle_6 : decode cX4_settle 6 = .ok (.istore_n 3, 1) := by decide +kernel
theorem dX4_settle_7 : decode cX4_settle 7 = .ok (.iload_n 3, 1) := by decide +kernel
theorem dX4_settle_8 : decode cX4_settle 8 = .ok (.bipush 30, 2) := by decide +kernel
theorem dX4_settle_10 : decode cX4_settle 10 = .ok (.if_icmp .ge 113, 3) := by decide +kernel
theorem dX4_settle_13 : decode cX4_settle 13 = .ok (.aload_n 0, 1) := by decide +kernel
theorem dX4_settle_14 : decode cX4_settle 14 = .ok (.getfield 22, 3) := by decide +kernel
theorem dX4_settle_17 : decode cX4_settle 17 = .ok (.iload_n 3, 1) := by decide +kernel
theorem dX4_settle_18 : decode cX4_settle 18 = .ok (.aload_n 0, 1) := by decide +kernel
theorem dX4_settle_19 : decode cX4_settle 19 = .ok (.invokevirtual 55, 3) := by decide +kernel
theorem dX4_settle_22 : decode cX4_settle 22 = .ok (.invokestatic 39, 3) := by decide +kernel
theorem dX4_settle_25 : decode cX4_settle 25 = .ok (.iconst 0, 1) := by decide +kernel
theorem dX4_settle_26 : decode cX4_settle 26 = .ok (.istore 4, 2) := by decide +kernel
theorem dX4_settle_28 : decode cX4_settle 28 = .ok (.iconst 0, 1) := by decide +kernel
theorem dX4_settle_29 : decode cX4_settle 29 = .ok (.istore 5, 2) := by decide +kernel
theorem dX4_settle_31 : decode cX4_settle 31 = .ok (.iload 5, 2) := by decide +kernel
theorem dX4_settle_33 : decode cX4_settle 33 = .ok (.aload_n 1, 1) := by decide +kernel
theorem dX4_settle_34 : decode cX4_settle 34 = .ok (.getfield 59, 3) := by decide +kernel
theorem dX4_settle_37 : decode cX4_settle 37 = .ok (.if_icmp .ge 56, 3) := by decide +kernel
theorem dX4_settle_40 : decode cX4_settle 40 = .ok (.aload_n 0, 1) := by decide +kernel
theorem dX4_settle_41 : decode cX4_settle 41 = .ok (.aload_n 1, 1) := by decide +kernel
theorem dX4_settle_42 : decode cX4_settle 42 = .ok (.iload 5, 2) := by decide +kernel
theorem dX4_settle_44 : decode cX4_settle 44 = .ok (.iload_n 2, 1) := by decide +kernel
theorem dX4_settle_45 : decode cX4_settle 45 = .ok (.invokevirtual 63, 3) := by decide +kernel
theorem dX4_settle_48 : decode cX4_settle 48 = .ok (.istore 6, 2) := by decide +kernel
theorem dX4_settle_50 : decode cX4_settle 50 = .ok (.iload 4, 2) := by decide +kernel
theorem dX4_settle_52 : decode cX4_settle 52 = .ok (.ifCond .ne 17, 3) := by decide +kernel
theorem dX4_settle_55 : decode cX4_settle 55 = .ok (.iload 6, 2) := by decide +kernel
theorem dX4_settle_57 : decode cX4_settle 57 = .ok (.aload_n 0, 1) := by decide +kernel
theorem dX4_settle_58 : decode cX4_settle 58 = .ok (.getfield 9, 3) := by decide +kernel
theorem dX4_settle_61 : decode cX4_settle 61 = .ok (.iload 5, 2) := by decide +kernel
theorem dX4_settle_63 : decode cX4_settle 63 = .ok (.invokestatic 32, 3) := by decide +kernel
theorem dX4_settle_66 : decode cX4_settle 66 = .ok (.if_icmp .eq 7, 3) := by decide +kernel
theorem dX4_settle_69 : decode cX4_settle 69 = .ok (.iconst 1, 1) := by decide +kernel
theorem dX4_settle_70 : decode cX4_settle 70 = .ok (.goto 4, 3) := by decide +kernel
theorem dX4_settle_73 : decode cX4_settle 73 = .ok (.iconst 0, 1) := by decide +kernel
theorem dX4_settle_74 : decode cX4_settle 74 = .ok (.istore 4, 2) := by decide +kernel
theorem dX4_settle_76 : decode cX4_settle 76 = .ok (.aload_n 0, 1) := by decide +kernel
theorem dX4_settle_77 : decode cX4_settle 77 = .ok (.getfield 9, 3) := by decide +kernel
theorem dX4_settle_80 : decode cX4_settle 80 = .ok (.iload 5, 2) := by decide +kernel
theorem dX4_settle_82 : decode cX4_settle 82 = .ok (.iload 6, 2) := by decide +kernel
theorem dX4_settle_84 : decode cX4_settle 84 = .ok (.invokestatic 39, 3) := by decide +kernel
theorem dX4_settle_87 : decode cX4_settle 87 = .ok (.iinc 5 1, 3) := by decide +kernel
theorem dX4_settle_90 : decode cX4_settle 90 = .ok (.goto (-59), 3) := by decide +kernel
theorem dX4_settle_93 : decode cX4_settle 93 = .ok (.iload 4, 2) := by decide +kernel
theorem dX4_settle_95 : decode cX4_settle 95 = .ok (.ifCond .ne 10, 3) := by decide +kernel
theorem dX4_settle_98 : decode cX4_settle 98 = .ok (.aload_n 0, 1) := by decide +kernel
theorem dX4_settle_99 : decode cX4_settle 99 = .ok (.iload_n 3, 1) := by decide +kernel
theorem dX4_settle_100 : decode cX4_settle 100 = .ok (.putfield 67, 3) := by decide +kernel
theorem dX4_settle_103 : decode cX4_settle 103 = .ok (.iconst 1, 1) := by decide +kernel
theorem dX4_settle_104 : decode cX4_settle 104 = .ok (.ireturn, 1) := by decide +kernel
theorem dX4_settle_105 : decode cX4_settle 105 = .ok (.aload_n 0, 1) := by decide +kernel
theorem dX4_settle_106 : decode cX4_settle 106 = .ok (.iload_n 3, 1) := by decide +kernel
theorem dX4_settle_107 : decode cX4_settle 107 = .ok (.iconst 1, 1) := by decide +kernel
theorem dX4_settle_108 : decode cX4_settle 108 = .ok (.iadd, 1) := by decide +kernel
theorem dX4_settle_109 : decode cX4_settle 109 = .ok (.invokevirtual 70, 3) := by decide +kernel
theorem dX4_settle_112 : decode cX4_settle 112 = .ok (.ifCond .eq 5, 3) := by decide +kernel
theorem dX4_settle_115 : decode cX4_settle 115 = .ok (.iconst 0, 1) := by decide +kernel
theorem dX4_settle_116 : decode cX4_settle 116 = .ok (.ireturn, 1) := by decide +kernel
theorem dX4_settle_117 : decode cX4_settle 117 = .ok (.iinc 3 1, 3) := by decide +kernel
theorem dX4_settle_120 : decode cX4_settle 120 = .ok (.goto (-113), 3) := by decide +kernel
theorem dX4_settle_123 : decode cX4_settle 123 = .ok (.iconst 0, 1) := by decide +kernel
theorem dX4_settle_124 : decode cX4_settle 124 = .ok (.ireturn, 1) := by decide +kernel
theorem dX4_wasSeen_0 : decode cX4_wasSeen 0 = .ok (.aload_n 0, 1) := by decide +kernel
theorem dX4_wasSeen_1 : decode cX4_wasSeen 1 = .ok (.invokevirtual 55, 3) := by decide +kernel
theorem dX4_wasSeen_4 : decode cX4_wasSeen 4 = .ok (.istore_n 2, 1) := by decide +kernel
theorem dX4_wasSeen_5 : decode cX4_wasSeen 5 = .ok (.iconst 0, 1) := by decide +kernel
theorem dX4_wasSeen_6 : decode cX4_wasSeen 6 = .ok (.istore_n 3, 1) := by decide +kernel
theorem dX4_wasSeen_7 : decode cX4_wasSeen 7 = .ok (.iload_n 3, 1) := by decide +kernel
theorem dX4_wasSeen_8 : decode cX4_wasSeen 8 = .ok (.iload_n 1, 1) := by decide +kernel
theorem dX4_wasSeen_9 : decode cX4_wasSeen 9 = .ok (.if_icmp .ge 23, 3) := by decide +kernel
theorem dX4_wasSeen_12 : decode cX4_wasSeen 12 = .ok (.aload_n 0, 1) := by decide +kernel
theorem dX4_wasSeen_13 : decode cX4_wasSeen 13 = .ok (.getfield 22, 3) := by decide +kernel
theorem dX4_wasSeen_16 : decode cX4_wasSeen 16 = .ok (.iload_n 3, 1) := by decide +kernel
theorem dX4_wasSeen_17 : decode cX4_wasSeen 17 = .ok (.invokestatic 32, 3) := by decide +kernel
theorem dX4_wasSeen_20 : decode cX4_wasSeen 20 = .ok (.iload_n 2, 1) := by decide +kernel
theorem dX4_wasSeen_21 : decode cX4_wasSeen 21 = .ok (.if_icmp .ne 5, 3) := by decide +kernel
theorem dX4_wasSeen_24 : decode cX4_wasSeen 24 = .ok (.iconst 1, 1) := by decide +kernel
theorem dX4_wasSeen_25 : decode cX4_wasSeen 25 = .ok (.ireturn, 1) := by decide +kernel
theorem dX4_wasSeen_26 : decode cX4_wasSeen 26 = .ok (.iinc 3 1, 3) := by decide +kernel
theorem dX4_wasSeen_29 : decode cX4_wasSeen 29 = .ok (.goto (-22), 3) := by decide +kernel
theorem dX4_wasSeen_32 : decode cX4_wasSeen 32 = .ok (.iconst 0, 1) := by decide +kernel
theorem dX4_wasSeen_33 : decode cX4_wasSeen 33 = .ok (.ireturn, 1) := by decide +kernel
theorem dX4_packed_0 : decode cX4_packed 0 = .ok (.iconst 0, 1) := by decide +kernel
theorem dX4_packed_1 : decode cX4_packed 1 = .ok (.istore_n 1, 1) := by decide +kernel
theorem dX4_packed_2 : decode cX4_packed 2 = .ok (.iconst 0, 1) := by decide +kernel
theorem dX4_packed_3 : decode cX4_packed 3 = .ok (.istore_n 2, 1) := by decide +kernel
theorem dX4_packed_4 : decode cX4_packed 4 = .ok (.iload_n 2, 1) := by decide +kernel
theorem dX4_packed_5 : decode cX4_packed 5 = .ok (.bipush 7, 2) := by decide +kernel
theorem dX4_packed_7 : decode cX4_packed 7 = .ok (.if_icmp .ge 23, 3) := by decide +kernel
theorem dX4_packed_10 : decode cX4_packed 10 = .ok (.iload_n 1, 1) := by decide +kernel
theorem dX4_packed_11 : decode cX4_packed 11 = .ok (.bipush 10, 2) := by decide +kernel
theorem dX4_packed_13 : decode cX4_packed 13 = .ok (.imul, 1) := by decide +kernel
theorem dX4_packed_14 : decode cX4_packed 14 = .ok (.aload_n 0, 1) := by decide +kernel
theorem dX4_packed_15 : decode cX4_packed 15 = .ok (.getfield 9, 3) := by decide +kernel
theorem dX4_packed_18 : decode cX4_packed 18 = .ok (.iload_n 2, 1) := by decide +kernel
theorem dX4_packed_19 : decode cX4_packed 19 = .ok (.invokestatic 32, 3) := by decide +kernel
theorem dX4_packed_22 : decode cX4_packed 22 = .ok (.iadd, 1) := by decide +kernel
theorem dX4_packed_23 : decode cX4_packed 23 = .ok (.istore_n 1, 1) := by decide +kernel
theorem dX4_packed_24 : decode cX4_packed 24 = .ok (.iinc 2 1, 3) := by decide +kernel
theorem dX4_packed_27 : decode cX4_packed 27 = .ok (.goto (-23), 3) := by decide +kernel
theorem dX4_packed_30 : decode cX4_packed 30 = .ok (.iload_n 1, 1) := by decide +kernel
theorem dX4_packed_31 : decode cX4_packed 31 = .ok (.ireturn, 1) := by decide +kernel
theorem dX5_init_0 : decode cX5_init 0 = .ok (.aload_n 0, 1) := by decide +kernel
theorem dX5_init_1 : decode cX5_init 1 = .ok (.invokespecial 3, 3) := by decide +kernel
theorem dX5_init_4 : decode cX5_init 4 = .ok (.aload_n 0, 1) := by decide +kernel
theorem dX5_init_5 : decode cX5_init 5 = .ok (.bipush 7, 2) := by decide +kernel
theorem dX5_init_7 : decode cX5_init 7 = .ok (.newarray .int, 2) := by decide +kernel
theorem dX5_init_9 : decode cX5_init 9 = .ok (.putfield 9, 3) := by decide +kernel
theorem dX5_init_12 : decode cX5_init 12 = .ok (.aload_n 0, 1) := by decide +kernel
theorem dX5_init_13 : decode cX5_init 13 = .ok (.bipush 7, 2) := by decide +kernel
theorem dX5_init_15 : decode cX5_init 15 = .ok (.newarray .int, 2) := by decide +kernel
theorem dX5_init_17 : decode cX5_init 17 = .ok (.putfield 15, 3) := by decide +kernel
theorem dX5_init_20 : decode cX5_init 20 = .ok (.aload_n 0, 1) := by decide +kernel
theorem dX5_init_21 : decode cX5_init 21 = .ok (.bipush 7, 2) := by decide +kernel
theorem dX5_init_23 : decode cX5_init 23 = .ok (.newarray .int, 2) := by decide +kernel
theorem dX5_init_25 : decode cX5_init 25 = .ok (.putfield 18, 3) := by decide +kernel
theorem dX5_init_28 : decode cX5_init 28 = .ok (.aload_n 0, 1) := by decide +kernel
theorem dX5_init_29 : decode cX5_init 29 = .ok (.bipush 7, 2) := by decide +kernel
theorem dX5_init_31 : decode cX5_init 31 = .ok (.newarray .int, 2) := by decide +kernel
theorem dX5_init_33 : decode cX5_init 33 = .ok (.putfield 21, 3) := by decide +kernel
theorem dX5_init_36 : decode cX5_init 36 = .ok (.aload_n 0, 1) := by decide +kernel
theorem dX5_init_37 : decode cX5_init 37 = .ok (.bipush 7, 2) := by decide +kernel
theorem dX5_init_39 : decode cX5_init 39 = .ok (.newarray .int, 2) := by decide +kernel
theorem dX5_init_41 : decode cX5_init 41 = .ok (.putfield 24, 3) := by decide +kernel
theorem dX5_init_44 : decode cX5_init 44 = .ok (.aload_n 0, 1) := by decide +kernel
theorem dX5_init_45 : decode cX5_init 45 = .ok (.bipush 7, 2) := by decide +kernel
theorem dX5_init_47 : decode cX5_init 47 = .ok (.newarray .int, 2) := by decide +kernel
theorem dX5_init_49 : decode cX5_init 49 = .ok (.putfield 27, 3) := by decide +kernel
theorem dX5_init_52 : decode cX5_init 52 = .ok (.aload_n 0, 1) := by decide +kernel
theorem dX5_init_53 : decode cX5_init 53 = .ok (.bipush 7, 2) := by decide +kernel
theorem dX5_init_55 : decode cX5_init 55 = .ok (.newarray .int, 2) := by decide +kernel
theorem dX5_init_57 : decode cX5_init 57 = .ok (.putfield 30, 3) := by decide +kernel
theorem dX5_init_60 : decode cX5_init 60 = .ok (.aload_n 0, 1) := by decide +kernel
theorem dX5_init_61 : decode cX5_init 61 = .ok (.iconst 1, 1) := by decide +kernel
theorem dX5_init_62 : decode cX5_init 62 = .ok (.putfield 33, 3) := by decide +kernel
theorem dX5_init_65 : decode cX5_init 65 = .ok (.aload_n 0, 1) := by decide +kernel
theorem dX5_init_66 : decode cX5_init 66 = .ok (.iconst 0, 1) := by decide +kernel
theorem dX5_init_67 : decode cX5_init 67 = .ok (.putfield 37, 3) := by decide +kernel
theorem dX5_init_70 : decode cX5_init 70 = .ok (.return_, 1) := by decide +kernel
theorem dX5_hasPlace_0 : decode cX5_hasPlace 0 = .ok (.iload_n 1, 1) := by decide +kernel
theorem dX5_hasPlace_1 : decode cX5_hasPlace 1 = .ok (.ifCond .lt 15, 3) := by decide +kernel
theorem dX5_hasPlace_4 : decode cX5_hasPlace 4 = .ok (.iload_n 1, 1) := by decide +kernel
theorem dX5_hasPlace_5 : decode cX5_hasPlace 5 = .ok (.aload_n 0, 1) := by decide +kernel
theorem dX5_hasPlace_6 : decode cX5_hasPlace 6 = .ok (.getfield 40, 3) := by decide +kernel
theorem dX5_hasPlace_9 : decode cX5_hasPlace 9 = .ok (.if_icmp .ge 7, 3) := by decide +kernel
theorem dX5_hasPlace_12 : decode cX5_hasPlace 12 = .ok (.iconst 1, 1) := by decide +kernel
theorem dX5_hasPlace_13 : decode cX5_hasPlace 13 = .ok (.goto 4, 3) := by decide +kernel
theorem dX5_hasPlace_16 : decode cX5_hasPlace 16 = .ok (.iconst 0, 1) := by decide +kernel
theorem dX5_hasPlace_17 : decode cX5_hasPlace 17 = .ok (.ireturn, 1) := by decide +kernel
theorem dX5_hasLetter_0 : decode cX5_hasLetter 0 = .ok (.iload_n 1, 1) := by decide +kernel
theorem dX5_hasLetter_1 : decode cX5_hasLetter 1 = .ok (.ifCond .lt 15, 3) := by decide +kernel
theorem dX5_hasLetter_4 : decode cX5_hasLetter 4 = .ok (.iload_n 1, 1) := by decide +kernel
theorem dX5_hasLetter_5 : decode cX5_hasLetter 5 = .ok (.aload_n 0, 1) := by decide +kernel
theorem dX5_hasLetter_6 : decode cX5_hasLetter 6 = .ok (.getfield 43, 3) := by decide +kernel
theorem dX5_hasLetter_9 : decode cX5_hasLetter 9 = .ok (.if_icmp .ge 7, 3) := by decide +kernel
theorem dX5_hasLetter_12 : decode cX5_hasLetter 12 = .ok (.iconst 1, 1) := by decide +kernel
theorem dX5_hasLetter_13 : decode cX5_hasLetter 13 = .ok (.goto 4, 3) := by decide +kernel
theorem dX5_hasLetter_16 : decode cX5_hasLetter 16 = .ok (.iconst 0, 1) := by decide +kernel
theorem dX5_hasLetter_17 : decode cX5_hasLetter 17 = .ok (.ireturn, 1) := by decide +kernel
theorem dX5_apart_0 : decode cX5_apart 0 = .ok (.aload_n 0, 1) := by decide +kernel
theorem dX5_apart_1 : decode cX5_apart 1 = .ok (.getfield 9, 3) := by decide +kernel
theorem dX5_apart_4 : decode cX5_apart 4 = .ok (.iload_n 1, 1) := by decide +kernel
theorem dX5_apart_5 : decode cX5_apart 5 = .ok (.invokestatic 46, 3) := by decide +kernel
theorem dX5_apart_8 : decode cX5_apart 8 = .ok (.aload_n 0, 1) := by decide +kernel
theorem dX5_apart_9 : decode cX5_apart 9 = .ok (.getfield 9, 3) := by decide +kernel
theorem dX5_apart_12 : decode cX5_apart 12 = .ok (.iload_n 2, 1) := by decide +kernel
theorem dX5_apart_13 : decode cX5_apart 13 = .ok (.invokestatic 46, 3) := by decide +kernel
theorem dX5_apart_16 : decode cX5_apart 16 = .ok (.isub, 1) := by decide +kernel
theorem dX5_apart_17 : decode cX5_apart 17 = .ok (.invokestatic 50, 3) := by decide +kernel
theorem dX5_apart_20 : decode cX5_apart 20 = .ok (.aload_n 0, 1) := by decide +kernel
theorem dX5_apart_21 : decode cX5_apart 21 = .ok (.getfield 15, 3) := by decide +kernel
theorem dX5_apart_24 : decode cX5_apart 24 = .ok (.iload_n 1, 1) := by decide +kernel
theorem dX5_apart_25 : decode cX5_apart 25 = .ok (.invokestatic 46, 3) := by decide +kernel
theorem dX5_apart_28 : decode cX5_apart 28 = .ok (.aload_n 0, 1) := by decide +kernel
theorem dX5_apart_29 : decode cX5_apart 29 = .ok (.getfield 15, 3) := by decide +kernel
theorem dX5_apart_32 : decode cX5_apart 32 = .ok (.iload_n 2, 1) := by decide +kernel
theorem dX5_apart_33 : decode cX5_apart 33 = .ok (.invokestatic 46, 3) := by decide +kernel
theorem dX5_apart_36 : decode cX5_apart 36 = .ok (.isub, 1) := by decide +kernel
theorem dX5_apart_37 : decode cX5_apart 37 = .ok (.invokestatic 50, 3) := by decide +kernel
theorem dX5_apart_40 : decode cX5_apart 40 = .ok (.iadd, 1) := by decide +kernel
theorem dX5_apart_41 : decode cX5_apart 41 = .ok (.ireturn, 1) := by decide +kernel
theorem dX5_addPlace_0 : decode cX5_addPlace 0 = .ok (.aload_n 0, 1) := by decide +kernel
theorem dX5_addPlace_1 : decode cX5_addPlace 1 = .ok (.getfield 9, 3) := by decide +kernel
theorem dX5_addPlace_4 : decode cX5_addPlace 4 = .ok (.aload_n 0, 1) := by decide +kernel
theorem dX5_addPlace_5 : decode cX5_addPlace 5 = .ok (.getfield 40, 3) := by decide +kernel
theorem dX5_addPlace_8 : decode cX5_addPlace 8 = .ok (.iload_n 1, 1) := by decide +kernel
theorem dX5_addPlace_9 : decode cX5_addPlace 9 = .ok (.invokestatic 56, 3) := by decide +kernel
theorem dX5_addPlace_12 : decode cX5_addPlace 12 = .ok (.aload_n 0, 1) := by decide +kernel
theorem dX5_addPlace_13 : decode cX5_addPlace 13 = .ok (.getfield 15, 3) := by decide +kernel
theorem dX5_addPlace_16 : decode cX5_addPlace 16 = .ok (.aload_n 0, 1) := by decide +kernel
theorem dX5_addPlace_17 : decode cX5_addPlace 17 = .ok (.getfield 40, 3) := by decide +kernel
theorem dX5_addPlace_20 : decode cX5_addPlace 20 = .ok (.iload_n 2, 1) := by decide +kernel
theorem dX5_addPlace_21 : decode cX5_addPlace 21 = .ok (.invokestatic 56, 3) := by decide +kernel
theorem dX5_addPlace_24 : decode cX5_addPlace 24 = .ok (.aload_n 0, 1) := by decide +kernel
theorem dX5_addPlace_25 : decode cX5_addPlace 25 = .ok (.dup, 1) := by decide +kernel
theorem dX5_addPlace_26 : decode cX5_addPlace 26 = .ok (.getfield 40, 3) := by decide +kernel
theorem dX5_addPlace_29 : decode cX5_addPlace 29 = .ok (.iconst 1, 1) := by decide +kernel
theorem dX5_addPlace_30 : decode cX5_addPlace 30 = .ok (.iadd, 1) := by decide +kernel
theorem dX5_addPlace_31 : decode cX5_addPlace 31 = .ok (.putfield 40, 3) := by decide +kernel
theorem dX5_addPlace_34 : decode cX5_addPlace 34 = .ok (.return_, 1) := by decide +kernel
theorem dX5_addLetter_0 : decode cX5_addLetter 0 = .ok (.aload_n 0, 1) := by decide +kernel
theorem dX5_addLetter_1 : decode cX5_addLetter 1 = .ok (.getfield 18, 3) := by decide +kernel
theorem dX5_addLetter_4 : decode cX5_addLetter 4 = .ok (.aload_n 0, 1) := by decide +kernel
theorem dX5_addLetter_5 : decode cX5_addLetter 5 = .ok (.getfield 43, 3) := by decide +kernel
theorem dX5_addLetter_8 : decode cX5_addLetter 8 = .ok (.iload_n 1, 1) := by decide +kernel
theorem dX5_addLetter_9 : decode cX5_addLetter 9 = .ok (.invokestatic 56, 3) := by decide +kernel
theorem dX5_addLetter_12 : decode cX5_addLetter 12 = .ok (.aload_n 0, 1) := by decide +kernel
theorem dX5_addLetter_13 : decode cX5_addLetter 13 = .ok (.getfield 21, 3) := by decide +kernel
theorem dX5_addLetter_16 : decode cX5_addLetter 16 = .ok (.aload_n 0, 1) := by decide +kernel
theorem dX5_addLetter_17 : decode cX5_addLetter 17 = .ok (.getfield 43, 3) := by decide +kernel
theorem dX5_addLetter_20 : decode cX5_addLetter 20 = .ok (.iload_n 2, 1) := by decide +kernel
theorem dX5_addLetter_21 : decode cX5_addLetter 21 = .ok (.invokestatic 56, 3) := by decide +kernel
theorem dX5_addLetter_24 : decode cX5_addLetter 24 = .ok (.aload_n 0, 1) := by decide +kernel
theorem dX5_addLetter_25 : decode cX5_addLetter 25 = .ok (.getfield 24, 3) := by decide +kernel
theorem dX5_addLetter_28 : decode cX5_addLetter 28 = .ok (.aload_n 0, 1) := by decide +kernel
theorem dX5_addLetter_29 : decode cX5_addLetter 29 = .ok (.getfield 43, 3) := by decide +kernel
theorem dX5_addLetter_32 : decode cX5_addLetter 32 = .ok (.iload_n 3, 1) := by decide +kernel
theorem dX5_addLetter_33 : decode cX5_addLetter 33 = .ok (.invokestatic 56, 3) := by decide +kernel
theorem dX5_addLetter_36 : decode cX5_addLetter 36 = .ok (.aload_n 0, 1) := by decide +kernel
theorem dX5_addLetter_37 : decode cX5_addLetter 37 = .ok (.getfield 27, 3) := by decide +kernel
theorem dX5_addLetter_40 : decode cX5_addLetter 40 = .ok (.aload_n 0, 1) := by decide +kernel
theorem dX5_addLetter_41 : decode cX5_addLetter 41 = .ok (.getfield 43, 3) := by decide +kernel
theorem dX5_addLetter_44 : decode cX5_addLetter 44 = .ok (.iload 4, 2) := by decide +kernel
theorem dX5_addLetter_46 : decode cX5_addLetter 46 = .ok (.invokestatic 56, 3) := by decide +kernel
theorem dX5_addLetter_49 : decode cX5_addLetter 49 = .ok (.aload_n 0, 1) := by decide +kernel
theorem dX5_addLetter_50 : decode cX5_addLetter 50 = .ok (.getfield 30, 3) := by decide +kernel
theorem dX5_addLetter_53 : decode cX5_addLetter 53 = .ok (.aload_n 0, 1) := by decide +kernel
theorem dX5_addLetter_54 : decode cX5_addLetter 54 = .ok (.getfield 43, 3) := by decide +kernel
theorem dX5_addLetter_57 : decode cX5_addLetter 57 = .ok (.iconst 0, 1) := by decide +kernel
theorem dX5_addLetter_58 : decode cX5_addLetter 58 = .ok (.invokestatic 56, 3) := by decide +kernel
theorem dX5_addLetter_61 : decode cX5_addLetter 61 = .ok (.aload_n 0, 1) := by decide +kernel
theorem dX5_addLetter_62 : decode cX5_addLetter 62 = .ok (.dup, 1) := by decide +kernel
theorem dX5_addLetter_63 : decode cX5_addLetter 63 = .ok (.getfield 43, 3) := by decide +kernel
theorem dX5_addLetter_66 : decode cX5_addLetter 66 = .ok (.iconst 1, 1) := by decide +kernel
theorem dX5_addLetter_67 : decode cX5_addLetter 67 = .ok (.iadd, 1) := by decide +kernel
theorem dX5_addLetter_68 : decode cX5_addLetter 68 = .ok (.putfield 43, 3) := by decide +kernel
theorem dX5_addLetter_71 : decode cX5_addLetter 71 = .ok (.return_, 1) := by decide +kernel
theorem dX5_becomeTold_0 : decode cX5_becomeTold 0 = .ok (.aload_n 1, 1) := by decide +kernel
theorem dX5_becomeTold_1 : decode cX5_becomeTold 1 = .ok (.getfield 9, 3) := by decide +kernel
theorem dX5_becomeTold_4 : decode cX5_becomeTold 4 = .ok (.aload_n 0, 1) := by decide +kernel
theorem dX5_becomeTold_5 : decode cX5_becomeTold 5 = .ok (.getfield 9, 3) := by decide +kernel
theorem dX5_becomeTold_8 : decode cX5_becomeTold 8 = .ok (.invokestatic 60, 3) := by decide +kernel
theorem dX5_becomeTold_11 : decode cX5_becomeTold 11 = .ok (.aload_n 1, 1) := by decide +kernel
theorem dX5_becomeTold_12 : decode cX5_becomeTold 12 = .ok (.getfield 15, 3) := by decide +kernel
theorem dX5_becomeTold_15 : decode cX5_becomeTold 15 = .ok (.aload_n 0, 1) := by decide +kernel
theorem dX5_becomeTold_16 : decode cX5_becomeTold 16 = .ok (.getfield 15, 3) := by decide +kernel
theorem dX5_becomeTold_19 : decode cX5_becomeTold 19 = .ok (.invokestatic 60, 3) := by decide +kernel
theorem dX5_becomeTold_22 : decode cX5_becomeTold 22 = .ok (.aload_n 1, 1) := by decide +kernel
theorem dX5_becomeTold_23 : decode cX5_becomeTold 23 = .ok (.getfield 18, 3) := by decide +kernel
theorem dX5_becomeTold_26 : decode cX5_becomeTold 26 = .ok (.aload_n 0, 1) := by decide +kernel
theorem dX5_becomeTold_27 : decode cX5_becomeTold 27 = .ok (.getfield 18, 3) := by decide +kernel
theorem dX5_becomeTold_30 : decode cX5_becomeTold 30 = .ok (.invokestatic 60, 3) := by decide +kernel
theorem dX5_becomeTold_33 : decode cX5_becomeTold 33 = .ok (.aload_n 1, 1) := by decide +kernel
theorem dX5_becomeTold_34 : decode cX5_becomeTold 34 = .ok (.getfield 21, 3) := by decide +kernel
theorem dX5_becomeTold_37 : decode cX5_becomeTold 37 = .ok (.aload_n 0, 1) := by decide +kernel
theorem dX5_becomeTold_38 : decode cX5_becomeTold 38 = .ok (.getfield 21, 3) := by decide +kernel
theorem dX5_becomeTold_41 : decode cX5_becomeTold 41 = .ok (.invokestatic 60, 3) := by decide +kernel
theorem dX5_becomeTold_44 : decode cX5_becomeTold 44 = .ok (.aload_n 1, 1) := by decide +kernel
theorem dX5_becomeTold_45 : decode cX5_becomeTold 45 = .ok (.getfield 24, 3) := by decide +kernel
theorem dX5_becomeTold_48 : decode cX5_becomeTold 48 = .ok (.aload_n 0, 1) := by decide +kernel
theorem dX5_becomeTold_49 : decode cX5_becomeTold 49 = .ok (.getfield 24, 3) := by decide +kernel
theorem dX5_becomeTold_52 : decode cX5_becomeTold 52 = .ok (.invokestatic 60, 3) := by decide +kernel
theorem dX5_becomeTold_55 : decode cX5_becomeTold 55 = .ok (.aload_n 1, 1) := by decide +kernel
theorem dX5_becomeTold_56 : decode cX5_becomeTold 56 = .ok (.getfield 27, 3) := by decide +kernel
theorem dX5_becomeTold_59 : decode cX5_becomeTold 59 = .ok (.aload_n 0, 1) := by decide +kernel
theorem dX5_becomeTold_60 : decode cX5_becomeTold 60 = .ok (.getfield 27, 3) := by decide +kernel
theorem dX5_becomeTold_63 : decode cX5_becomeTold 63 = .ok (.invokestatic 60, 3) := by decide +kernel
theorem dX5_becomeTold_66 : decode cX5_becomeTold 66 = .ok (.aload_n 1, 1) := by decide +kernel
theorem dX5_becomeTold_67 : decode cX5_becomeTold 67 = .ok (.getfield 30, 3) := by decide +kernel
theorem dX5_becomeTold_70 : decode cX5_becomeTold 70 = .ok (.aload_n 0, 1) := by decide +kernel
theorem dX5_becomeTold_71 : decode cX5_becomeTold 71 = .ok (.getfield 30, 3) := by decide +kernel
theorem dX5_becomeTold_74 : decode cX5_becomeTold 74 = .ok (.invokestatic 60, 3) := by decide +kernel
theorem dX5_becomeTold_77 : decode cX5_becomeTold 77 = .ok (.aload_n 0, 1) := by decide +kernel
theorem dX5_becomeTold_78 : decode cX5_becomeTold 78 = .ok (.aload_n 1, 1) := by decide +kernel
theorem dX5_becomeTold_79 : decode cX5_becomeTold 79 = .ok (.getfield 40, 3) := by decide +kernel
theorem dX5_becomeTold_82 : decode cX5_becomeTold 82 = .ok (.putfield 40, 3) := by decide +kernel
theorem dX5_becomeTold_85 : decode cX5_becomeTold 85 = .ok (.aload_n 0, 1) := by decide +kernel
theorem dX5_becomeTold_86 : decode cX5_becomeTold 86 = .ok (.aload_n 1, 1) := by decide +kernel
theorem dX5_becomeTold_87 : decode cX5_becomeTold 87 = .ok (.getfield 43, 3) := by decide +kernel
theorem dX5_becomeTold_90 : decode cX5_becomeTold 90 = .ok (.putfield 43, 3) := by decide +kernel
theorem dX5_becomeTold_93 : decode cX5_becomeTold 93 = .ok (.aload_n 0, 1) := by decide +kernel
theorem dX5_becomeTold_94 : decode cX5_becomeTold 94 = .ok (.aload_n 1, 1) := by decide +kernel
theorem dX5_becomeTold_95 : decode cX5_becomeTold 95 = .ok (.getfield 33, 3) := by decide +kernel
theorem dX5_becomeTold_98 : decode cX5_becomeTold 98 = .ok (.putfield 33, 3) := by decide +kernel
theorem dX5_becomeTold_101 : decode cX5_becomeTold 101 = .ok (.return_, 1) := by decide +kernel
theorem dX5_drawLetters_0 : decode cX5_drawLetters 0 = .ok (.iconst 0, 1) := by decide +kernel
theorem dX5_drawLetters_1 : decode cX5_drawLetters 1 = .ok (.istore_n 1, 1) := by decide +kernel
theorem dX5_drawLetters_2 : decode cX5_drawLetters 2 = .ok (.iload_n 1, 1) := by decide +kernel
theorem dX5_drawLetters_3 : decode cX5_drawLetters 3 = .ok (.aload_n 0, 1) := by decide +kernel
theorem dX5_drawLetters_4 : decode cX5_drawLetters 4 = .ok (.getfield 43, 3) := by decide +kernel
theorem dX5_drawLetters_7 : decode cX5_drawLetters 7 = .ok (.if_icmp .ge 50, 3) := by decide +kernel
theorem dX5_drawLetters_10 : decode cX5_drawLetters 10 = .ok (.aload_n 0, 1) := by decide +kernel
theorem dX5_drawLetters_11 : decode cX5_drawLetters 11 = .ok (.getfield 21, 3) := by decide +kernel
theorem dX5_drawLetters_14 : decode cX5_drawLetters 14 = .ok (.iload_n 1, 1) := by decide +kernel
theorem dX5_drawLetters_15 : decode cX5_drawLetters 15 = .ok (.aload_n 0, 1) := by decide +kernel
theorem dX5_drawLetters_16 : decode cX5_drawLetters 16 = .ok (.bipush 99, 2) := by decide +kernel
theorem dX5_drawLetters_18 : decode cX5_drawLetters 18 = .ok (.invokevirtual 64, 3) := by decide +kernel
theorem dX5_drawLetters_21 : decode cX5_drawLetters 21 = .ok (.iconst 1, 1) := by decide +kernel
theorem dX5_drawLetters_22 : decode cX5_drawLetters 22 = .ok (.iadd, 1) := by decide +kernel
theorem dX5_drawLetters_23 : decode cX5_drawLetters 23 = .ok (.invokestatic 56, 3) := by decide +kernel
theorem dX5_drawLetters_26 : decode cX5_drawLetters 26 = .ok (.aload_n 0, 1) := by decide +kernel
theorem dX5_drawLetters_27 : decode cX5_drawLetters 27 = .ok (.getfield 18, 3) := by decide +kernel
theorem dX5_drawLetters_30 : decode cX5_drawLetters 30 = .ok (.iload_n 1, 1) := by decide +kernel
theorem dX5_drawLetters_31 : decode cX5_drawLetters 31 = .ok (.aload_n 0, 1) := by decide +kernel
theorem dX5_drawLetters_32 : decode cX5_drawLetters 32 = .ok (.aload_n 0, 1) := by decide +kernel
theorem dX5_drawLetters_33 : decode cX5_drawLetters 33 = .ok (.getfield 40, 3) := by decide +kernel
theorem dX5_drawLetters_36 : decode cX5_drawLetters 36 = .ok (.invokevirtual 64, 3) := by decide +kernel
theorem dX5_drawLetters_39 : decode cX5_drawLetters 39 = .ok (.invokestatic 56, 3) := by decide +kernel
theorem dX5_drawLetters_42 : decode cX5_drawLetters 42 = .ok (.aload_n 0, 1) := by decide +kernel
theorem dX5_drawLetters_43 : decode cX5_drawLetters 43 = .ok (.getfield 30, 3) := by decide +kernel
theorem dX5_drawLetters_46 : decode cX5_drawLetters 46 = .ok (.iload_n 1, 1) := by decide +kernel
theorem dX5_drawLetters_47 : decode cX5_drawLetters 47 = .ok (.iconst 0, 1) := by decide +kernel
theorem dX5_drawLetters_48 : decode cX5_drawLetters 48 = .ok (.invokestatic 56, 3) := by decide +kernel
theorem dX5_drawLetters_51 : decode cX5_drawLetters 51 = .ok (.iinc 1 1, 3) := by decide +kernel
theorem dX5_drawLetters_54 : decode cX5_drawLetters 54 = .ok (.goto (-52), 3) := by decide +kernel
theorem dX5_drawLetters_57 : decode cX5_drawLetters 57 = .ok (.return_, 1) := by decide +kernel
theorem dX5_draw_0 : decode cX5_draw 0 = .ok (.aload_n 0, 1) := by decide +kernel
theorem dX5_draw_1 : decode cX5_draw 1 = .ok (.aload_n 0, 1) := by decide +kernel
theorem dX5_draw_2 : decode cX5_draw 2 = .ok (.getfield 67, 3) := by decide +kernel
theorem dX5_draw_5 : decode cX5_draw 5 = .ok (.i2l, 1) := by decide +kernel
theorem dX5_draw_6 : decode cX5_draw 6 = .ok (.ldc2_w 70, 3) := by decide +kernel
theorem dX5_draw_9 : decode cX5_draw 9 = .ok (.lmul, 1) := by decide +kernel
theorem dX5_draw_10 : decode cX5_draw 10 = .ok (.ldc2_w 72, 3) := by decide +kernel
theorem dX5_draw_13 : decode cX5_draw 13 = .ok (.ladd, 1) := by decide +kernel
theorem dX5_draw_14 : decode cX5_draw 14 = .ok (.ldc2_w 74, 3) := by decide +kernel
theorem dX5_draw_17 : decode cX5_draw 17 = .ok (.land, 1) := by decide +kernel
theorem dX5_draw_18 : decode cX5_draw 18 = .ok (.l2i, 1) := by decide +kernel
theorem dX5_draw_19 : decode cX5_draw 19 = .ok (.putfield 67, 3) := by decide +kernel
theorem dX5_draw_22 : decode cX5_draw 22 = .ok (.iload_n 1, 1) := by decide +kernel
theorem dX5_draw_23 : decode cX5_draw 23 = .ok (.ifCond .le 15, 3) := by decide +kernel
theorem dX5_draw_26 : decode cX5_draw 26 = .ok (.aload_n 0, 1) := by decide +kernel
theorem dX5_draw_27 : decode cX5_draw 27 = .ok (.getfield 67, 3) := by decide +kernel
theorem dX5_draw_30 : decode cX5_draw 30 = .ok (.ldc 76, 2) := by decide +kernel
theorem dX5_draw_32 : decode cX5_draw 32 = .ok (.idiv, 1) := by decide +kernel
theorem dX5_draw_33 : decode cX5_draw 33 = .ok (.iload_n 1, 1) := by decide +kernel
theorem dX5_draw_34 : decode cX5_draw 34 = .ok (.irem, 1) := by decide +kernel
theorem dX5_draw_35 : decode cX5_draw 35 = .ok (.goto 4, 3) := by decide +kernel
theorem dX5_draw_38 : decode cX5_draw 38 = .ok (.iconst 0, 1) := by decide +kernel
theorem dX5_draw_39 : decode cX5_draw 39 = .ok (.ireturn, 1) := by decide +kernel
theorem dX6_init_0 : decode cX6_init 0 = .ok (.aload_n 0, 1) := by decide +kernel
theorem dX6_init_1 : decode cX6_init 1 = .ok (.invokespecial 1, 3) := by decide +kernel
theorem dX6_init_4 : decode cX6_init 4 = .ok (.aload_n 0, 1) := by decide +kernel
theorem dX6_init_5 : decode cX6_init 5 = .ok (.new 7, 3) := by decide +kernel
theorem dX6_init_8 : decode cX6_init 8 = .ok (.dup, 1) := by decide +kernel
theorem dX6_init_9 : decode cX6_init 9 = .ok (.invokespecial 9, 3) := by decide +kernel
theorem dX6_init_12 : decode cX6_init 12 = .ok (.putfield 10, 3) := by decide +kernel
theorem dX6_init_15 : decode cX6_init 15 = .ok (.aload_n 0, 1) := by decide +kernel
theorem dX6_init_16 : decode cX6_init 16 = .ok (.new 16, 3) := by decide +kernel
theorem dX6_init_19 : decode cX6_init 19 = .ok (.dup, 1) := by decide +kernel
theorem dX6_init_20 : decode cX6_init 20 = .ok (.invokespecial 18, 3) := by decide +kernel
theorem dX6_init_23 : decode cX6_init 23 = .ok (.putfield 19, 3) := by decide +kernel
theorem dX6_init_26 : decode cX6_init 26 = .ok (.aload_n 0, 1) := by decide +kernel
theorem dX6_init_27 : decode cX6_init 27 = .ok (.new 23, 3) := by decide +kernel
theorem dX6_init_30 : decode cX6_init 30 = .ok (.dup, 1) := by decide +kernel
theorem dX6_init_31 : decode cX6_init 31 = .ok (.invokespecial 25, 3) := by decide +kernel
theorem dX6_init_34 : decode cX6_init 34 = .ok (.putfield 26, 3) := by decide +kernel
theorem dX6_init_37 : decode cX6_init 37 = .ok (.aload_n 0, 1) := by decide +kernel
theorem dX6_init_38 : decode cX6_init 38 = .ok (.new 30, 3) := by decide +kernel
theorem dX6_init_41 : decode cX6_init 41 = .ok (.dup, 1) := by decide +kernel
theorem dX6_init_42 : decode cX6_init 42 = .ok (.invokespecial 32, 3) := by decide +kernel
theorem dX6_init_45 : decode cX6_init 45 = .ok (.putfield 33, 3) := by decide +kernel
theorem dX6_init_48 : decode cX6_init 48 = .ok (.aload_n 0, 1) := by decide +kernel
theorem dX6_init_49 : decode cX6_init 49 = .ok (.new 37, 3) := by decide +kernel
theorem dX6_init_52 : decode cX6_init 52 = .ok (.dup, 1) := by decide +kernel
theorem dX6_init_53 : decode cX6_init 53 = .ok (.invokespecial 39, 3) := by decide +kernel
theorem dX6_init_56 : decode cX6_init 56 = .ok (.putfield 40, 3) := by decide +kernel
theorem dX6_init_59 : decode cX6_init 59 = .ok (.aload_n 0, 1) := by decide +kernel
theorem dX6_init_60 : decode cX6_init 60 = .ok (.new 44, 3) := by decide +kernel
theorem dX6_init_63 : decode cX6_init 63 = .ok (.dup, 1) := by decide +kernel
theorem dX6_init_64 : decode cX6_init 64 = .ok (.invokespecial 46, 3) := by decide +kernel
theorem dX6_init_67 : decode cX6_init 67 = .ok (.putfield 47, 3) := by decide +kernel
theorem dX6_init_70 : decode cX6_init 70 = .ok (.aload_n 0, 1) := by decide +kernel
theorem dX6_init_71 : decode cX6_init 71 = .ok (.new 44, 3) := by decide +kernel
theorem dX6_init_74 : decode cX6_init 74 = .ok (.dup, 1) := by decide +kernel
theorem dX6_init_75 : decode cX6_init 75 = .ok (.invokespecial 46, 3) := by decide +kernel
theorem dX6_init_78 : decode cX6_init 78 = .ok (.putfield 51, 3) := by decide +kernel
theorem dX6_init_81 : decode cX6_init 81 = .ok (.aload_n 0, 1) := by decide +kernel
theorem dX6_init_82 : decode cX6_init 82 = .ok (.bipush 7, 2) := by decide +kernel
theorem dX6_init_84 : decode cX6_init 84 = .ok (.newarray .int, 2) := by decide +kernel
theorem dX6_init_86 : decode cX6_init 86 = .ok (.putfield 54, 3) := by decide +kernel
theorem dX6_init_89 : decode cX6_init 89 = .ok (.aload_n 0, 1) := by decide +kernel
theorem dX6_init_90 : decode cX6_init 90 = .ok (.bipush 7, 2) := by decide +kernel
theorem dX6_init_92 : decode cX6_init 92 = .ok (.newarray .int, 2) := by decide +kernel
theorem dX6_init_94 : decode cX6_init 94 = .ok (.putfield 58, 3) := by decide +kernel
theorem dX6_init_97 : decode cX6_init 97 = .ok (.aload_n 0, 1) := by decide +kernel
theorem dX6_init_98 : decode cX6_init 98 = .ok (.bipush 30, 2) := by decide +kernel
theorem dX6_init_100 : decode cX6_init 100 = .ok (.newarray .int, 2) := by decide +kernel
theorem dX6_init_102 : decode cX6_init 102 = .ok (.putfield 61, 3) := by decide +kernel
theorem dX6_init_105 : decode cX6_init 105 = .ok (.aload_n 0, 1) := by decide +kernel
theorem dX6_init_106 : decode cX6_init 106 = .ok (.bipush 30, 2) := by decide +kernel
theorem dX6_init_108 : decode cX6_init 108 = .ok (.newarray .int, 2) := by decide +kernel
theorem dX6_init_110 : decode cX6_init 110 = .ok (.putfield 64, 3) := by decide +kernel
theorem dX6_init_113 : decode cX6_init 113 = .ok (.return_, 1) := by decide +kernel
theorem dX6_feed_0 : decode cX6_feed 0 = .ok (.iload_n 1, 1) := by decide +kernel
theorem dX6_feed_1 : decode cX6_feed 1 = .ok (.iconst 1, 1) := by decide +kernel
theorem dX6_feed_2 : decode cX6_feed 2 = .ok (.if_icmp .lt 9, 3) := by decide +kernel
theorem dX6_feed_5 : decode cX6_feed 5 = .ok (.iload_n 1, 1) := by decide +kernel
theorem dX6_feed_6 : decode cX6_feed 6 = .ok (.bipush 8, 2) := by decide +kernel
theorem dX6_feed_8 : decode cX6_feed 8 = .ok (.if_icmp .le 6, 3) := by decide +kernel
theorem dX6_feed_11 : decode cX6_feed 11 = .ok (.ldc 67, 2) := by decide +kernel
theorem dX6_feed_13 : decode cX6_feed 13 = .ok (.ireturn, 1) := by decide +kernel
theorem dX6_feed_14 : decode cX6_feed 14 = .ok (.aload_n 0, 1) := by decide +kernel
theorem dX6_feed_15 : decode cX6_feed 15 = .ok (.getfield 10, 3) := by decide +kernel
theorem dX6_feed_18 : decode cX6_feed 18 = .ok (.getfield 68, 3) := by decide +kernel
theorem dX6_feed_21 : decode cX6_feed 21 = .ok (.iload_n 1, 1) := by decide +kernel
theorem dX6_feed_22 : decode cX6_feed 22 = .ok (.iadd, 1) := by decide +kernel
theorem dX6_feed_23 : decode cX6_feed 23 = .ok (.sipush 400, 3) := by decide +kernel
theorem dX6_feed_26 : decode cX6_feed 26 = .ok (.if_icmp .le 6, 3) := by decide +kernel
theorem dX6_feed_29 : decode cX6_feed 29 = .ok (.ldc 72, 2) := by decide +kernel
theorem dX6_feed_31 : decode cX6_feed 31 = .ok (.ireturn, 1) := by decide +kernel
theorem dX6_feed_32 : decode cX6_feed 32 = .ok (.iload_n 1, 1) := by decide +kernel
theorem dX6_feed_33 : decode cX6_feed 33 = .ok (.iconst 1, 1) := by decide +kernel
theorem dX6_feed_34 : decode cX6_feed 34 = .ok (.isub, 1) := by decide +kernel
theorem dX6_feed_35 : decode cX6_feed 35 = .ok (.istore 4, 2) := by decide +kernel
theorem dX6_feed_37 : decode cX6_feed 37 = .ok (.iload 4, 2) := by decide +kernel
theorem dX6_feed_39 : decode cX6_feed 39 = .ok (.ifCond .lt 25, 3) := by decide +kernel
theorem dX6_feed_42 : decode cX6_feed 42 = .ok (.aload_n 0, 1) := by decide +kernel
theorem dX6_feed_43 : decode cX6_feed 43 = .ok (.getfield 10, 3) := by decide +kernel
theorem dX6_feed_46 : decode cX6_feed 46 = .ok (.lload_n 2, 1) := by decide +kernel
theorem dX6_feed_47 : decode cX6_feed 47 = .ok (.bipush 8, 2) := by decide +kernel
theorem dX6_feed_49 : decode cX6_feed 49 = .ok (.iload 4, 2) := by decide +kernel
theorem dX6_feed_51 : decode cX6_feed 51 = .ok (.imul, 1) := by decide +kernel
theorem dX6_feed_52 : decode cX6_feed 52 = .ok (.lshr, 1) := by decide +kernel
theorem dX6_feed_53 : decode cX6_feed 53 = .ok (.l2i, 1) := by decide +kernel
theorem dX6_feed_54 : decode cX6_feed 54 = .ok (.i2b, 1) := by decide +kernel
theorem dX6_feed_55 : decode cX6_feed 55 = .ok (.invokevirtual 73, 3) := by decide +kernel
theorem dX6_feed_58 : decode cX6_feed 58 = .ok (.iinc 4 (-1), 3) := by decide +kernel
theorem dX6_feed_61 : decode cX6_feed 61 = .ok (.goto (-24), 3) := by decide +kernel
theorem dX6_feed_64 : decode cX6_feed 64 = .ok (.aload_n 0, 1) := by decide +kernel
theorem dX6_feed_65 : decode cX6_feed 65 = .ok (.getfield 10, 3) := by decide +kernel
theorem dX6_feed_68 : decode cX6_feed 68 = .ok (.getfield 68, 3) := by decide +kernel
theorem dX6_feed_71 : decode cX6_feed 71 = .ok (.ireturn, 1) := by decide +kernel
theorem dX6_town_0 : decode cX6_town 0 = .ok (.aload_n 0, 1) := by decide +kernel
theorem dX6_town_1 : decode cX6_town 1 = .ok (.getfield 10, 3) := by decide +kernel
theorem dX6_town_4 : decode cX6_town 4 = .ok (.invokevirtual 77, 3) := by decide +kernel
theorem dX6_town_7 : decode cX6_town 7 = .ok (.istore_n 1, 1) := by decide +kernel
theorem dX6_town_8 : decode cX6_town 8 = .ok (.iload_n 1, 1) := by decide +kernel
theorem dX6_town_9 : decode cX6_town 9 = .ok (.ifCond .eq 8, 3) := by decide +kernel
theorem dX6_town_12 : decode cX6_town 12 = .ok (.bipush (-10), 2) := by decide +kernel
theorem dX6_town_14 : decode cX6_town 14 = .ok (.iload_n 1, 1) := by decide +kernel
theorem dX6_town_15 : decode cX6_town 15 = .ok (.isub, 1) := by decide +kernel
theorem dX6_town_16 : decode cX6_town 16 = .ok (.ireturn, 1) := by decide +kernel
theorem dX6_town_17 : decode cX6_town 17 = .ok (.aload_n 0, 1) := by decide +kernel
theorem dX6_town_18 : decode cX6_town 18 = .ok (.getfield 19, 3) := by decide +kernel
theorem dX6_town_21 : decode cX6_town 21 = .ok (.aload_n 0, 1) := by decide +kernel
theorem dX6_town_22 : decode cX6_town 22 = .ok (.getfield 10, 3) := by decide +kernel
theorem dX6_town_25 : decode cX6_town 25 = .ok (.getfield 81, 3) := by decide +kernel
theorem dX6_town_28 : decode cX6_town 28 = .ok (.invokevirtual 84, 3) := by decide +kernel
theorem dX6_town_31 : decode cX6_town 31 = .ok (.aload_n 0, 1) := by decide +kernel
theorem dX6_town_32 : decode cX6_town 32 = .ok (.iconst 0, 1) := by decide +kernel
theorem dX6_town_33 : decode cX6_town 33 = .ok (.putfield 88, 3) := by decide +kernel
theorem dX6_town_36 : decode cX6_town 36 = .ok (.aload_n 0, 1) := by decide +kernel
theorem dX6_town_37 : decode cX6_town 37 = .ok (.iconst 0, 1) := by decide +kernel
theorem dX6_town_38 : decode cX6_town 38 = .ok (.putfield 91, 3) := by decide +kernel
theorem dX6_town_41 : decode cX6_town 41 = .ok (.aload_n 0, 1) := by decide +kernel
theorem dX6_town_42 : decode cX6_town 42 = .ok (.getfield 47, 3) := by decide +kernel
theorem dX6_town_45 : decode cX6_town 45 = .ok (.iconst 0, 1) := by decide +kernel
theorem dX6_town_46 : decode cX6_town 46 = .ok (.putfield 94, 3) := by decide +kernel
theorem dX6_town_49 : decode cX6_town 49 = .ok (.aload_n 0, 1) := by decide +kernel
theorem dX6_town_50 : decode cX6_town 50 = .ok (.getfield 51, 3) := by decide +kernel
theorem dX6_town_53 : decode cX6_town 53 = .ok (.iconst 0, 1) := by decide +kernel
theorem dX6_town_54 : decode cX6_town 54 = .ok (.putfield 94, 3) := by decide +kernel
theorem dX6_town_57 : decode cX6_town 57 = .ok (.aload_n 0, 1) := by decide +kernel
theorem dX6_town_58 : decode cX6_town 58 = .ok (.getfield 19, 3) := by decide +kernel
theorem dX6_town_61 : decode cX6_town 61 = .ok (.getfield 98, 3) := by decide +kernel
theorem dX6_town_64 : decode cX6_town 64 = .ok (.ireturn, 1) := by decide +kernel
theorem dX6_fault_0 : decode cX6_fault 0 = .ok (.aload_n 0, 1) := by decide +kernel
theorem dX6_fault_1 : decode cX6_fault 1 = .ok (.getfield 10, 3) := by decide +kernel
theorem dX6_fault_4 : decode cX6_fault 4 = .ok (.getfield 101, 3) := by decide +kernel
theorem dX6_fault_7 : decode cX6_fault 7 = .ok (.ireturn, 1) := by decide +kernel
theorem dX6_told_0 : decode cX6_told 0 = .ok (.iload_n 1, 1) := by decide +kernel
theorem dX6_told_1 : decode cX6_told 1 = .ok (.ifCond .lt 9, 3) := by decide +kernel
theorem dX6_told_4 : decode cX6_told 4 = .ok (.iload_n 1, 1) := by decide +kernel
theorem dX6_told_5 : decode cX6_told 5 = .ok (.bipush 10, 2) := by decide +kernel
theorem dX6_told_7 : decode cX6_told 7 = .ok (.if_icmp .le 6, 3) := by decide +kernel
theorem dX6_told_10 : decode cX6_told 10 = .ok (.ldc 67, 2) := by decide +kernel
theorem dX6_told_12 : decode cX6_told 12 = .ok (.ireturn, 1) := by decide +kernel
theorem dX6_told_13 : decode cX6_told 13 = .ok (.aload_n 0, 1) := by decide +kernel
theorem dX6_told_14 : decode cX6_told 14 = .ok (.getfield 26, 3) := by decide +kernel
theorem dX6_told_17 : decode cX6_told 17 = .ok (.aload_n 0, 1) := by decide +kernel
theorem dX6_told_18 : decode cX6_told 18 = .ok (.getfield 19, 3) := by decide +kernel
theorem dX6_told_21 : decode cX6_told 21 = .ok (.aload_n 0, 1) := by decide +kernel
theorem dX6_told_22 : decode cX6_told 22 = .ok (.getfield 19, 3) := by decide +kernel
theorem dX6_told_25 : decode cX6_told 25 = .ok (.getfield 104, 3) := by decide +kernel
theorem dX6_told_28 : decode cX6_told 28 = .ok (.invokevirtual 107, 3) := by decide +kernel
theorem dX6_told_31 : decode cX6_told 31 = .ok (.iload_n 1, 1) := by decide +kernel
theorem dX6_told_32 : decode cX6_told 32 = .ok (.tableswitch 158 0 9 #[56, 64, 72, 80, 88, 96, 104, 122, 134, 153], 56) := by decide +kernel
theorem dX6_told_88 : decode cX6_told 88 = .ok (.aload_n 0, 1) := by decide +kernel
theorem dX6_told_89 : decode cX6_told 89 = .ok (.getfield 19, 3) := by decide +kernel
theorem dX6_told_92 : decode cX6_told 92 = .ok (.getfield 111, 3) := by decide +kernel
theorem dX6_told_95 : decode cX6_told 95 = .ok (.ireturn, 1) := by decide +kernel
theorem dX6_told_96 : decode cX6_told 96 = .ok (.aload_n 0, 1) := by decide +kernel
theorem dX6_told_97 : decode cX6_told 97 = .ok (.getfield 19, 3) := by decide +kernel
theorem dX6_told_100 : decode cX6_told 100 = .ok (.getfield 98, 3) := by decide +kernel
theorem dX6_told_103 : decode cX6_told 103 = .ok (.ireturn, 1) := by decide +kernel
theorem dX6_told_104 : decode cX6_told 104 = .ok (.aload_n 0, 1) := by decide +kernel
theorem dX6_told_105 : decode cX6_told 105 = .ok (.getfield 19, 3) := by decide +kernel
theorem dX6_told_108 : decode cX6_told 108 = .ok (.getfield 114, 3) := by decide +kernel
theorem dX6_told_111 : decode cX6_told 111 = .ok (.ireturn, 1) := by decide +kernel
theorem dX6_told_112 : decode cX6_told 112 = .ok (.aload_n 0, 1) := by decide +kernel
theorem dX6_told_113 : decode cX6_told 113 = .ok (.getfield 10, 3) := by decide +kernel
theorem dX6_told_116 : decode cX6_told 116 = .ok (.getfield 68, 3) := by decide +kernel
theorem dX6_told_119 : decode cX6_told 119 = .ok (.ireturn, 1) := by decide +kernel
theorem dX6_told_120 : decode cX6_told 120 = .ok (.aload_n 0, 1) := by decide +kernel
theorem dX6_told_121 : decode cX6_told 121 = .ok (.getfield 19, 3) := by decide +kernel
theorem dX6_told_124 : decode cX6_told 124 = .ok (.getfield 117, 3) := by decide +kernel
theorem dX6_told_127 : decode cX6_told 127 = .ok (.ireturn, 1) := by decide +kernel
theorem dX6_told_128 : decode cX6_told 128 = .ok (.aload_n 0, 1) := by decide +kernel
theorem dX6_told_129 : decode cX6_told 129 = .ok (.getfield 26, 3) := by decide +kernel
theorem dX6_told_132 : decode cX6_told 132 = .ok (.getfield 120, 3) := by decide +kernel
theorem dX6_told_135 : decode cX6_told 135 = .ok (.ireturn, 1) := by decide +kernel
theorem dX6_told_136 : decode cX6_told 136 = .ok (.aload_n 0, 1) := by decide +kernel
theorem dX6_told_137 : decode cX6_told 137 = .ok (.getfield 19, 3) := by decide +kernel
theorem dX6_told_140 : decode cX6_told 140 = .ok (.getfield 104, 3) := by decide +kernel
theorem dX6_told_143 : decode cX6_told 143 = .ok (.aload_n 0, 1) := by decide +kernel
theorem dX6_told_144 : decode cX6_told 144 = .ok (.getfield 19, 3) := by decide +kernel
theorem dX6_told_147 : decode cX6_told 147 = .ok (.getfield 98, 3) := by decide +kernel
theorem dX6_told_150 : decode cX6_told 150 = .ok (.invokestatic 123, 3) := by decide +kernel
theorem dX6_told_153 : decode cX6_told 153 = .ok (.ireturn, 1) := by decide +kernel
theorem dX6_told_154 : decode cX6_told 154 = .ok (.aload_n 0, 1) := by decide +kernel
theorem dX6_told_155 : decode cX6_told 155 = .ok (.getfield 26, 3) := by decide +kernel
theorem dX6_told_158 : decode cX6_told 158 = .ok (.aload_n 0, 1) := by decide +kernel
theorem dX6_told_159 : decode cX6_told 159 = .ok (.getfield 19, 3) := by decide +kernel
theorem dX6_told_162 : decode cX6_told 162 = .ok (.invokevirtual 127, 3) := by decide +kernel
theorem dX6_told_165 : decode cX6_told 165 = .ok (.ireturn, 1) := by decide +kernel
theorem dX6_told_166 : decode cX6_told 166 = .ok (.aload_n 0, 1) := by decide +kernel
theorem dX6_told_167 : decode cX6_told 167 = .ok (.getfield 26, 3) := by decide +kernel
theorem dX6_told_170 : decode cX6_told 170 = .ok (.aload_n 0, 1) := by decide +kernel
theorem dX6_told_171 : decode cX6_told 171 = .ok (.getfield 19, 3) := by decide +kernel
theorem dX6_told_174 : decode cX6_told 174 = .ok (.aload_n 0, 1) := by decide +kernel
theorem dX6_told_175 : decode cX6_told 175 = .ok (.getfield 19, 3) := by decide +kernel
theorem dX6_told_178 : decode cX6_told 178 = .ok (.getfield 104, 3) := by decide +kernel
theorem dX6_told_181 : decode cX6_told 181 = .ok (.invokevirtual 131, 3) := by decide +kernel
theorem dX6_told_184 : decode cX6_told 184 = .ok (.ireturn, 1) := by decide +kernel
theorem dX6_told_185 : decode cX6_told 185 = .ok (.aload_n 0, 1) := by decide +kernel
theorem dX6_told_186 : decode cX6_told 186 = .ok (.getfield 88, 3) := by decide +kernel
theorem dX6_told_189 : decode cX6_told 189 = .ok (.ireturn, 1) := by decide +kernel
theorem dX6_told_190 : decode cX6_told 190 = .ok (.aload_n 0, 1) := by decide +kernel
theorem dX6_told_191 : decode cX6_told 191 = .ok (.getfield 91, 3) := by decide +kernel
theorem dX6_told_194 : decode cX6_told 194 = .ok (.ireturn, 1) := by decide +kernel
theorem dX6_place_0 : decode cX6_place 0 = .ok (.aload_n 0, 1) := by decide +kernel
theorem dX6_place_1 : decode cX6_place 1 = .ok (.getfield 19, 3) := by decide +kernel
theorem dX6_place_4 : decode cX6_place 4 = .ok (.iload_n 1, 1) := by decide +kernel
theorem dX6_place_5 : decode cX6_place 5 = .ok (.invokevirtual 135, 3) := by decide +kernel
theorem dX6_place_8 : decode cX6_place 8 = .ok (.ifCond .ne 6, 3) := by decide +kernel
theorem dX6_place_11 : decode cX6_place 11 = .ok (.ldc 139, 2) := by decide +kernel
theorem dX6_place_13 : decode cX6_place 13 = .ok (.ireturn, 1) := by decide +kernel
theorem dX6_place_14 : decode cX6_place 14 = .ok (.iload_n 2, 1) := by decide +kernel
theorem dX6_place_15 : decode cX6_place 15 = .ok (.ifCond .lt 8, 3) := by decide +kernel
theorem dX6_place_18 : decode cX6_place 18 = .ok (.iload_n 2, 1) := by decide +kernel
theorem dX6_place_19 : decode cX6_place 19 = .ok (.iconst 1, 1) := by decide +kernel
theorem dX6_place_20 : decode cX6_place 20 = .ok (.if_icmp .le 6, 3) := by decide +kernel
theorem dX6_place_23 : decode cX6_place 23 = .ok (.ldc 67, 2) := by decide +kernel
theorem dX6_place_25 : decode cX6_place 25 = .ok (.ireturn, 1) := by decide +kernel
theorem dX6_place_26 : decode cX6_place 26 = .ok (.iload_n 2, 1) := by decide +kernel
theorem dX6_place_27 : decode cX6_place 27 = .ok (.ifCond .ne 17, 3) := by decide +kernel
theorem dX6_place_30 : decode cX6_place 30 = .ok (.aload_n 0, 1) := by decide +kernel
theorem dX6_place_31 : decode cX6_place 31 = .ok (.getfield 19, 3) := by decide +kernel
theorem dX6_place_34 : decode cX6_place 34 = .ok (.getfield 140, 3) := by decide +kernel
theorem dX6_place_37 : decode cX6_place 37 = .ok (.iload_n 1, 1) := by decide +kernel
theorem dX6_place_38 : decode cX6_place 38 = .ok (.invokestatic 143, 3) := by decide +kernel
theorem dX6_place_41 : decode cX6_place 41 = .ok (.goto 14, 3) := by decide +kernel
theorem dX6_place_44 : decode cX6_place 44 = .ok (.aload_n 0, 1) := by decide +kernel
theorem dX6_place_45 : decode cX6_place 45 = .ok (.getfield 19, 3) := by decide +kernel
theorem dX6_place_48 : decode cX6_place 48 = .ok (.getfield 146, 3) := by decide +kernel
theorem dX6_place_51 : decode cX6_place 51 = .ok (.iload_n 1, 1) := by decide +kernel
theorem dX6_place_52 : decode cX6_place 52 = .ok (.invokestatic 143, 3) := by decide +kernel
theorem dX6_place_55 : decode cX6_place 55 = .ok (.ireturn, 1) := by decide +kernel
theorem dX6_letter_0 : decode cX6_letter 0 = .ok (.aload_n 0, 1) := by decide +kernel
theorem dX6_letter_1 : decode cX6_letter 1 = .ok (.getfield 19, 3) := by decide +kernel
theorem dX6_letter_4 : decode cX6_letter 4 = .ok (.iload_n 1, 1) := by decide +kernel
theorem dX6_letter_5 : decode cX6_letter 5 = .ok (.invokevirtual 149, 3) := by decide +kernel
theorem dX6_letter_8 : decode cX6_letter 8 = .ok (.ifCond .ne 6, 3) := by decide +kernel
theorem dX6_letter_11 : decode cX6_letter 11 = .ok (.ldc 139, 2) := by decide +kernel
theorem dX6_letter_13 : decode cX6_letter 13 = .ok (.ireturn, 1) := by decide +kernel
theorem dX6_letter_14 : decode cX6_letter 14 = .ok (.iload_n 2, 1) := by decide +kernel
theorem dX6_letter_15 : decode cX6_letter 15 = .ok (.ifCond .lt 9, 3) := by decide +kernel
theorem dX6_letter_18 : decode cX6_letter 18 = .ok (.iload_n 2, 1) := by decide +kernel
theorem dX6_letter_19 : decode cX6_letter 19 = .ok (.bipush 8, 2) := by decide +kernel
theorem dX6_letter_21 : decode cX6_letter 21 = .ok (.if_icmp .le 6, 3) := by decide +kernel
theorem dX6_letter_24 : decode cX6_letter 24 = .ok (.ldc 67, 2) := by decide +kernel
theorem dX6_letter_26 : decode cX6_letter 26 = .ok (.ireturn, 1) := by decide +kernel
theorem dX6_letter_27 : decode cX6_letter 27 = .ok (.aload_n 0, 1) := by decide +kernel
theorem dX6_letter_28 : decode cX6_letter 28 = .ok (.getfield 26, 3) := by decide +kernel
theorem dX6_letter_31 : decode cX6_letter 31 = .ok (.aload_n 0, 1) := by decide +kernel
theorem dX6_letter_32 : decode cX6_letter 32 = .ok (.getfield 19, 3) := by decide +kernel
theorem dX6_letter_35 : decode cX6_letter 35 = .ok (.aload_n 0, 1) := by decide +kernel
theorem dX6_letter_36 : decode cX6_letter 36 = .ok (.getfield 19, 3) := by decide +kernel
theorem dX6_letter_39 : decode cX6_letter 39 = .ok (.getfield 104, 3) := by decide +kernel
theorem dX6_letter_42 : decode cX6_letter 42 = .ok (.invokevirtual 107, 3) := by decide +kernel
theorem dX6_letter_45 : decode cX6_letter 45 = .ok (.iload_n 2, 1) := by decide +kernel
theorem dX6_letter_46 : decode cX6_letter 46 = .ok (.tableswitch 146 0 7 #[46, 58, 70, 82, 94, 106, 118, 134], 46) := by decide +kernel
theorem dX6_letter_92 : decode cX6_letter 92 = .ok (.aload_n 0, 1) := by decide +kernel
theorem dX6_letter_93 : decode cX6_letter 93 = .ok (.getfield 19, 3) := by decide +kernel
theorem dX6_letter_96 : decode cX6_letter 96 = .ok (.getfield 152, 3) := by decide +kernel
theorem dX6_letter_99 : decode cX6_letter 99 = .ok (.iload_n 1, 1) := by decide +kernel
theorem dX6_letter_100 : decode cX6_letter 100 = .ok (.invokestatic 143, 3) := by decide +kernel
theorem dX6_letter_103 : decode cX6_letter 103 = .ok (.ireturn, 1) := by decide +kernel
theorem dX6_letter_104 : decode cX6_letter 104 = .ok (.aload_n 0, 1) := by decide +kernel
theorem dX6_letter_105 : decode cX6_letter 105 = .ok (.getfield 19, 3) := by decide +kernel
theorem dX6_letter_108 : decode cX6_letter 108 = .ok (.getfield 155, 3) := by decide +kernel
theorem dX6_letter_111 : decode cX6_letter 111 = .ok (.iload_n 1, 1) := by decide +kernel
theorem dX6_letter_112 : decode cX6_letter 112 = .ok (.invokestatic 143, 3) := by decide +kernel
theorem dX6_letter_115 : decode cX6_letter 115 = .ok (.ireturn, 1) := by decide +kernel
theorem dX6_letter_116 : decode cX6_letter 116 = .ok (.aload_n 0, 1) := by decide +kernel
theorem dX6_letter_117 : decode cX6_letter 117 = .ok (.getfield 19, 3) := by decide +kernel
theorem dX6_letter_120 : decode cX6_letter 120 = .ok (.getfield 158, 3) := by decide +kernel
theorem dX6_letter_123 : decode cX6_letter 123 = .ok (.iload_n 1, 1) := by decide +kernel
theorem dX6_letter_124 : decode cX6_letter 124 = .ok (.invokestatic 143, 3) := by decide +kernel
theorem dX6_letter_127 : decode cX6_letter 127 = .ok (.ireturn, 1) := by decide +kernel
theorem dX6_letter_128 : decode cX6_letter 128 = .ok (.aload_n 0, 1) := by decide +kernel
theorem dX6_letter_129 : decode cX6_letter 129 = .ok (.getfield 19, 3) := by decide +kernel
theorem dX6_letter_132 : decode cX6_letter 132 = .ok (.getfield 161, 3) := by decide +kernel
theorem dX6_letter_135 : decode cX6_letter 135 = .ok (.iload_n 1, 1) := by decide +kernel
theorem dX6_letter_136 : decode cX6_letter 136 = .ok (.invokestatic 143, 3) := by decide +kernel
theorem dX6_letter_139 : decode cX6_letter 139 = .ok (.ireturn, 1) := by decide +kernel
theorem dX6_letter_140 : decode cX6_letter 140 = .ok (.aload_n 0, 1) := by decide +kernel
theorem dX6_letter_141 : decode cX6_letter 141 = .ok (.getfield 19, 3) := by decide +kernel
theorem dX6_letter_144 : decode cX6_letter 144 = .ok (.getfield 104, 3) := by decide +kernel
theorem dX6_letter_147 : decode cX6_letter 147 = .ok (.iload_n 1, 1) := by decide +kernel
theorem dX6_letter_148 : decode cX6_letter 148 = .ok (.invokestatic 143, 3) := by decide +kernel
theorem dX6_letter_151 : decode cX6_letter 151 = .ok (.ireturn, 1) := by decide +kernel
theorem dX6_letter_152 : decode cX6_letter 152 = .ok (.aload_n 0, 1) := by decide +kernel
theorem dX6_letter_153 : decode cX6_letter 153 = .ok (.getfield 26, 3) := by decide +kernel
theorem dX6_letter_156 : decode cX6_letter 156 = .ok (.getfield 164, 3) := by decide +kernel
theorem dX6_letter_159 : decode cX6_letter 159 = .ok (.iload_n 1, 1) := by decide +kernel
theorem dX6_letter_160 : decode cX6_letter 160 = .ok (.invokestatic 143, 3) := by decide +kernel
theorem dX6_letter_163 : decode cX6_letter 163 = .ok (.ireturn, 1) := by decide +kernel
theorem dX6_letter_164 : decode cX6_letter 164 = .ok (.aload_n 0, 1) := by decide +kernel
theorem dX6_letter_165 : decode cX6_letter 165 = .ok (.getfield 26, 3) := by decide +kernel
theorem dX6_letter_168 : decode cX6_letter 168 = .ok (.iload_n 1, 1) := by decide +kernel
theorem dX6_letter_169 : decode cX6_letter 169 = .ok (.aload_n 0, 1) := by decide +kernel
theorem dX6_letter_170 : decode cX6_letter 170 = .ok (.getfield 19, 3) := by decide +kernel
theorem dX6_letter_173 : decode cX6_letter 173 = .ok (.getfield 98, 3) := by decide +kernel
theorem dX6_letter_176 : decode cX6_letter 176 = .ok (.invokevirtual 167, 3) := by decide +kernel
theorem dX6_letter_179 : decode cX6_letter 179 = .ok (.ireturn, 1) := by decide +kernel
theorem dX6_letter_180 : decode cX6_letter 180 = .ok (.aload_n 0, 1) := by decide +kernel
theorem dX6_letter_181 : decode cX6_letter 181 = .ok (.getfield 26, 3) := by decide +kernel
theorem dX6_letter_184 : decode cX6_letter 184 = .ok (.getfield 171, 3) := by decide +kernel
theorem dX6_letter_187 : decode cX6_letter 187 = .ok (.iload_n 1, 1) := by decide +kernel
theorem dX6_letter_188 : decode cX6_letter 188 = .ok (.invokestatic 143, 3) := by decide +kernel
theorem dX6_letter_191 : decode cX6_letter 191 = .ok (.ireturn, 1) := by decide +kernel
theorem dX6_letter_192 : decode cX6_letter 192 = .ok (.aload_n 0, 1) := by decide +kernel
theorem dX6_letter_193 : decode cX6_letter 193 = .ok (.getfield 26, 3) := by decide +kernel
theorem dX6_letter_196 : decode cX6_letter 196 = .ok (.aload_n 0, 1) := by decide +kernel
theorem dX6_letter_197 : decode cX6_letter 197 = .ok (.getfield 19, 3) := by decide +kernel
theorem dX6_letter_200 : decode cX6_letter 200 = .ok (.iload_n 1, 1) := by decide +kernel
theorem dX6_letter_201 : decode cX6_letter 201 = .ok (.aload_n 0, 1) := by decide +kernel
theorem dX6_letter_202 : decode cX6_letter 202 = .ok (.getfield 19, 3) := by decide +kernel
theorem dX6_letter_205 : decode cX6_letter 205 = .ok (.getfield 104, 3) := by decide +kernel
theorem dX6_letter_208 : decode cX6_letter 208 = .ok (.iload_n 1, 1) := by decide +kernel
theorem dX6_letter_209 : decode cX6_letter 209 = .ok (.invokestatic 143, 3) := by decide +kernel
theorem dX6_letter_212 : decode cX6_letter 212 = .ok (.aload_n 0, 1) := by decide +kernel
theorem dX6_letter_213 : decode cX6_letter 213 = .ok (.getfield 19, 3) := by decide +kernel
theorem dX6_letter_216 : decode cX6_letter 216 = .ok (.getfield 114, 3) := by decide +kernel
theorem dX6_letter_219 : decode cX6_letter 219 = .ok (.invokevirtual 174, 3) := by decide +kernel
theorem dX6_letter_222 : decode cX6_letter 222 = .ok (.ireturn, 1) := by decide +kernel
theorem dX6_far_0 : decode cX6_far 0 = .ok (.aload_n 0, 1) := by decide +kernel
theorem dX6_far_1 : decode cX6_far 1 = .ok (.getfield 19, 3) := by decide +kernel
theorem dX6_far_4 : decode cX6_far 4 = .ok (.iload_n 1, 1) := by decide +kernel
theorem dX6_far_5 : decode cX6_far 5 = .ok (.invokevirtual 135, 3) := by decide +kernel
theorem dX6_far_8 : decode cX6_far 8 = .ok (.ifCond .eq 14, 3) := by decide +kernel
theorem dX6_far_11 : decode cX6_far 11 = .ok (.aload_n 0, 1) := by decide +kernel
theorem dX6_far_12 : decode cX6_far 12 = .ok (.getfield 19, 3) := by decide +kernel
theorem dX6_far_15 : decode cX6_far 15 = .ok (.iload_n 2, 1) := by decide +kernel
theorem dX6_far_16 : decode cX6_far 16 = .ok (.invokevirtual 135, 3) := by decide +kernel
theorem dX6_far_19 : decode cX6_far 19 = .ok (.ifCond .ne 6, 3) := by decide +kernel
theorem dX6_far_22 : decode cX6_far 22 = .ok (.ldc 139, 2) := by decide +kernel
theorem dX6_far_24 : decode cX6_far 24 = .ok (.ireturn, 1) := by decide +kernel
theorem dX6_far_25 : decode cX6_far 25 = .ok (.aload_n 0, 1) := by decide +kernel
theorem dX6_far_26 : decode cX6_far 26 = .ok (.getfield 19, 3) := by decide +kernel
theorem dX6_far_29 : decode cX6_far 29 = .ok (.iload_n 1, 1) := by decide +kernel
theorem dX6_far_30 : decode cX6_far 30 = .ok (.iload_n 2, 1) := by decide +kernel
theorem dX6_far_31 : decode cX6_far 31 = .ok (.invokevirtual 178, 3) := by decide +kernel
theorem dX6_far_34 : decode cX6_far 34 = .ok (.ireturn, 1) := by decide +kernel
theorem dX6_order_0 : decode cX6_order 0 = .ok (.aload_n 0, 1) := by decide +kernel
theorem dX6_order_1 : decode cX6_order 1 = .ok (.getfield 19, 3) := by decide +kernel
theorem dX6_order_4 : decode cX6_order 4 = .ok (.iload_n 1, 1) := by decide +kernel
theorem dX6_order_5 : decode cX6_order 5 = .ok (.invokevirtual 149, 3) := by decide +kernel
theorem dX6_order_8 : decode cX6_order 8 = .ok (.ifCond .ne 5, 3) := by decide +kernel
theorem dX6_order_11 : decode cX6_order 11 = .ok (.iconst (-1), 1) := by decide +kernel
theorem dX6_order_12 : decode cX6_order 12 = .ok (.ireturn, 1) := by decide +kernel
theorem dX6_order_13 : decode cX6_order 13 = .ok (.aload_n 0, 1) := by decide +kernel
theorem dX6_order_14 : decode cX6_order 14 = .ok (.getfield 26, 3) := by decide +kernel
theorem dX6_order_17 : decode cX6_order 17 = .ok (.aload_n 0, 1) := by decide +kernel
theorem dX6_order_18 : decode cX6_order 18 = .ok (.getfield 19, 3) := by decide +kernel
theorem dX6_order_21 : decode cX6_order 21 = .ok (.aload_n 0, 1) := by decide +kernel
theorem dX6_order_22 : decode cX6_order 22 = .ok (.getfield 19, 3) := by decide +kernel
theorem dX6_order_25 : decode cX6_order 25 = .ok (.getfield 104, 3) := by decide +kernel
theorem dX6_order_28 : decode cX6_order 28 = .ok (.invokevirtual 107, 3) := by decide +kernel
theorem dX6_order_31 : decode cX6_order 31 = .ok (.aload_n 0, 1) := by decide +kernel
theorem dX6_order_32 : decode cX6_order 32 = .ok (.getfield 26, 3) := by decide +kernel
theorem dX6_order_35 : decode cX6_order 35 = .ok (.getfield 181, 3) := by decide +kernel
theorem dX6_order_38 : decode cX6_order 38 = .ok (.iload_n 1, 1) := by decide +kernel
theorem dX6_order_39 : decode cX6_order 39 = .ok (.invokestatic 143, 3) := by decide +kernel
theorem dX6_order_42 : decode cX6_order 42 = .ok (.ireturn, 1) := by decide +kernel
theorem dX6_stones_0 : decode cX6_stones 0 = .ok (.aload_n 0, 1) := by decide +kernel
theorem dX6_stones_1 : decode cX6_stones 1 = .ok (.getfield 19, 3) := by decide +kernel
theorem dX6_stones_4 : decode cX6_stones 4 = .ok (.iload_n 1, 1) := by decide +kernel
theorem dX6_stones_5 : decode cX6_stones 5 = .ok (.invokevirtual 149, 3) := by decide +kernel
theorem dX6_stones_8 : decode cX6_stones 8 = .ok (.ifCond .ne 6, 3) := by decide +kernel
theorem dX6_stones_11 : decode cX6_stones 11 = .ok (.ldc 139, 2) := by decide +kernel
theorem dX6_stones_13 : decode cX6_stones 13 = .ok (.ireturn, 1) := by decide +kernel
theorem dX6_stones_14 : decode cX6_stones 14 = .ok (.iload_n 2, 1) := by decide +kernel
theorem dX6_stones_15 : decode cX6_stones 15 = .ok (.ifCond .lt 9, 3) := by decide +kernel
theorem dX6_stones_18 : decode cX6_stones 18 = .ok (.iload_n 2, 1) := by decide +kernel
theorem dX6_stones_19 : decode cX6_stones 19 = .ok (.bipush 9, 2) := by decide +kernel
theorem dX6_stones_21 : decode cX6_stones 21 = .ok (.if_icmp .le 6, 3) := by decide +kernel
theorem dX6_stones_24 : decode cX6_stones 24 = .ok (.ldc 67, 2) := by decide +kernel
theorem dX6_stones_26 : decode cX6_stones 26 = .ok (.ireturn, 1) := by decide +kernel
theorem dX6_stones_27 : decode cX6_stones 27 = .ok (.aload_n 0, 1) := by decide +kernel
theorem dX6_stones_28 : decode cX6_stones 28 = .ok (.getfield 19, 3) := by decide +kernel
theorem dX6_stones_31 : decode cX6_stones 31 = .ok (.getfield 104, 3) := by decide +kernel
theorem dX6_stones_34 : decode cX6_stones 34 = .ok (.iload_n 1, 1) := by decide +kernel
theorem dX6_stones_35 : decode cX6_stones 35 = .ok (.invokestatic 143, 3) := by decide +kernel
theorem dX6_stones_38 : decode cX6_stones 38 = .ok (.istore_n 3, 1) := by decide +kernel
theorem dX6_stones_39 : decode cX6_stones 39 = .ok (.aload_n 0, 1) := by decide +kernel
theorem dX6_stones_40 : decode cX6_stones 40 = .ok (.getfield 19, 3) := by decide +kernel
theorem dX6_stones_43 : decode cX6_stones 43 = .ok (.getfield 104, 3) := by decide +kernel
theorem dX6_stones_46 : decode cX6_stones 46 = .ok (.iload_n 1, 1) := by decide +kernel
theorem dX6_stones_47 : decode cX6_stones 47 = .ok (.iload_n 2, 1) := by decide +kernel
theorem dX6_stones_48 : decode cX6_stones 48 = .ok (.invokestatic 184, 3) := by decide +kernel
theorem dX6_stones_51 : decode cX6_stones 51 = .ok (.iload_n 3, 1) := by decide +kernel
theorem dX6_stones_52 : decode cX6_stones 52 = .ok (.ireturn, 1) := by decide +kernel
theorem dX6_law_0 : decode cX6_law 0 = .ok (.iload_n 1, 1) := by decide +kernel
theorem dX6_law_1 : decode cX6_law 1 = .ok (.ifCond .lt 8, 3) := by decide +kernel
theorem dX6_law_4 : decode cX6_law 4 = .ok (.iload_n 1, 1) := by decide +kernel
theorem dX6_law_5 : decode cX6_law 5 = .ok (.iconst 2, 1) := by decide +kernel
theorem dX6_law_6 : decode cX6_law 6 = .ok (.if_icmp .le 6, 3) := by decide +kernel
theorem dX6_law_9 : decode cX6_law 9 = .ok (.ldc 67, 2) := by decide +kernel
theorem dX6_law_11 : decode cX6_law 11 = .ok (.ireturn, 1) := by decide +kernel
theorem dX6_law_12 : decode cX6_law 12 = .ok (.aload_n 0, 1) := by decide +kernel
theorem dX6_law_13 : decode cX6_law 13 = .ok (.getfield 19, 3) := by decide +kernel
theorem dX6_law_16 : decode cX6_law 16 = .ok (.getfield 117, 3) := by decide +kernel
theorem dX6_law_19 : decode cX6_law 19 = .ok (.istore_n 2, 1) := by decide +kernel
theorem dX6_law_20 : decode cX6_law 20 = .ok (.aload_n 0, 1) := by decide +kernel
theorem dX6_law_21 : decode cX6_law 21 = .ok (.getfield 19, 3) := by decide +kernel
theorem dX6_law_24 : decode cX6_law 24 = .ok (.iload_n 1, 1) := by decide +kernel
theorem dX6_law_25 : decode cX6_law 25 = .ok (.putfield 117, 3) := by decide +kernel
theorem dX6_law_28 : decode cX6_law 28 = .ok (.iload_n 2, 1) := by decide +kernel
theorem dX6_law_29 : decode cX6_law 29 = .ok (.ireturn, 1) := by decide +kernel
theorem dX6_price_0 : decode cX6_price 0 = .ok (.iload_n 1, 1) := by decide +kernel
theorem dX6_price_1 : decode cX6_price 1 = .ok (.ifCond .lt 9, 3) := by decide +kernel
theorem dX6_price_4 : decode cX6_price 4 = .ok (.iload_n 1, 1) := by decide +kernel
theorem dX6_price_5 : decode cX6_price 5 = .ok (.bipush 99, 2) := by decide +kernel
theorem dX6_price_7 : decode cX6_price 7 = .ok (.if_icmp .le 6, 3) := by decide +kernel
theorem dX6_price_10 : decode cX6_price 10 = .ok (.ldc 67, 2) := by decide +kernel
theorem dX6_price_12 : decode cX6_price 12 = .ok (.ireturn, 1) := by decide +kernel
theorem dX6_price_13 : decode cX6_price 13 = .ok (.aload_n 0, 1) := by decide +kernel
theorem dX6_price_14 : decode cX6_price 14 = .ok (.getfield 19, 3) := by decide +kernel
theorem dX6_price_17 : decode cX6_price 17 = .ok (.getfield 114, 3) := by decide +kernel
theorem dX6_price_20 : decode cX6_price 20 = .ok (.istore_n 2, 1) := by decide +kernel
theorem dX6_price_21 : decode cX6_price 21 = .ok (.aload_n 0, 1) := by decide +kernel
theorem dX6_price_22 : decode cX6_price 22 = .ok (.getfield 19, 3) := by decide +kernel
theorem dX6_price_25 : decode cX6_price 25 = .ok (.iload_n 1, 1) := by decide +kernel
theorem dX6_price_26 : decode cX6_price 26 = .ok (.putfield 114, 3) := by decide +kernel
theorem dX6_price_29 : decode cX6_price 29 = .ok (.iload_n 2, 1) := by decide +kernel
theorem dX6_price_30 : decode cX6_price 30 = .ok (.ireturn, 1) := by decide +kernel
theorem dX6_drift_0 : decode cX6_drift 0 = .ok (.iload_n 1, 1) := by decide +kernel
theorem dX6_drift_1 : decode cX6_drift 1 = .ok (.iconst 1, 1) := by decide +kernel
theorem dX6_drift_2 : decode cX6_drift 2 = .ok (.if_icmp .lt 9, 3) := by decide +kernel
theorem dX6_drift_5 : decode cX6_drift 5 = .ok (.iload_n 1, 1) := by decide +kernel
theorem dX6_drift_6 : decode cX6_drift 6 = .ok (.bipush 99, 2) := by decide +kernel
theorem dX6_drift_8 : decode cX6_drift 8 = .ok (.if_icmp .le 6, 3) := by decide +kernel
theorem dX6_drift_11 : decode cX6_drift 11 = .ok (.ldc 67, 2) := by decide +kernel
theorem dX6_drift_13 : decode cX6_drift 13 = .ok (.ireturn, 1) := by decide +kernel
theorem dX6_drift_14 : decode cX6_drift 14 = .ok (.aload_n 0, 1) := by decide +kernel
theorem dX6_drift_15 : decode cX6_drift 15 = .ok (.getfield 19, 3) := by decide +kernel
theorem dX6_drift_18 : decode cX6_drift 18 = .ok (.getfield 98, 3) := by decide +kernel
theorem dX6_drift_21 : decode cX6_drift 21 = .ok (.ifCond .ne 6, 3) := by decide +kernel
theorem dX6_drift_24 : decode cX6_drift 24 = .ok (.ldc 188, 2) := by decide +kernel
theorem dX6_drift_26 : decode cX6_drift 26 = .ok (.ireturn, 1) := by decide +kernel
theorem dX6_drift_27 : decode cX6_drift 27 = .ok (.iconst 0, 1) := by decide +kernel
theorem dX6_drift_28 : decode cX6_drift 28 = .ok (.istore_n 2, 1) := by decide +kernel
theorem dX6_drift_29 : decode cX6_drift 29 = .ok (.iconst 0, 1) := by decide +kernel
theorem dX6_drift_30 : decode cX6_drift 30 = .ok (.istore_n 3, 1) := by decide +kernel
theorem dX6_drift_31 : decode cX6_drift 31 = .ok (.iload_n 3, 1) := by decide +kernel
theorem dX6_drift_32 : decode cX6_drift 32 = .ok (.iload_n 1, 1) := by decide +kernel
theorem dX6_drift_33 : decode cX6_drift 33 = .ok (.if_icmp .ge 55, 3) := by decide +kernel
theorem dX6_drift_36 : decode cX6_drift 36 = .ok (.aload_n 0, 1) := by decide +kernel
theorem dX6_drift_37 : decode cX6_drift 37 = .ok (.getfield 19, 3) := by decide +kernel
theorem dX6_drift_40 : decode cX6_drift 40 = .ok (.invokevirtual 189, 3) := by decide +kernel
theorem dX6_drift_43 : decode cX6_drift 43 = .ok (.aload_n 0, 1) := by decide +kernel
theorem dX6_drift_44 : decode cX6_drift 44 = .ok (.getfield 26, 3) := by decide +kernel
theorem dX6_drift_47 : decode cX6_drift 47 = .ok (.aload_n 0, 1) := by decide +kernel
theorem dX6_drift_48 : decode cX6_drift 48 = .ok (.getfield 19, 3) := by decide +kernel
theorem dX6_drift_51 : decode cX6_drift 51 = .ok (.aload_n 0, 1) := by decide +kernel
theorem dX6_drift_52 : decode cX6_drift 52 = .ok (.getfield 19, 3) := by decide +kernel
theorem dX6_drift_55 : decode cX6_drift 55 = .ok (.getfield 104, 3) := by decide +kernel
theorem dX6_drift_58 : decode cX6_drift 58 = .ok (.invokevirtual 107, 3) := by decide +kernel
theorem dX6_drift_61 : decode cX6_drift 61 = .ok (.iload_n 2, 1) := by decide +kernel
theorem dX6_drift_62 : decode cX6_drift 62 = .ok (.aload_n 0, 1) := by decide +kernel
theorem dX6_drift_63 : decode cX6_drift 63 = .ok (.getfield 26, 3) := by decide +kernel
theorem dX6_drift_66 : decode cX6_drift 66 = .ok (.aload_n 0, 1) := by decide +kernel
theorem dX6_drift_67 : decode cX6_drift 67 = .ok (.getfield 19, 3) := by decide +kernel
theorem dX6_drift_70 : decode cX6_drift 70 = .ok (.aload_n 0, 1) := by decide +kernel
theorem dX6_drift_71 : decode cX6_drift 71 = .ok (.getfield 19, 3) := by decide +kernel
theorem dX6_drift_74 : decode cX6_drift 74 = .ok (.getfield 104, 3) := by decide +kernel
theorem dX6_drift_77 : decode cX6_drift 77 = .ok (.invokevirtual 131, 3) := by decide +kernel
theorem dX6_drift_80 : decode cX6_drift 80 = .ok (.iadd, 1) := by decide +kernel
theorem dX6_drift_81 : decode cX6_drift 81 = .ok (.istore_n 2, 1) := by decide +kernel
theorem dX6_drift_82 : decode cX6_drift 82 = .ok (.iinc 3 1, 3) := by decide +kernel
theorem dX6_drift_85 : decode cX6_drift 85 = .ok (.goto (-54), 3) := by decide +kernel
theorem dX6_drift_88 : decode cX6_drift 88 = .ok (.iload_n 2, 1) := by decide +kernel
theorem dX6_drift_89 : decode cX6_drift 89 = .ok (.ireturn, 1) := by decide +kernel
theorem dX6_shortest_0 : decode cX6_shortest 0 = .ok (.aload_n 0, 1) := by decide +kernel
theorem dX6_shortest_1 : decode cX6_shortest 1 = .ok (.invokevirtual 192, 3) := by decide +kernel
theorem dX6_shortest_4 : decode cX6_shortest 4 = .ok (.ifCond .eq 6, 3) := by decide +kernel
theorem dX6_shortest_7 : decode cX6_shortest 7 = .ok (.ldc 188, 2) := by decide +kernel
theorem dX6_shortest_9 : decode cX6_shortest 9 = .ok (.ireturn, 1) := by decide +kernel
theorem dX6_shortest_10 : decode cX6_shortest 10 = .ok (.aload_n 0, 1) := by decide +kernel
theorem dX6_shortest_11 : decode cX6_shortest 11 = .ok (.getfield 33, 3) := by decide +kernel
theorem dX6_shortest_14 : decode cX6_shortest 14 = .ok (.aload_n 0, 1) := by decide +kernel
theorem dX6_shortest_15 : decode cX6_shortest 15 = .ok (.getfield 19, 3) := by decide +kernel
theorem dX6_shortest_18 : decode cX6_shortest 18 = .ok (.iconst 0, 1) := by decide +kernel
theorem dX6_shortest_19 : decode cX6_shortest 19 = .ok (.invokevirtual 196, 3) := by decide +kernel
theorem dX6_shortest_22 : decode cX6_shortest 22 = .ok (.iload_n 1, 1) := by decide +kernel
theorem dX6_shortest_23 : decode cX6_shortest 23 = .ok (.iconst (-1), 1) := by decide +kernel
theorem dX6_shortest_24 : decode cX6_shortest 24 = .ok (.if_icmp .ne 11, 3) := by decide +kernel
theorem dX6_shortest_27 : decode cX6_shortest 27 = .ok (.aload_n 0, 1) := by decide +kernel
theorem dX6_shortest_28 : decode cX6_shortest 28 = .ok (.getfield 33, 3) := by decide +kernel
theorem dX6_shortest_31 : decode cX6_shortest 31 = .ok (.getfield 200, 3) := by decide +kernel
theorem dX6_shortest_34 : decode cX6_shortest 34 = .ok (.ireturn, 1) := by decide +kernel
theorem dX6_shortest_35 : decode cX6_shortest 35 = .ok (.iload_n 1, 1) := by decide +kernel
theorem dX6_shortest_36 : decode cX6_shortest 36 = .ok (.bipush (-2), 2) := by decide +kernel
theorem dX6_shortest_38 : decode cX6_shortest 38 = .ok (.if_icmp .ne 13, 3) := by decide +kernel
theorem dX6_shortest_41 : decode cX6_shortest 41 = .ok (.aload_n 0, 1) := by decide +kernel
theorem dX6_shortest_42 : decode cX6_shortest 42 = .ok (.getfield 33, 3) := by decide +kernel
theorem dX6_shortest_45 : decode cX6_shortest 45 = .ok (.getfield 203, 3) := by decide +kernel
theorem dX6_shortest_48 : decode cX6_shortest 48 = .ok (.goto 18, 3) := by decide +kernel
theorem dX6_shortest_51 : decode cX6_shortest 51 = .ok (.aload_n 0, 1) := by decide +kernel
theorem dX6_shortest_52 : decode cX6_shortest 52 = .ok (.getfield 33, 3) := by decide +kernel
theorem dX6_shortest_55 : decode cX6_shortest 55 = .ok (.iload_n 1, 1) := by decide +kernel
theorem dX6_shortest_56 : decode cX6_shortest 56 = .ok (.aload_n 0, 1) := by decide +kernel
theorem dX6_shortest_57 : decode cX6_shortest 57 = .ok (.getfield 19, 3) := by decide +kernel
theorem dX6_shortest_60 : decode cX6_shortest 60 = .ok (.getfield 98, 3) := by decide +kernel
theorem dX6_shortest_63 : decode cX6_shortest 63 = .ok (.invokevirtual 206, 3) := by decide +kernel
theorem dX6_shortest_66 : decode cX6_shortest 66 = .ok (.ireturn, 1) := by decide +kernel
theorem dX6_inTime_0 : decode cX6_inTime 0 = .ok (.aload_n 0, 1) := by decide +kernel
theorem dX6_inTime_1 : decode cX6_inTime 1 = .ok (.invokevirtual 192, 3) := by decide +kernel
theorem dX6_inTime_4 : decode cX6_inTime 4 = .ok (.ifCond .eq 6, 3) := by decide +kernel
theorem dX6_inTime_7 : decode cX6_inTime 7 = .ok (.ldc 188, 2) := by decide +kernel
theorem dX6_inTime_9 : decode cX6_inTime 9 = .ok (.ireturn, 1) := by decide +kernel
theorem dX6_inTime_10 : decode cX6_inTime 10 = .ok (.aload_n 0, 1) := by decide +kernel
theorem dX6_inTime_11 : decode cX6_inTime 11 = .ok (.getfield 33, 3) := by decide +kernel
theorem dX6_inTime_14 : decode cX6_inTime 14 = .ok (.aload_n 0, 1) := by decide +kernel
theorem dX6_inTime_15 : decode cX6_inTime 15 = .ok (.getfield 19, 3) := by decide +kernel
theorem dX6_inTime_18 : decode cX6_inTime 18 = .ok (.iconst 1, 1) := by decide +kernel
theorem dX6_inTime_19 : decode cX6_inTime 19 = .ok (.invokevirtual 196, 3) := by decide +kernel
theorem dX6_inTime_22 : decode cX6_inTime 22 = .ok (.aload_n 0, 1) := by decide +kernel
theorem dX6_inTime_23 : decode cX6_inTime 23 = .ok (.getfield 33, 3) := by decide +kernel
theorem dX6_inTime_26 : decode cX6_inTime 26 = .ok (.getfield 209, 3) := by decide +kernel
theorem dX6_inTime_29 : decode cX6_inTime 29 = .ok (.ifCond .ne 5, 3) := by decide +kernel
theorem dX6_inTime_32 : decode cX6_inTime 32 = .ok (.iconst (-1), 1) := by decide +kernel
theorem dX6_inTime_33 : decode cX6_inTime 33 = .ok (.ireturn, 1) := by decide +kernel
theorem dX6_inTime_34 : decode cX6_inTime 34 = .ok (.iload_n 1, 1) := by decide +kernel
theorem dX6_inTime_35 : decode cX6_inTime 35 = .ok (.iconst (-1), 1) := by decide +kernel
theorem dX6_inTime_36 : decode cX6_inTime 36 = .ok (.if_icmp .ne 11, 3) := by decide +kernel
theorem dX6_inTime_39 : decode cX6_inTime 39 = .ok (.aload_n 0, 1) := by decide +kernel
theorem dX6_inTime_40 : decode cX6_inTime 40 = .ok (.getfield 33, 3) := by decide +kernel
theorem dX6_inTime_43 : decode cX6_inTime 43 = .ok (.getfield 203, 3) := by decide +kernel
theorem dX6_inTime_46 : decode cX6_inTime 46 = .ok (.ireturn, 1) := by decide +kernel
theorem dX6_inTime_47 : decode cX6_inTime 47 = .ok (.iload_n 1, 1) := by decide +kernel
theorem dX6_inTime_48 : decode cX6_inTime 48 = .ok (.bipush (-2), 2) := by decide +kernel
theorem dX6_inTime_50 : decode cX6_inTime 50 = .ok (.if_icmp .ne 13, 3) := by decide +kernel
theorem dX6_inTime_53 : decode cX6_inTime 53 = .ok (.aload_n 0, 1) := by decide +kernel
theorem dX6_inTime_54 : decode cX6_inTime 54 = .ok (.getfield 33, 3) := by decide +kernel
theorem dX6_inTime_57 : decode cX6_inTime 57 = .ok (.getfield 200, 3) := by decide +kernel
theorem dX6_inTime_60 : decode cX6_inTime 60 = .ok (.goto 18, 3) := by decide +kernel
theorem dX6_inTime_63 : decode cX6_inTime 63 = .ok (.aload_n 0, 1) := by decide +kernel
theorem dX6_inTime_64 : decode cX6_inTime 64 = .ok (.getfield 33, 3) := by decide +kernel
theorem dX6_inTime_67 : decode cX6_inTime 67 = .ok (.iload_n 1, 1) := by decide +kernel
theorem dX6_inTime_68 : decode cX6_inTime 68 = .ok (.aload_n 0, 1) := by decide +kernel
theorem dX6_inTime_69 : decode cX6_inTime 69 = .ok (.getfield 19, 3) := by decide +kernel
theorem dX6_inTime_72 : decode cX6_inTime 72 = .ok (.getfield 98, 3) := by decide +kernel
theorem dX6_inTime_75 : decode cX6_inTime 75 = .ok (.invokevirtual 206, 3) := by decide +kernel
theorem dX6_inTime_78 : decode cX6_inTime 78 = .ok (.ireturn, 1) := by decide +kernel
theorem dX6_answer_0 : decode cX6_answer 0 = .ok (.aload_n 0, 1) := by decide +kernel
theorem dX6_answer_1 : decode cX6_answer 1 = .ok (.getfield 19, 3) := by decide +kernel
theorem dX6_answer_4 : decode cX6_answer 4 = .ok (.iload_n 1, 1) := by decide +kernel
theorem dX6_answer_5 : decode cX6_answer 5 = .ok (.invokevirtual 149, 3) := by decide +kernel
theorem dX6_answer_8 : decode cX6_answer 8 = .ok (.ifCond .ne 6, 3) := by decide +kernel
theorem dX6_answer_11 : decode cX6_answer 11 = .ok (.ldc 139, 2) := by decide +kernel
theorem dX6_answer_13 : decode cX6_answer 13 = .ok (.ireturn, 1) := by decide +kernel
theorem dX6_answer_14 : decode cX6_answer 14 = .ok (.aload_n 0, 1) := by decide +kernel
theorem dX6_answer_15 : decode cX6_answer 15 = .ok (.getfield 40, 3) := by decide +kernel
theorem dX6_answer_18 : decode cX6_answer 18 = .ok (.aload_n 0, 1) := by decide +kernel
theorem dX6_answer_19 : decode cX6_answer 19 = .ok (.getfield 19, 3) := by decide +kernel
theorem dX6_answer_22 : decode cX6_answer 22 = .ok (.invokevirtual 212, 3) := by decide +kernel
theorem dX6_answer_25 : decode cX6_answer 25 = .ok (.aload_n 0, 1) := by decide +kernel
theorem dX6_answer_26 : decode cX6_answer 26 = .ok (.getfield 40, 3) := by decide +kernel
theorem dX6_answer_29 : decode cX6_answer 29 = .ok (.aload_n 0, 1) := by decide +kernel
theorem dX6_answer_30 : decode cX6_answer 30 = .ok (.getfield 19, 3) := by decide +kernel
theorem dX6_answer_33 : decode cX6_answer 33 = .ok (.iload_n 1, 1) := by decide +kernel
theorem dX6_answer_34 : decode cX6_answer 34 = .ok (.aload_n 0, 1) := by decide +kernel
theorem dX6_answer_35 : decode cX6_answer 35 = .ok (.getfield 19, 3) := by decide +kernel
theorem dX6_answer_38 : decode cX6_answer 38 = .ok (.getfield 114, 3) := by decide +kernel
theorem dX6_answer_41 : decode cX6_answer 41 = .ok (.invokevirtual 215, 3) := by decide +kernel
theorem dX6_answer_44 : decode cX6_answer 44 = .ok (.ireturn, 1) := by decide +kernel
theorem dX6_rests_0 : decode cX6_rests 0 = .ok (.iload_n 1, 1) := by decide +kernel
theorem dX6_rests_1 : decode cX6_rests 1 = .ok (.bipush (-3), 2) := by decide +kernel
theorem dX6_rests_3 : decode cX6_rests 3 = .ok (.if_icmp .lt 14, 3) := by decide +kernel
theorem dX6_rests_6 : decode cX6_rests 6 = .ok (.iload_n 1, 1) := by decide +kernel
theorem dX6_rests_7 : decode cX6_rests 7 = .ok (.aload_n 0, 1) := by decide +kernel
theorem dX6_rests_8 : decode cX6_rests 8 = .ok (.getfield 19, 3) := by decide +kernel
theorem dX6_rests_11 : decode cX6_rests 11 = .ok (.getfield 98, 3) := by decide +kernel
theorem dX6_rests_14 : decode cX6_rests 14 = .ok (.if_icmp .lt 6, 3) := by decide +kernel
theorem dX6_rests_17 : decode cX6_rests 17 = .ok (.ldc 139, 2) := by decide +kernel
theorem dX6_rests_19 : decode cX6_rests 19 = .ok (.ireturn, 1) := by decide +kernel
theorem dX6_rests_20 : decode cX6_rests 20 = .ok (.aload_n 0, 1) := by decide +kernel
theorem dX6_rests_21 : decode cX6_rests 21 = .ok (.getfield 40, 3) := by decide +kernel
theorem dX6_rests_24 : decode cX6_rests 24 = .ok (.aload_n 0, 1) := by decide +kernel
theorem dX6_rests_25 : decode cX6_rests 25 = .ok (.getfield 19, 3) := by decide +kernel
theorem dX6_rests_28 : decode cX6_rests 28 = .ok (.aload_n 0, 1) := by decide +kernel
theorem dX6_rests_29 : decode cX6_rests 29 = .ok (.getfield 19, 3) := by decide +kernel
theorem dX6_rests_32 : decode cX6_rests 32 = .ok (.getfield 114, 3) := by decide +kernel
theorem dX6_rests_35 : decode cX6_rests 35 = .ok (.invokevirtual 218, 3) := by decide +kernel
theorem dX6_rests_38 : decode cX6_rests 38 = .ok (.ifCond .ne 5, 3) := by decide +kernel
theorem dX6_rests_41 : decode cX6_rests 41 = .ok (.iconst (-1), 1) := by decide +kernel
theorem dX6_rests_42 : decode cX6_rests 42 = .ok (.ireturn, 1) := by decide +kernel
theorem dX6_rests_43 : decode cX6_rests 43 = .ok (.iload_n 1, 1) := by decide +kernel
theorem dX6_rests_44 : decode cX6_rests 44 = .ok (.iconst (-1), 1) := by decide +kernel
theorem dX6_rests_45 : decode cX6_rests 45 = .ok (.if_icmp .ne 11, 3) := by decide +kernel
theorem dX6_rests_48 : decode cX6_rests 48 = .ok (.aload_n 0, 1) := by decide +kernel
theorem dX6_rests_49 : decode cX6_rests 49 = .ok (.getfield 40, 3) := by decide +kernel
theorem dX6_rests_52 : decode cX6_rests 52 = .ok (.getfield 222, 3) := by decide +kernel
theorem dX6_rests_55 : decode cX6_rests 55 = .ok (.ireturn, 1) := by decide +kernel
theorem dX6_rests_56 : decode cX6_rests 56 = .ok (.iload_n 1, 1) := by decide +kernel
theorem dX6_rests_57 : decode cX6_rests 57 = .ok (.ifCond .lt 15, 3) := by decide +kernel
theorem dX6_rests_60 : decode cX6_rests 60 = .ok (.aload_n 0, 1) := by decide +kernel
theorem dX6_rests_61 : decode cX6_rests 61 = .ok (.getfield 40, 3) := by decide +kernel
theorem dX6_rests_64 : decode cX6_rests 64 = .ok (.getfield 225, 3) := by decide +kernel
theorem dX6_rests_67 : decode cX6_rests 67 = .ok (.iload_n 1, 1) := by decide +kernel
theorem dX6_rests_68 : decode cX6_rests 68 = .ok (.invokestatic 143, 3) := by decide +kernel
theorem dX6_rests_71 : decode cX6_rests 71 = .ok (.ireturn, 1) := by decide +kernel
theorem dX6_rests_72 : decode cX6_rests 72 = .ok (.aload_n 0, 1) := by decide +kernel
theorem dX6_rests_73 : decode cX6_rests 73 = .ok (.getfield 26, 3) := by decide +kernel
theorem dX6_rests_76 : decode cX6_rests 76 = .ok (.aload_n 0, 1) := by decide +kernel
theorem dX6_rests_77 : decode cX6_rests 77 = .ok (.getfield 19, 3) := by decide +kernel
theorem dX6_rests_80 : decode cX6_rests 80 = .ok (.aload_n 0, 1) := by decide +kernel
theorem dX6_rests_81 : decode cX6_rests 81 = .ok (.getfield 40, 3) := by decide +kernel
theorem dX6_rests_84 : decode cX6_rests 84 = .ok (.getfield 225, 3) := by decide +kernel
theorem dX6_rests_87 : decode cX6_rests 87 = .ok (.invokevirtual 107, 3) := by decide +kernel
theorem dX6_rests_90 : decode cX6_rests 90 = .ok (.iload_n 1, 1) := by decide +kernel
theorem dX6_rests_91 : decode cX6_rests 91 = .ok (.bipush (-2), 2) := by decide +kernel
theorem dX6_rests_93 : decode cX6_rests 93 = .ok (.if_icmp .ne 24, 3) := by decide +kernel
theorem dX6_rests_96 : decode cX6_rests 96 = .ok (.aload_n 0, 1) := by decide +kernel
theorem dX6_rests_97 : decode cX6_rests 97 = .ok (.getfield 26, 3) := by decide +kernel
theorem dX6_rests_100 : decode cX6_rests 100 = .ok (.aload_n 0, 1) := by decide +kernel
theorem dX6_rests_101 : decode cX6_rests 101 = .ok (.getfield 19, 3) := by decide +kernel
theorem dX6_rests_104 : decode cX6_rests 104 = .ok (.aload_n 0, 1) := by decide +kernel
theorem dX6_rests_105 : decode cX6_rests 105 = .ok (.getfield 40, 3) := by decide +kernel
theorem dX6_rests_108 : decode cX6_rests 108 = .ok (.getfield 225, 3) := by decide +kernel
theorem dX6_rests_111 : decode cX6_rests 111 = .ok (.invokevirtual 131, 3) := by decide +kernel
theorem dX6_rests_114 : decode cX6_rests 114 = .ok (.goto 10, 3) := by decide +kernel
theorem dX6_rests_117 : decode cX6_rests 117 = .ok (.aload_n 0, 1) := by decide +kernel
theorem dX6_rests_118 : decode cX6_rests 118 = .ok (.getfield 26, 3) := by decide +kernel
theorem dX6_rests_121 : decode cX6_rests 121 = .ok (.getfield 120, 3) := by decide +kernel
theorem dX6_rests_124 : decode cX6_rests 124 = .ok (.ireturn, 1) := by decide +kernel
theorem dX6_best_0 : decode cX6_best 0 = .ok (.iconst (-1), 1) := by decide +kernel
theorem dX6_best_1 : decode cX6_best 1 = .ok (.istore_n 1, 1) := by decide +kernel
theorem dX6_best_2 : decode cX6_best 2 = .ok (.iconst 0, 1) := by decide +kernel
theorem dX6_best_3 : decode cX6_best 3 = .ok (.istore_n 2, 1) := by decide +kernel
theorem dX6_best_4 : decode cX6_best 4 = .ok (.iconst 0, 1) := by decide +kernel
theorem dX6_best_5 : decode cX6_best 5 = .ok (.istore_n 3, 1) := by decide +kernel
theorem dX6_best_6 : decode cX6_best 6 = .ok (.iload_n 3, 1) := by decide +kernel
theorem dX6_best_7 : decode cX6_best 7 = .ok (.bipush 20, 2) := by decide +kernel
theorem dX6_best_9 : decode cX6_best 9 = .ok (.if_icmp .gt 68, 3) := by decide +kernel
theorem dX6_best_12 : decode cX6_best 12 = .ok (.aload_n 0, 1) := by decide +kernel
theorem dX6_best_13 : decode cX6_best 13 = .ok (.getfield 40, 3) := by decide +kernel
theorem dX6_best_16 : decode cX6_best 16 = .ok (.aload_n 0, 1) := by decide +kernel
theorem dX6_best_17 : decode cX6_best 17 = .ok (.getfield 19, 3) := by decide +kernel
theorem dX6_best_20 : decode cX6_best 20 = .ok (.iload_n 3, 1) := by decide +kernel
theorem dX6_best_21 : decode cX6_best 21 = .ok (.invokevirtual 218, 3) := by decide +kernel
theorem dX6_best_24 : decode cX6_best 24 = .ok (.ifCond .eq 47, 3) := by decide +kernel
theorem dX6_best_27 : decode cX6_best 27 = .ok (.aload_n 0, 1) := by decide +kernel
theorem dX6_best_28 : decode cX6_best 28 = .ok (.getfield 26, 3) := by decide +kernel
theorem dX6_best_31 : decode cX6_best 31 = .ok (.aload_n 0, 1) := by decide +kernel
theorem dX6_best_32 : decode cX6_best 32 = .ok (.getfield 19, 3) := by decide +kernel
theorem dX6_best_35 : decode cX6_best 35 = .ok (.aload_n 0, 1) := by decide +kernel
theorem dX6_best_36 : decode cX6_best 36 = .ok (.getfield 40, 3) := by decide +kernel
theorem dX6_best_39 : decode cX6_best 39 = .ok (.getfield 225, 3) := by decide +kernel
theorem dX6_best_42 : decode cX6_best 42 = .ok (.invokevirtual 107, 3) := by decide +kernel
theorem dX6_best_45 : decode cX6_best 45 = .ok (.iload_n 1, 1) := by decide +kernel
theorem dX6_best_46 : decode cX6_best 46 = .ok (.iconst (-1), 1) := by decide +kernel
theorem dX6_best_47 : decode cX6_best 47 = .ok (.if_icmp .eq 14, 3) := by decide +kernel
theorem dX6_best_50 : decode cX6_best 50 = .ok (.aload_n 0, 1) := by decide +kernel
theorem dX6_best_51 : decode cX6_best 51 = .ok (.getfield 26, 3) := by decide +kernel
theorem dX6_best_54 : decode cX6_best 54 = .ok (.getfield 120, 3) := by decide +kernel
theorem dX6_best_57 : decode cX6_best 57 = .ok (.iload_n 2, 1) := by decide +kernel
theorem dX6_best_58 : decode cX6_best 58 = .ok (.if_icmp .ge 13, 3) := by decide +kernel
theorem dX6_best_61 : decode cX6_best 61 = .ok (.iload_n 3, 1) := by decide +kernel
theorem dX6_best_62 : decode cX6_best 62 = .ok (.istore_n 1, 1) := by decide +kernel
theorem dX6_best_63 : decode cX6_best 63 = .ok (.aload_n 0, 1) := by decide +kernel
theorem dX6_best_64 : decode cX6_best 64 = .ok (.getfield 26, 3) := by decide +kernel
theorem dX6_best_67 : decode cX6_best 67 = .ok (.getfield 120, 3) := by decide +kernel
theorem dX6_best_70 : decode cX6_best 70 = .ok (.istore_n 2, 1) := by decide +kernel
theorem dX6_best_71 : decode cX6_best 71 = .ok (.iinc 3 1, 3) := by decide +kernel
theorem dX6_best_74 : decode cX6_best 74 = .ok (.goto (-68), 3) := by decide +kernel
theorem dX6_best_77 : decode cX6_best 77 = .ok (.iload_n 1, 1) := by decide +kernel
theorem dX6_best_78 : decode cX6_best 78 = .ok (.ireturn, 1) := by decide +kernel
theorem dX6_agreed_0 : decode cX6_agreed 0 = .ok (.iload_n 1, 1) := by decide +kernel
theorem dX6_agreed_1 : decode cX6_agreed 1 = .ok (.ifCond .le 16, 3) := by decide +kernel
theorem dX6_agreed_4 : decode cX6_agreed 4 = .ok (.iload_n 1, 1) := by decide +kernel
theorem dX6_agreed_5 : decode cX6_agreed 5 = .ok (.iconst 1, 1) := by decide +kernel
theorem dX6_agreed_6 : decode cX6_agreed 6 = .ok (.aload_n 0, 1) := by decide +kernel
theorem dX6_agreed_7 : decode cX6_agreed 7 = .ok (.getfield 19, 3) := by decide +kernel
theorem dX6_agreed_10 : decode cX6_agreed 10 = .ok (.getfield 98, 3) := by decide +kernel
theorem dX6_agreed_13 : decode cX6_agreed 13 = .ok (.ishl, 1) := by decide +kernel
theorem dX6_agreed_14 : decode cX6_agreed 14 = .ok (.if_icmp .lt 6, 3) := by decide +kernel
theorem dX6_agreed_17 : decode cX6_agreed 17 = .ok (.ldc 139, 2) := by decide +kernel
theorem dX6_agreed_19 : decode cX6_agreed 19 = .ok (.ireturn, 1) := by decide +kernel
theorem dX6_agreed_20 : decode cX6_agreed 20 = .ok (.iload_n 2, 1) := by decide +kernel
theorem dX6_agreed_21 : decode cX6_agreed 21 = .ok (.ifCond .lt 8, 3) := by decide +kernel
theorem dX6_agreed_24 : decode cX6_agreed 24 = .ok (.iload_n 2, 1) := by decide +kernel
theorem dX6_agreed_25 : decode cX6_agreed 25 = .ok (.iconst 1, 1) := by decide +kernel
theorem dX6_agreed_26 : decode cX6_agreed 26 = .ok (.if_icmp .le 6, 3) := by decide +kernel
theorem dX6_agreed_29 : decode cX6_agreed 29 = .ok (.ldc 67, 2) := by decide +kernel
theorem dX6_agreed_31 : decode cX6_agreed 31 = .ok (.ireturn, 1) := by decide +kernel
theorem dX6_agreed_32 : decode cX6_agreed 32 = .ok (.aload_n 0, 1) := by decide +kernel
theorem dX6_agreed_33 : decode cX6_agreed 33 = .ok (.iload_n 1, 1) := by decide +kernel
theorem dX6_agreed_34 : decode cX6_agreed 34 = .ok (.invokevirtual 226, 3) := by decide +kernel
theorem dX6_agreed_37 : decode cX6_agreed 37 = .ok (.ifCond .ne 6, 3) := by decide +kernel
theorem dX6_agreed_40 : decode cX6_agreed 40 = .ok (.ldc 188, 2) := by decide +kernel
theorem dX6_agreed_42 : decode cX6_agreed 42 = .ok (.ireturn, 1) := by decide +kernel
theorem dX6_agreed_43 : decode cX6_agreed 43 = .ok (.aload_n 0, 1) := by decide +kernel
theorem dX6_agreed_44 : decode cX6_agreed 44 = .ok (.getfield 19, 3) := by decide +kernel
theorem dX6_agreed_47 : decode cX6_agreed 47 = .ok (.getfield 98, 3) := by decide +kernel
theorem dX6_agreed_50 : decode cX6_agreed 50 = .ok (.istore_n 3, 1) := by decide +kernel
theorem dX6_agreed_51 : decode cX6_agreed 51 = .ok (.iload_n 2, 1) := by decide +kernel
theorem dX6_agreed_52 : decode cX6_agreed 52 = .ok (.iconst 1, 1) := by decide +kernel
theorem dX6_agreed_53 : decode cX6_agreed 53 = .ok (.if_icmp .ne 32, 3) := by decide +kernel
theorem dX6_agreed_56 : decode cX6_agreed 56 = .ok (.aload_n 0, 1) := by decide +kernel
theorem dX6_agreed_57 : decode cX6_agreed 57 = .ok (.getfield 19, 3) := by decide +kernel
theorem dX6_agreed_60 : decode cX6_agreed 60 = .ok (.getfield 114, 3) := by decide +kernel
theorem dX6_agreed_63 : decode cX6_agreed 63 = .ok (.aload_n 0, 1) := by decide +kernel
theorem dX6_agreed_64 : decode cX6_agreed 64 = .ok (.getfield 54, 3) := by decide +kernel
theorem dX6_agreed_67 : decode cX6_agreed 67 = .ok (.iload_n 3, 1) := by decide +kernel
theorem dX6_agreed_68 : decode cX6_agreed 68 = .ok (.invokestatic 123, 3) := by decide +kernel
theorem dX6_agreed_71 : decode cX6_agreed 71 = .ok (.aload_n 0, 1) := by decide +kernel
theorem dX6_agreed_72 : decode cX6_agreed 72 = .ok (.getfield 19, 3) := by decide +kernel
theorem dX6_agreed_75 : decode cX6_agreed 75 = .ok (.getfield 104, 3) := by decide +kernel
theorem dX6_agreed_78 : decode cX6_agreed 78 = .ok (.iload_n 3, 1) := by decide +kernel
theorem dX6_agreed_79 : decode cX6_agreed 79 = .ok (.invokestatic 123, 3) := by decide +kernel
theorem dX6_agreed_82 : decode cX6_agreed 82 = .ok (.isub, 1) := by decide +kernel
theorem dX6_agreed_83 : decode cX6_agreed 83 = .ok (.imul, 1) := by decide +kernel
theorem dX6_agreed_84 : decode cX6_agreed 84 = .ok (.ireturn, 1) := by decide +kernel
theorem dX6_agreed_85 : decode cX6_agreed 85 = .ok (.aload_n 0, 1) := by decide +kernel
theorem dX6_agreed_86 : decode cX6_agreed 86 = .ok (.getfield 26, 3) := by decide +kernel
theorem dX6_agreed_89 : decode cX6_agreed 89 = .ok (.aload_n 0, 1) := by decide +kernel
theorem dX6_agreed_90 : decode cX6_agreed 90 = .ok (.getfield 19, 3) := by decide +kernel
theorem dX6_agreed_93 : decode cX6_agreed 93 = .ok (.aload_n 0, 1) := by decide +kernel
theorem dX6_agreed_94 : decode cX6_agreed 94 = .ok (.getfield 19, 3) := by decide +kernel
theorem dX6_agreed_97 : decode cX6_agreed 97 = .ok (.getfield 104, 3) := by decide +kernel
theorem dX6_agreed_100 : decode cX6_agreed 100 = .ok (.invokevirtual 107, 3) := by decide +kernel
theorem dX6_agreed_103 : decode cX6_agreed 103 = .ok (.aload_n 0, 1) := by decide +kernel
theorem dX6_agreed_104 : decode cX6_agreed 104 = .ok (.getfield 26, 3) := by decide +kernel
theorem dX6_agreed_107 : decode cX6_agreed 107 = .ok (.getfield 120, 3) := by decide +kernel
theorem dX6_agreed_110 : decode cX6_agreed 110 = .ok (.istore 4, 2) := by decide +kernel
theorem dX6_agreed_112 : decode cX6_agreed 112 = .ok (.aload_n 0, 1) := by decide +kernel
theorem dX6_agreed_113 : decode cX6_agreed 113 = .ok (.getfield 26, 3) := by decide +kernel
theorem dX6_agreed_116 : decode cX6_agreed 116 = .ok (.aload_n 0, 1) := by decide +kernel
theorem dX6_agreed_117 : decode cX6_agreed 117 = .ok (.getfield 19, 3) := by decide +kernel
theorem dX6_agreed_120 : decode cX6_agreed 120 = .ok (.aload_n 0, 1) := by decide +kernel
theorem dX6_agreed_121 : decode cX6_agreed 121 = .ok (.getfield 54, 3) := by decide +kernel
theorem dX6_agreed_124 : decode cX6_agreed 124 = .ok (.invokevirtual 107, 3) := by decide +kernel
theorem dX6_agreed_127 : decode cX6_agreed 127 = .ok (.iload 4, 2) := by decide +kernel
theorem dX6_agreed_129 : decode cX6_agreed 129 = .ok (.aload_n 0, 1) := by decide +kernel
theorem dX6_agreed_130 : decode cX6_agreed 130 = .ok (.getfield 26, 3) := by decide +kernel
theorem dX6_agreed_133 : decode cX6_agreed 133 = .ok (.getfield 120, 3) := by decide +kernel
theorem dX6_agreed_136 : decode cX6_agreed 136 = .ok (.isub, 1) := by decide +kernel
theorem dX6_agreed_137 : decode cX6_agreed 137 = .ok (.ireturn, 1) := by decide +kernel
theorem dX6_two_0 : decode cX6_two 0 = .ok (.iload_n 1, 1) := by decide +kernel
theorem dX6_two_1 : decode cX6_two 1 = .ok (.ifCond .lt 8, 3) := by decide +kernel
theorem dX6_two_4 : decode cX6_two 4 = .ok (.iload_n 1, 1) := by decide +kernel
theorem dX6_two_5 : decode cX6_two 5 = .ok (.iconst 1, 1) := by decide +kernel
theorem dX6_two_6 : decode cX6_two 6 = .ok (.if_icmp .le 6, 3) := by decide +kernel
theorem dX6_two_9 : decode cX6_two 9 = .ok (.ldc 67, 2) := by decide +kernel
theorem dX6_two_11 : decode cX6_two 11 = .ok (.ireturn, 1) := by decide +kernel
theorem dX6_two_12 : decode cX6_two 12 = .ok (.aload_n 0, 1) := by decide +kernel
theorem dX6_two_13 : decode cX6_two 13 = .ok (.getfield 26, 3) := by decide +kernel
theorem dX6_two_16 : decode cX6_two 16 = .ok (.aload_n 0, 1) := by decide +kernel
theorem dX6_two_17 : decode cX6_two 17 = .ok (.getfield 19, 3) := by decide +kernel
theorem dX6_two_20 : decode cX6_two 20 = .ok (.aload_n 0, 1) := by decide +kernel
theorem dX6_two_21 : decode cX6_two 21 = .ok (.getfield 19, 3) := by decide +kernel
theorem dX6_two_24 : decode cX6_two 24 = .ok (.getfield 104, 3) := by decide +kernel
theorem dX6_two_27 : decode cX6_two 27 = .ok (.invokevirtual 107, 3) := by decide +kernel
theorem dX6_two_30 : decode cX6_two 30 = .ok (.iconst 0, 1) := by decide +kernel
theorem dX6_two_31 : decode cX6_two 31 = .ok (.istore_n 2, 1) := by decide +kernel
theorem dX6_two_32 : decode cX6_two 32 = .ok (.aload_n 0, 1) := by decide +kernel
theorem dX6_two_33 : decode cX6_two 33 = .ok (.getfield 26, 3) := by decide +kernel
theorem dX6_two_36 : decode cX6_two 36 = .ok (.aload_n 0, 1) := by decide +kernel
theorem dX6_two_37 : decode cX6_two 37 = .ok (.getfield 19, 3) := by decide +kernel
theorem dX6_two_40 : decode cX6_two 40 = .ok (.iconst 0, 1) := by decide +kernel
theorem dX6_two_41 : decode cX6_two 41 = .ok (.invokevirtual 229, 3) := by decide +kernel
theorem dX6_two_44 : decode cX6_two 44 = .ok (.istore_n 3, 1) := by decide +kernel
theorem dX6_two_45 : decode cX6_two 45 = .ok (.iconst 1, 1) := by decide +kernel
theorem dX6_two_46 : decode cX6_two 46 = .ok (.istore 4, 2) := by decide +kernel
theorem dX6_two_48 : decode cX6_two 48 = .ok (.iload 4, 2) := by decide +kernel
theorem dX6_two_50 : decode cX6_two 50 = .ok (.aload_n 0, 1) := by decide +kernel
theorem dX6_two_51 : decode cX6_two 51 = .ok (.getfield 19, 3) := by decide +kernel
theorem dX6_two_54 : decode cX6_two 54 = .ok (.getfield 98, 3) := by decide +kernel
theorem dX6_two_57 : decode cX6_two 57 = .ok (.if_icmp .gt 36, 3) := by decide +kernel
theorem dX6_two_60 : decode cX6_two 60 = .ok (.aload_n 0, 1) := by decide +kernel
theorem dX6_two_61 : decode cX6_two 61 = .ok (.getfield 26, 3) := by decide +kernel
theorem dX6_two_64 : decode cX6_two 64 = .ok (.aload_n 0, 1) := by decide +kernel
theorem dX6_two_65 : decode cX6_two 65 = .ok (.getfield 19, 3) := by decide +kernel
theorem dX6_two_68 : decode cX6_two 68 = .ok (.iload 4, 2) := by decide +kernel
theorem dX6_two_70 : decode cX6_two 70 = .ok (.invokevirtual 229, 3) := by decide +kernel
theorem dX6_two_73 : decode cX6_two 73 = .ok (.istore 5, 2) := by decide +kernel
theorem dX6_two_75 : decode cX6_two 75 = .ok (.iload 5, 2) := by decide +kernel
theorem dX6_two_77 : decode cX6_two 77 = .ok (.iload_n 3, 1) := by decide +kernel
theorem dX6_two_78 : decode cX6_two 78 = .ok (.if_icmp .ge 9, 3) := by decide +kernel
theorem dX6_two_81 : decode cX6_two 81 = .ok (.iload 4, 2) := by decide +kernel
theorem dX6_two_83 : decode cX6_two 83 = .ok (.istore_n 2, 1) := by decide +kernel
theorem dX6_two_84 : decode cX6_two 84 = .ok (.iload 5, 2) := by decide +kernel
theorem dX6_two_86 : decode cX6_two 86 = .ok (.istore_n 3, 1) := by decide +kernel
theorem dX6_two_87 : decode cX6_two 87 = .ok (.iinc 4 1, 3) := by decide +kernel
theorem dX6_two_90 : decode cX6_two 90 = .ok (.goto (-42), 3) := by decide +kernel
theorem dX6_two_93 : decode cX6_two 93 = .ok (.iload_n 1, 1) := by decide +kernel
theorem dX6_two_94 : decode cX6_two 94 = .ok (.ifCond .ne 7, 3) := by decide +kernel
theorem dX6_two_97 : decode cX6_two 97 = .ok (.iload_n 2, 1) := by decide +kernel
theorem dX6_two_98 : decode cX6_two 98 = .ok (.goto 4, 3) := by decide +kernel
theorem dX6_two_101 : decode cX6_two 101 = .ok (.iload_n 3, 1) := by decide +kernel
theorem dX6_two_102 : decode cX6_two 102 = .ok (.ireturn, 1) := by decide +kernel
theorem dX6_came_0 : decode cX6_came 0 = .ok (.aload_n 0, 1) := by decide +kernel
theorem dX6_came_1 : decode cX6_came 1 = .ok (.getfield 19, 3) := by decide +kernel
theorem dX6_came_4 : decode cX6_came 4 = .ok (.iload_n 1, 1) := by decide +kernel
theorem dX6_came_5 : decode cX6_came 5 = .ok (.invokevirtual 149, 3) := by decide +kernel
theorem dX6_came_8 : decode cX6_came 8 = .ok (.ifCond .ne 6, 3) := by decide +kernel
theorem dX6_came_11 : decode cX6_came 11 = .ok (.ldc 139, 2) := by decide +kernel
theorem dX6_came_13 : decode cX6_came 13 = .ok (.ireturn, 1) := by decide +kernel
theorem dX6_came_14 : decode cX6_came 14 = .ok (.iconst 0, 1) := by decide +kernel
theorem dX6_came_15 : decode cX6_came 15 = .ok (.istore_n 2, 1) := by decide +kernel
theorem dX6_came_16 : decode cX6_came 16 = .ok (.iload_n 2, 1) := by decide +kernel
theorem dX6_came_17 : decode cX6_came 17 = .ok (.aload_n 0, 1) := by decide +kernel
theorem dX6_came_18 : decode cX6_came 18 = .ok (.getfield 88, 3) := by decide +kernel
theorem dX6_came_21 : decode cX6_came 21 = .ok (.if_icmp .ge 24, 3) := by decide +kernel
theorem dX6_came_24 : decode cX6_came 24 = .ok (.aload_n 0, 1) := by decide +kernel
theorem dX6_came_25 : decode cX6_came 25 = .ok (.getfield 58, 3) := by decide +kernel
theorem dX6_came_28 : decode cX6_came 28 = .ok (.iload_n 2, 1) := by decide +kernel
theorem dX6_came_29 : decode cX6_came 29 = .ok (.invokestatic 143, 3) := by decide +kernel
theorem dX6_came_32 : decode cX6_came 32 = .ok (.iload_n 1, 1) := by decide +kernel
theorem dX6_came_33 : decode cX6_came 33 = .ok (.if_icmp .ne 6, 3) := by decide +kernel
theorem dX6_came_36 : decode cX6_came 36 = .ok (.ldc 188, 2) := by decide +kernel
theorem dX6_came_38 : decode cX6_came 38 = .ok (.ireturn, 1) := by decide +kernel
theorem dX6_came_39 : decode cX6_came 39 = .ok (.iinc 2 1, 3) := by decide +kernel
theorem dX6_came_42 : decode cX6_came 42 = .ok (.goto (-26), 3) := by decide +kernel
theorem dX6_came_45 : decode cX6_came 45 = .ok (.aload_n 0, 1) := by decide +kernel
theorem dX6_came_46 : decode cX6_came 46 = .ok (.getfield 58, 3) := by decide +kernel
theorem dX6_came_49 : decode cX6_came 49 = .ok (.aload_n 0, 1) := by decide +kernel
theorem dX6_came_50 : decode cX6_came 50 = .ok (.getfield 88, 3) := by decide +kernel
theorem dX6_came_53 : decode cX6_came 53 = .ok (.iload_n 1, 1) := by decide +kernel
theorem dX6_came_54 : decode cX6_came 54 = .ok (.invokestatic 184, 3) := by decide +kernel
theorem dX6_came_57 : decode cX6_came 57 = .ok (.aload_n 0, 1) := by decide +kernel
theorem dX6_came_58 : decode cX6_came 58 = .ok (.dup, 1) := by decide +kernel
theorem dX6_came_59 : decode cX6_came 59 = .ok (.getfield 88, 3) := by decide +kernel
theorem dX6_came_62 : decode cX6_came 62 = .ok (.iconst 1, 1) := by decide +kernel
theorem dX6_came_63 : decode cX6_came 63 = .ok (.iadd, 1) := by decide +kernel
theorem dX6_came_64 : decode cX6_came 64 = .ok (.putfield 88, 3) := by decide +kernel
theorem dX6_came_67 : decode cX6_came 67 = .ok (.aload_n 0, 1) := by decide +kernel
theorem dX6_came_68 : decode cX6_came 68 = .ok (.getfield 88, 3) := by decide +kernel
theorem dX6_came_71 : decode cX6_came 71 = .ok (.ireturn, 1) := by decide +kernel
theorem dX6_ends_0 : decode cX6_ends 0 = .ok (.aload_n 0, 1) := by decide +kernel
theorem dX6_ends_1 : decode cX6_ends 1 = .ok (.getfield 19, 3) := by decide +kernel
theorem dX6_ends_4 : decode cX6_ends 4 = .ok (.iload_n 1, 1) := by decide +kernel
theorem dX6_ends_5 : decode cX6_ends 5 = .ok (.invokevirtual 149, 3) := by decide +kernel
theorem dX6_ends_8 : decode cX6_ends 8 = .ok (.ifCond .ne 6, 3) := by decide +kernel
theorem dX6_ends_11 : decode cX6_ends 11 = .ok (.ldc 139, 2) := by decide +kernel
theorem dX6_ends_13 : decode cX6_ends 13 = .ok (.ireturn, 1) := by decide +kernel
theorem dX6_ends_14 : decode cX6_ends 14 = .ok (.iload_n 2, 1) := by decide +kernel
theorem dX6_ends_15 : decode cX6_ends 15 = .ok (.ifCond .lt 8, 3) := by decide +kernel
theorem dX6_ends_18 : decode cX6_ends 18 = .ok (.iload_n 2, 1) := by decide +kernel
theorem dX6_ends_19 : decode cX6_ends 19 = .ok (.iconst 1, 1) := by decide +kernel
theorem dX6_ends_20 : decode cX6_ends 20 = .ok (.if_icmp .le 6, 3) := by decide +kernel
theorem dX6_ends_23 : decode cX6_ends 23 = .ok (.ldc 67, 2) := by decide +kernel
theorem dX6_ends_25 : decode cX6_ends 25 = .ok (.ireturn, 1) := by decide +kernel
theorem dX6_ends_26 : decode cX6_ends 26 = .ok (.aload_n 0, 1) := by decide +kernel
theorem dX6_ends_27 : decode cX6_ends 27 = .ok (.getfield 19, 3) := by decide +kernel
theorem dX6_ends_30 : decode cX6_ends 30 = .ok (.getfield 117, 3) := by decide +kernel
theorem dX6_ends_33 : decode cX6_ends 33 = .ok (.iconst 2, 1) := by decide +kernel
theorem dX6_ends_34 : decode cX6_ends 34 = .ok (.if_icmp .ne 6, 3) := by decide +kernel
theorem dX6_ends_37 : decode cX6_ends 37 = .ok (.ldc 188, 2) := by decide +kernel
theorem dX6_ends_39 : decode cX6_ends 39 = .ok (.ireturn, 1) := by decide +kernel
theorem dX6_ends_40 : decode cX6_ends 40 = .ok (.aload_n 0, 1) := by decide +kernel
theorem dX6_ends_41 : decode cX6_ends 41 = .ok (.getfield 88, 3) := by decide +kernel
theorem dX6_ends_44 : decode cX6_ends 44 = .ok (.aload_n 0, 1) := by decide +kernel
theorem dX6_ends_45 : decode cX6_ends 45 = .ok (.getfield 19, 3) := by decide +kernel
theorem dX6_ends_48 : decode cX6_ends 48 = .ok (.getfield 98, 3) := by decide +kernel
theorem dX6_ends_51 : decode cX6_ends 51 = .ok (.if_icmp .ge 5, 3) := by decide +kernel
theorem dX6_ends_54 : decode cX6_ends 54 = .ok (.iconst (-1), 1) := by decide +kernel
theorem dX6_ends_55 : decode cX6_ends 55 = .ok (.ireturn, 1) := by decide +kernel
theorem dX6_ends_56 : decode cX6_ends 56 = .ok (.aload_n 0, 1) := by decide +kernel
theorem dX6_ends_57 : decode cX6_ends 57 = .ok (.getfield 26, 3) := by decide +kernel
theorem dX6_ends_60 : decode cX6_ends 60 = .ok (.aload_n 0, 1) := by decide +kernel
theorem dX6_ends_61 : decode cX6_ends 61 = .ok (.getfield 19, 3) := by decide +kernel
theorem dX6_ends_64 : decode cX6_ends 64 = .ok (.aload_n 0, 1) := by decide +kernel
theorem dX6_ends_65 : decode cX6_ends 65 = .ok (.getfield 19, 3) := by decide +kernel
theorem dX6_ends_68 : decode cX6_ends 68 = .ok (.getfield 104, 3) := by decide +kernel
theorem dX6_ends_71 : decode cX6_ends 71 = .ok (.invokevirtual 233, 3) := by decide +kernel
theorem dX6_ends_74 : decode cX6_ends 74 = .ok (.iconst (-1), 1) := by decide +kernel
theorem dX6_ends_75 : decode cX6_ends 75 = .ok (.istore_n 3, 1) := by decide +kernel
theorem dX6_ends_76 : decode cX6_ends 76 = .ok (.iconst 1, 1) := by decide +kernel
theorem dX6_ends_77 : decode cX6_ends 77 = .ok (.istore 4, 2) := by decide +kernel
theorem dX6_ends_79 : decode cX6_ends 79 = .ok (.iload 4, 2) := by decide +kernel
theorem dX6_ends_81 : decode cX6_ends 81 = .ok (.bipush 108, 2) := by decide +kernel
theorem dX6_ends_83 : decode cX6_ends 83 = .ok (.if_icmp .gt 77, 3) := by decide +kernel
theorem dX6_ends_86 : decode cX6_ends 86 = .ok (.aload_n 0, 1) := by decide +kernel
theorem dX6_ends_87 : decode cX6_ends 87 = .ok (.getfield 26, 3) := by decide +kernel
theorem dX6_ends_90 : decode cX6_ends 90 = .ok (.getfield 164, 3) := by decide +kernel
theorem dX6_ends_93 : decode cX6_ends 93 = .ok (.iload_n 1, 1) := by decide +kernel
theorem dX6_ends_94 : decode cX6_ends 94 = .ok (.iload 4, 2) := by decide +kernel
theorem dX6_ends_96 : decode cX6_ends 96 = .ok (.invokestatic 184, 3) := by decide +kernel
theorem dX6_ends_99 : decode cX6_ends 99 = .ok (.aload_n 0, 1) := by decide +kernel
theorem dX6_ends_100 : decode cX6_ends 100 = .ok (.getfield 26, 3) := by decide +kernel
theorem dX6_ends_103 : decode cX6_ends 103 = .ok (.aload_n 0, 1) := by decide +kernel
theorem dX6_ends_104 : decode cX6_ends 104 = .ok (.getfield 19, 3) := by decide +kernel
theorem dX6_ends_107 : decode cX6_ends 107 = .ok (.getfield 98, 3) := by decide +kernel
theorem dX6_ends_110 : decode cX6_ends 110 = .ok (.aload_n 0, 1) := by decide +kernel
theorem dX6_ends_111 : decode cX6_ends 111 = .ok (.getfield 19, 3) := by decide +kernel
theorem dX6_ends_114 : decode cX6_ends 114 = .ok (.getfield 117, 3) := by decide +kernel
theorem dX6_ends_117 : decode cX6_ends 117 = .ok (.invokevirtual 236, 3) := by decide +kernel
theorem dX6_ends_120 : decode cX6_ends 120 = .ok (.iload_n 2, 1) := by decide +kernel
theorem dX6_ends_121 : decode cX6_ends 121 = .ok (.iconst 1, 1) := by decide +kernel
theorem dX6_ends_122 : decode cX6_ends 122 = .ok (.if_icmp .eq 8, 3) := by decide +kernel
theorem dX6_ends_125 : decode cX6_ends 125 = .ok (.iload_n 3, 1) := by decide +kernel
theorem dX6_ends_126 : decode cX6_ends 126 = .ok (.iconst (-1), 1) := by decide +kernel
theorem dX6_ends_127 : decode cX6_ends 127 = .ok (.if_icmp .ne 27, 3) := by decide +kernel
theorem dX6_ends_130 : decode cX6_ends 130 = .ok (.aload_n 0, 1) := by decide +kernel
theorem dX6_ends_131 : decode cX6_ends 131 = .ok (.getfield 26, 3) := by decide +kernel
theorem dX6_ends_134 : decode cX6_ends 134 = .ok (.getfield 181, 3) := by decide +kernel
theorem dX6_ends_137 : decode cX6_ends 137 = .ok (.aload_n 0, 1) := by decide +kernel
theorem dX6_ends_138 : decode cX6_ends 138 = .ok (.getfield 58, 3) := by decide +kernel
theorem dX6_ends_141 : decode cX6_ends 141 = .ok (.aload_n 0, 1) := by decide +kernel
theorem dX6_ends_142 : decode cX6_ends 142 = .ok (.getfield 88, 3) := by decide +kernel
theorem dX6_ends_145 : decode cX6_ends 145 = .ok (.invokestatic 240, 3) := by decide +kernel
theorem dX6_ends_148 : decode cX6_ends 148 = .ok (.ifCond .eq 6, 3) := by decide +kernel
theorem dX6_ends_151 : decode cX6_ends 151 = .ok (.iload 4, 2) := by decide +kernel
theorem dX6_ends_153 : decode cX6_ends 153 = .ok (.istore_n 3, 1) := by decide +kernel
theorem dX6_ends_154 : decode cX6_ends 154 = .ok (.iinc 4 1, 3) := by decide +kernel
theorem dX6_ends_157 : decode cX6_ends 157 = .ok (.goto (-78), 3) := by decide +kernel
theorem dX6_ends_160 : decode cX6_ends 160 = .ok (.iload_n 3, 1) := by decide +kernel
theorem dX6_ends_161 : decode cX6_ends 161 = .ok (.ireturn, 1) := by decide +kernel
theorem dX6_write_0 : decode cX6_write 0 = .ok (.aload_n 0, 1) := by decide +kernel
theorem dX6_write_1 : decode cX6_write 1 = .ok (.getfield 19, 3) := by decide +kernel
theorem dX6_write_4 : decode cX6_write 4 = .ok (.iload_n 1, 1) := by decide +kernel
theorem dX6_write_5 : decode cX6_write 5 = .ok (.invokevirtual 149, 3) := by decide +kernel
theorem dX6_write_8 : decode cX6_write 8 = .ok (.ifCond .ne 6, 3) := by decide +kernel
theorem dX6_write_11 : decode cX6_write 11 = .ok (.ldc 139, 2) := by decide +kernel
theorem dX6_write_13 : decode cX6_write 13 = .ok (.ireturn, 1) := by decide +kernel
theorem dX6_write_14 : decode cX6_write 14 = .ok (.iload_n 2, 1) := by decide +kernel
theorem dX6_write_15 : decode cX6_write 15 = .ok (.ifCond .lt 10, 3) := by decide +kernel
theorem dX6_write_18 : decode cX6_write 18 = .ok (.iload_n 2, 1) := by decide +kernel
theorem dX6_write_19 : decode cX6_write 19 = .ok (.sipush 9999, 3) := by decide +kernel
theorem dX6_write_22 : decode cX6_write 22 = .ok (.if_icmp .le 6, 3) := by decide +kernel
theorem dX6_write_25 : decode cX6_write 25 = .ok (.ldc 67, 2) := by decide +kernel
theorem dX6_write_27 : decode cX6_write 27 = .ok (.ireturn, 1) := by decide +kernel
theorem dX6_write_28 : decode cX6_write 28 = .ok (.aload_n 0, 1) := by decide +kernel
theorem dX6_write_29 : decode cX6_write 29 = .ok (.getfield 91, 3) := by decide +kernel
theorem dX6_write_32 : decode cX6_write 32 = .ok (.bipush 30, 2) := by decide +kernel
theorem dX6_write_34 : decode cX6_write 34 = .ok (.if_icmp .lt 6, 3) := by decide +kernel
theorem dX6_write_37 : decode cX6_write 37 = .ok (.ldc 72, 2) := by decide +kernel
theorem dX6_write_39 : decode cX6_write 39 = .ok (.ireturn, 1) := by decide +kernel
theorem dX6_write_40 : decode cX6_write 40 = .ok (.aload_n 0, 1) := by decide +kernel
theorem dX6_write_41 : decode cX6_write 41 = .ok (.getfield 61, 3) := by decide +kernel
theorem dX6_write_44 : decode cX6_write 44 = .ok (.aload_n 0, 1) := by decide +kernel
theorem dX6_write_45 : decode cX6_write 45 = .ok (.getfield 91, 3) := by decide +kernel
theorem dX6_write_48 : decode cX6_write 48 = .ok (.iload_n 1, 1) := by decide +kernel
theorem dX6_write_49 : decode cX6_write 49 = .ok (.invokestatic 184, 3) := by decide +kernel
theorem dX6_write_52 : decode cX6_write 52 = .ok (.aload_n 0, 1) := by decide +kernel
theorem dX6_write_53 : decode cX6_write 53 = .ok (.getfield 64, 3) := by decide +kernel
theorem dX6_write_56 : decode cX6_write 56 = .ok (.aload_n 0, 1) := by decide +kernel
theorem dX6_write_57 : decode cX6_write 57 = .ok (.getfield 91, 3) := by decide +kernel
theorem dX6_write_60 : decode cX6_write 60 = .ok (.iload_n 2, 1) := by decide +kernel
theorem dX6_write_61 : decode cX6_write 61 = .ok (.invokestatic 184, 3) := by decide +kernel
theorem dX6_write_64 : decode cX6_write 64 = .ok (.aload_n 0, 1) := by decide +kernel
theorem dX6_write_65 : decode cX6_write 65 = .ok (.dup, 1) := by decide +kernel
theorem dX6_write_66 : decode cX6_write 66 = .ok (.getfield 91, 3) := by decide +kernel
theorem dX6_write_69 : decode cX6_write 69 = .ok (.iconst 1, 1) := by decide +kernel
theorem dX6_write_70 : decode cX6_write 70 = .ok (.iadd, 1) := by decide +kernel
theorem dX6_write_71 : decode cX6_write 71 = .ok (.putfield 91, 3) := by decide +kernel
theorem dX6_write_74 : decode cX6_write 74 = .ok (.aload_n 0, 1) := by decide +kernel
theorem dX6_write_75 : decode cX6_write 75 = .ok (.getfield 91, 3) := by decide +kernel
theorem dX6_write_78 : decode cX6_write 78 = .ok (.ireturn, 1) := by decide +kernel
theorem dX6_tear_0 : decode cX6_tear 0 = .ok (.aload_n 0, 1) := by decide +kernel
theorem dX6_tear_1 : decode cX6_tear 1 = .ok (.getfield 91, 3) := by decide +kernel
theorem dX6_tear_4 : decode cX6_tear 4 = .ok (.aload_n 0, 1) := by decide +kernel
theorem dX6_tear_5 : decode cX6_tear 5 = .ok (.getfield 88, 3) := by decide +kernel
theorem dX6_tear_8 : decode cX6_tear 8 = .ok (.iadd, 1) := by decide +kernel
theorem dX6_tear_9 : decode cX6_tear 9 = .ok (.istore_n 1, 1) := by decide +kernel
theorem dX6_tear_10 : decode cX6_tear 10 = .ok (.aload_n 0, 1) := by decide +kernel
theorem dX6_tear_11 : decode cX6_tear 11 = .ok (.iconst 0, 1) := by decide +kernel
theorem dX6_tear_12 : decode cX6_tear 12 = .ok (.putfield 91, 3) := by decide +kernel
theorem dX6_tear_15 : decode cX6_tear 15 = .ok (.aload_n 0, 1) := by decide +kernel
theorem dX6_tear_16 : decode cX6_tear 16 = .ok (.iconst 0, 1) := by decide +kernel
theorem dX6_tear_17 : decode cX6_tear 17 = .ok (.putfield 88, 3) := by decide +kernel
theorem dX6_tear_20 : decode cX6_tear 20 = .ok (.iload_n 1, 1) := by decide +kernel
theorem dX6_tear_21 : decode cX6_tear 21 = .ok (.ireturn, 1) := by decide +kernel
theorem dX6_judge_0 : decode cX6_judge 0 = .ok (.aload_n 0, 1) := by decide +kernel
theorem dX6_judge_1 : decode cX6_judge 1 = .ok (.getfield 26, 3) := by decide +kernel
theorem dX6_judge_4 : decode cX6_judge 4 = .ok (.aload_n 0, 1) := by decide +kernel
theorem dX6_judge_5 : decode cX6_judge 5 = .ok (.getfield 19, 3) := by decide +kernel
theorem dX6_judge_8 : decode cX6_judge 8 = .ok (.aload_n 0, 1) := by decide +kernel
theorem dX6_judge_9 : decode cX6_judge 9 = .ok (.getfield 19, 3) := by decide +kernel
theorem dX6_judge_12 : decode cX6_judge 12 = .ok (.getfield 104, 3) := by decide +kernel
theorem dX6_judge_15 : decode cX6_judge 15 = .ok (.invokevirtual 107, 3) := by decide +kernel
theorem dX6_judge_18 : decode cX6_judge 18 = .ok (.iconst 0, 1) := by decide +kernel
theorem dX6_judge_19 : decode cX6_judge 19 = .ok (.istore_n 1, 1) := by decide +kernel
theorem dX6_judge_20 : decode cX6_judge 20 = .ok (.iload_n 1, 1) := by decide +kernel
theorem dX6_judge_21 : decode cX6_judge 21 = .ok (.aload_n 0, 1) := by decide +kernel
theorem dX6_judge_22 : decode cX6_judge 22 = .ok (.getfield 91, 3) := by decide +kernel
theorem dX6_judge_25 : decode cX6_judge 25 = .ok (.if_icmp .ge 40, 3) := by decide +kernel
theorem dX6_judge_28 : decode cX6_judge 28 = .ok (.aload_n 0, 1) := by decide +kernel
theorem dX6_judge_29 : decode cX6_judge 29 = .ok (.getfield 26, 3) := by decide +kernel
theorem dX6_judge_32 : decode cX6_judge 32 = .ok (.getfield 171, 3) := by decide +kernel
theorem dX6_judge_35 : decode cX6_judge 35 = .ok (.aload_n 0, 1) := by decide +kernel
theorem dX6_judge_36 : decode cX6_judge 36 = .ok (.getfield 61, 3) := by decide +kernel
theorem dX6_judge_39 : decode cX6_judge 39 = .ok (.iload_n 1, 1) := by decide +kernel
theorem dX6_judge_40 : decode cX6_judge 40 = .ok (.invokestatic 143, 3) := by decide +kernel
theorem dX6_judge_43 : decode cX6_judge 43 = .ok (.invokestatic 143, 3) := by decide +kernel
theorem dX6_judge_46 : decode cX6_judge 46 = .ok (.aload_n 0, 1) := by decide +kernel
theorem dX6_judge_47 : decode cX6_judge 47 = .ok (.getfield 64, 3) := by decide +kernel
theorem dX6_judge_50 : decode cX6_judge 50 = .ok (.iload_n 1, 1) := by decide +kernel
theorem dX6_judge_51 : decode cX6_judge 51 = .ok (.invokestatic 143, 3) := by decide +kernel
theorem dX6_judge_54 : decode cX6_judge 54 = .ok (.if_icmp .eq 5, 3) := by decide +kernel
theorem dX6_judge_57 : decode cX6_judge 57 = .ok (.iload_n 1, 1) := by decide +kernel
theorem dX6_judge_58 : decode cX6_judge 58 = .ok (.ireturn, 1) := by decide +kernel
theorem dX6_judge_59 : decode cX6_judge 59 = .ok (.iinc 1 1, 3) := by decide +kernel
theorem dX6_judge_62 : decode cX6_judge 62 = .ok (.goto (-42), 3) := by decide +kernel
theorem dX6_judge_65 : decode cX6_judge 65 = .ok (.iconst (-1), 1) := by decide +kernel
theorem dX6_judge_66 : decode cX6_judge 66 = .ok (.ireturn, 1) := by decide +kernel
theorem dX6_seed_0 : decode cX6_seed 0 = .ok (.iload_n 1, 1) := by decide +kernel
theorem dX6_seed_1 : decode cX6_seed 1 = .ok (.ifCond .ge 6, 3) := by decide +kernel
theorem dX6_seed_4 : decode cX6_seed 4 = .ok (.ldc 67, 2) := by decide +kernel
theorem dX6_seed_6 : decode cX6_seed 6 = .ok (.ireturn, 1) := by decide +kernel
theorem dX6_seed_7 : decode cX6_seed 7 = .ok (.aload_n 0, 1) := by decide +kernel
theorem dX6_seed_8 : decode cX6_seed 8 = .ok (.getfield 19, 3) := by decide +kernel
theorem dX6_seed_11 : decode cX6_seed 11 = .ok (.getfield 244, 3) := by decide +kernel
theorem dX6_seed_14 : decode cX6_seed 14 = .ok (.istore_n 2, 1) := by decide +kernel
theorem dX6_seed_15 : decode cX6_seed 15 = .ok (.aload_n 0, 1) := by decide +kernel
theorem dX6_seed_16 : decode cX6_seed 16 = .ok (.getfield 19, 3) := by decide +kernel
theorem dX6_seed_19 : decode cX6_seed 19 = .ok (.iload_n 1, 1) := by decide +kernel
theorem dX6_seed_20 : decode cX6_seed 20 = .ok (.putfield 244, 3) := by decide +kernel
theorem dX6_seed_23 : decode cX6_seed 23 = .ok (.iload_n 2, 1) := by decide +kernel
theorem dX6_seed_24 : decode cX6_seed 24 = .ok (.ireturn, 1) := by decide +kernel
theorem dX6_keep_0 : decode cX6_keep 0 = .ok (.iload_n 1, 1) := by decide +kernel
theorem dX6_keep_1 : decode cX6_keep 1 = .ok (.ifCond .lt 8, 3) := by decide +kernel
theorem dX6_keep_4 : decode cX6_keep 4 = .ok (.iload_n 1, 1) := by decide +kernel
theorem dX6_keep_5 : decode cX6_keep 5 = .ok (.iconst 1, 1) := by decide +kernel
theorem dX6_keep_6 : decode cX6_keep 6 = .ok (.if_icmp .le 6, 3) := by decide +kernel
theorem dX6_keep_9 : decode cX6_keep 9 = .ok (.ldc 139, 2) := by decide +kernel
theorem dX6_keep_11 : decode cX6_keep 11 = .ok (.ireturn, 1) := by decide +kernel
theorem dX6_keep_12 : decode cX6_keep 12 = .ok (.aload_n 0, 1) := by decide +kernel
theorem dX6_keep_13 : decode cX6_keep 13 = .ok (.iload_n 1, 1) := by decide +kernel
theorem dX6_keep_14 : decode cX6_keep 14 = .ok (.invokevirtual 247, 3) := by decide +kernel
theorem dX6_keep_17 : decode cX6_keep 17 = .ok (.aload_n 0, 1) := by decide +kernel
theorem dX6_keep_18 : decode cX6_keep 18 = .ok (.getfield 19, 3) := by decide +kernel
theorem dX6_keep_21 : decode cX6_keep 21 = .ok (.invokevirtual 251, 3) := by decide +kernel
theorem dX6_keep_24 : decode cX6_keep 24 = .ok (.iconst 1, 1) := by decide +kernel
theorem dX6_keep_25 : decode cX6_keep 25 = .ok (.ireturn, 1) := by decide +kernel
theorem dX6_goBack_0 : decode cX6_goBack 0 = .ok (.iload_n 1, 1) := by decide +kernel
theorem dX6_goBack_1 : decode cX6_goBack 1 = .ok (.ifCond .lt 8, 3) := by decide +kernel
theorem dX6_goBack_4 : decode cX6_goBack 4 = .ok (.iload_n 1, 1) := by decide +kernel
theorem dX6_goBack_5 : decode cX6_goBack 5 = .ok (.iconst 1, 1) := by decide +kernel
theorem dX6_goBack_6 : decode cX6_goBack 6 = .ok (.if_icmp .le 6, 3) := by decide +kernel
theorem dX6_goBack_9 : decode cX6_goBack 9 = .ok (.ldc 139, 2) := by decide +kernel
theorem dX6_goBack_11 : decode cX6_goBack 11 = .ok (.ireturn, 1) := by decide +kernel
theorem dX6_goBack_12 : decode cX6_goBack 12 = .ok (.aload_n 0, 1) := by decide +kernel
theorem dX6_goBack_13 : decode cX6_goBack 13 = .ok (.iload_n 1, 1) := by decide +kernel
theorem dX6_goBack_14 : decode cX6_goBack 14 = .ok (.invokevirtual 247, 3) := by decide +kernel
theorem dX6_goBack_17 : decode cX6_goBack 17 = .ok (.getfield 94, 3) := by decide +kernel
theorem dX6_goBack_20 : decode cX6_goBack 20 = .ok (.ifCond .ne 6, 3) := by decide +kernel
theorem dX6_goBack_23 : decode cX6_goBack 23 = .ok (.ldc 188, 2) := by decide +kernel
theorem dX6_goBack_25 : decode cX6_goBack 25 = .ok (.ireturn, 1) := by decide +kernel
theorem dX6_goBack_26 : decode cX6_goBack 26 = .ok (.aload_n 0, 1) := by decide +kernel
theorem dX6_goBack_27 : decode cX6_goBack 27 = .ok (.iload_n 1, 1) := by decide +kernel
theorem dX6_goBack_28 : decode cX6_goBack 28 = .ok (.invokevirtual 247, 3) := by decide +kernel
theorem dX6_goBack_31 : decode cX6_goBack 31 = .ok (.aload_n 0, 1) := by decide +kernel
theorem dX6_goBack_32 : decode cX6_goBack 32 = .ok (.getfield 19, 3) := by decide +kernel
theorem dX6_goBack_35 : decode cX6_goBack 35 = .ok (.invokevirtual 254, 3) := by decide +kernel
theorem dX6_goBack_38 : decode cX6_goBack 38 = .ok (.iconst 1, 1) := by decide +kernel
theorem dX6_goBack_39 : decode cX6_goBack 39 = .ok (.ireturn, 1) := by decide +kernel
theorem dX6_imageOf_0 : decode cX6_imageOf 0 = .ok (.iload_n 1, 1) := by decide +kernel
theorem dX6_imageOf_1 : decode cX6_imageOf 1 = .ok (.ifCond .ne 10, 3) := by decide +kernel
theorem dX6_imageOf_4 : decode cX6_imageOf 4 = .ok (.aload_n 0, 1) := by decide +kernel
theorem dX6_imageOf_5 : decode cX6_imageOf 5 = .ok (.getfield 47, 3) := by decide +kernel
theorem dX6_imageOf_8 : decode cX6_imageOf 8 = .ok (.goto 7, 3) := by decide +kernel
theorem dX6_imageOf_11 : decode cX6_imageOf 11 = .ok (.aload_n 0, 1) := by decide +kernel
theorem dX6_imageOf_12 : decode cX6_imageOf 12 = .ok (.getfield 51, 3) := by decide +kernel
theorem dX6_imageOf_15 : decode cX6_imageOf 15 = .ok (.areturn, 1) := by decide +kernel
theorem dX6_nothingCanBeTried_0 : decode cX6_nothingCanBeTried 0 = .ok (.aload_n 0, 1) := by decide +kernel
theorem dX6_nothingCanBeTried_1 : decode cX6_nothingCanBeTried 1 = .ok (.getfield 19, 3) := by decide +kernel
theorem dX6_nothingCanBeTried_4 : decode cX6_nothingCanBeTried 4 = .ok (.getfield 117, 3) := by decide +kernel
theorem dX6_nothingCanBeTried_7 : decode cX6_nothingCanBeTried 7 = .ok (.iconst 2, 1) := by decide +kernel
theorem dX6_nothingCanBeTried_8 : decode cX6_nothingCanBeTried 8 = .ok (.if_icmp .eq 13, 3) := by decide +kernel
theorem dX6_nothingCanBeTried_11 : decode cX6_nothingCanBeTried 11 = .ok (.aload_n 0, 1) := by decide +kernel
theorem dX6_nothingCanBeTried_12 : decode cX6_nothingCanBeTried 12 = .ok (.getfield 19, 3) := by decide +kernel
theorem dX6_nothingCanBeTried_15 : decode cX6_nothingCanBeTried 15 = .ok (.getfield 98, 3) := by decide +kernel
theorem dX6_nothingCanBeTried_18 : decode cX6_nothingCanBeTried 18 = .ok (.ifCond .ne 7, 3) := by decide +kernel
theorem dX6_nothingCanBeTried_21 : decode cX6_nothingCanBeTried 21 = .ok (.iconst 1, 1) := by decide +kernel
theorem dX6_nothingCanBeTried_22 : decode cX6_nothingCanBeTried 22 = .ok (.goto 4, 3) := by decide +kernel
theorem dX6_nothingCanBeTried_25 : decode cX6_nothingCanBeTried 25 = .ok (.iconst 0, 1) := by decide +kernel
theorem dX6_nothingCanBeTried_26 : decode cX6_nothingCanBeTried 26 = .ok (.ireturn, 1) := by decide +kernel
theorem dX6_agreeOnWeight_0 : decode cX6_agreeOnWeight 0 = .ok (.iconst 0, 1) := by decide +kernel
theorem dX6_agreeOnWeight_1 : decode cX6_agreeOnWeight 1 = .ok (.istore_n 2, 1) := by decide +kernel
theorem dX6_agreeOnWeight_2 : decode cX6_agreeOnWeight 2 = .ok (.iconst 0, 1) := by decide +kernel
theorem dX6_agreeOnWeight_3 : decode cX6_agreeOnWeight 3 = .ok (.istore_n 3, 1) := by decide +kernel
theorem dX6_agreeOnWeight_4 : decode cX6_agreeOnWeight 4 = .ok (.iload_n 3, 1) := by decide +kernel
theorem dX6_agreeOnWeight_5 : decode cX6_agreeOnWeight 5 = .ok (.aload_n 0, 1) := by decide +kernel
theorem dX6_agreeOnWeight_6 : decode cX6_agreeOnWeight 6 = .ok (.getfield 19, 3) := by decide +kernel
theorem dX6_agreeOnWeight_9 : decode cX6_agreeOnWeight 9 = .ok (.getfield 98, 3) := by decide +kernel
theorem dX6_agreeOnWeight_12 : decode cX6_agreeOnWeight 12 = .ok (.if_icmp .ge 45, 3) := by decide +kernel
theorem dX6_agreeOnWeight_15 : decode cX6_agreeOnWeight 15 = .ok (.iload_n 1, 1) := by decide +kernel
theorem dX6_agreeOnWeight_16 : decode cX6_agreeOnWeight 16 = .ok (.iload_n 3, 1) := by decide +kernel
theorem dX6_agreeOnWeight_17 : decode cX6_agreeOnWeight 17 = .ok (.invokestatic 257, 3) := by decide +kernel
theorem dX6_agreeOnWeight_20 : decode cX6_agreeOnWeight 20 = .ok (.ifCond .eq 31, 3) := by decide +kernel
theorem dX6_agreeOnWeight_23 : decode cX6_agreeOnWeight 23 = .ok (.iload_n 2, 1) := by decide +kernel
theorem dX6_agreeOnWeight_24 : decode cX6_agreeOnWeight 24 = .ok (.aload_n 0, 1) := by decide +kernel
theorem dX6_agreeOnWeight_25 : decode cX6_agreeOnWeight 25 = .ok (.getfield 19, 3) := by decide +kernel
theorem dX6_agreeOnWeight_28 : decode cX6_agreeOnWeight 28 = .ok (.getfield 155, 3) := by decide +kernel
theorem dX6_agreeOnWeight_31 : decode cX6_agreeOnWeight 31 = .ok (.iload_n 3, 1) := by decide +kernel
theorem dX6_agreeOnWeight_32 : decode cX6_agreeOnWeight 32 = .ok (.invokestatic 143, 3) := by decide +kernel
theorem dX6_agreeOnWeight_35 : decode cX6_agreeOnWeight 35 = .ok (.aload_n 0, 1) := by decide +kernel
theorem dX6_agreeOnWeight_36 : decode cX6_agreeOnWeight 36 = .ok (.getfield 19, 3) := by decide +kernel
theorem dX6_agreeOnWeight_39 : decode cX6_agreeOnWeight 39 = .ok (.getfield 104, 3) := by decide +kernel
theorem dX6_agreeOnWeight_42 : decode cX6_agreeOnWeight 42 = .ok (.iload_n 3, 1) := by decide +kernel
theorem dX6_agreeOnWeight_43 : decode cX6_agreeOnWeight 43 = .ok (.invokestatic 143, 3) := by decide +kernel
theorem dX6_agreeOnWeight_46 : decode cX6_agreeOnWeight 46 = .ok (.iadd, 1) := by decide +kernel
theorem dX6_agreeOnWeight_47 : decode cX6_agreeOnWeight 47 = .ok (.invokestatic 261, 3) := by decide +kernel
theorem dX6_agreeOnWeight_50 : decode cX6_agreeOnWeight 50 = .ok (.istore_n 2, 1) := by decide +kernel
theorem dX6_agreeOnWeight_51 : decode cX6_agreeOnWeight 51 = .ok (.iinc 3 1, 3) := by decide +kernel
theorem dX6_agreeOnWeight_54 : decode cX6_agreeOnWeight 54 = .ok (.goto (-50), 3) := by decide +kernel
theorem dX6_agreeOnWeight_57 : decode cX6_agreeOnWeight 57 = .ok (.aload_n 0, 1) := by decide +kernel
theorem dX6_agreeOnWeight_58 : decode cX6_agreeOnWeight 58 = .ok (.getfield 19, 3) := by decide +kernel
theorem dX6_agreeOnWeight_61 : decode cX6_agreeOnWeight 61 = .ok (.getfield 104, 3) := by decide +kernel
theorem dX6_agreeOnWeight_64 : decode cX6_agreeOnWeight 64 = .ok (.aload_n 0, 1) := by decide +kernel
theorem dX6_agreeOnWeight_65 : decode cX6_agreeOnWeight 65 = .ok (.getfield 54, 3) := by decide +kernel
theorem dX6_agreeOnWeight_68 : decode cX6_agreeOnWeight 68 = .ok (.invokestatic 266, 3) := by decide +kernel
theorem dX6_agreeOnWeight_71 : decode cX6_agreeOnWeight 71 = .ok (.iconst 0, 1) := by decide +kernel
theorem dX6_agreeOnWeight_72 : decode cX6_agreeOnWeight 72 = .ok (.istore_n 3, 1) := by decide +kernel
theorem dX6_agreeOnWeight_73 : decode cX6_agreeOnWeight 73 = .ok (.iload_n 3, 1) := by decide +kernel
theorem dX6_agreeOnWeight_74 : decode cX6_agreeOnWeight 74 = .ok (.aload_n 0, 1) := by decide +kernel
theorem dX6_agreeOnWeight_75 : decode cX6_agreeOnWeight 75 = .ok (.getfield 19, 3) := by decide +kernel
theorem dX6_agreeOnWeight_78 : decode cX6_agreeOnWeight 78 = .ok (.getfield 98, 3) := by decide +kernel
theorem dX6_agreeOnWeight_81 : decode cX6_agreeOnWeight 81 = .ok (.if_icmp .ge 51, 3) := by decide +kernel
theorem dX6_agreeOnWeight_84 : decode cX6_agreeOnWeight 84 = .ok (.iload_n 1, 1) := by decide +kernel
theorem dX6_agreeOnWeight_85 : decode cX6_agreeOnWeight 85 = .ok (.iload_n 3, 1) := by decide +kernel
theorem dX6_agreeOnWeight_86 : decode cX6_agreeOnWeight 86 = .ok (.invokestatic 257, 3) := by decide +kernel
theorem dX6_agreeOnWeight_89 : decode cX6_agreeOnWeight 89 = .ok (.ifCond .eq 37, 3) := by decide +kernel
theorem dX6_agreeOnWeight_92 : decode cX6_agreeOnWeight 92 = .ok (.iload_n 2, 1) := by decide +kernel
theorem dX6_agreeOnWeight_93 : decode cX6_agreeOnWeight 93 = .ok (.aload_n 0, 1) := by decide +kernel
theorem dX6_agreeOnWeight_94 : decode cX6_agreeOnWeight 94 = .ok (.getfield 19, 3) := by decide +kernel
theorem dX6_agreeOnWeight_97 : decode cX6_agreeOnWeight 97 = .ok (.getfield 155, 3) := by decide +kernel
theorem dX6_agreeOnWeight_100 : decode cX6_agreeOnWeight 100 = .ok (.iload_n 3, 1) := by decide +kernel
theorem dX6_agreeOnWeight_101 : decode cX6_agreeOnWeight 101 = .ok (.invokestatic 143, 3) := by decide +kernel
theorem dX6_agreeOnWeight_104 : decode cX6_agreeOnWeight 104 = .ok (.isub, 1) := by decide +kernel
theorem dX6_agreeOnWeight_105 : decode cX6_agreeOnWeight 105 = .ok (.istore 4, 2) := by decide +kernel
theorem dX6_agreeOnWeight_107 : decode cX6_agreeOnWeight 107 = .ok (.iload 4, 2) := by decide +kernel
theorem dX6_agreeOnWeight_109 : decode cX6_agreeOnWeight 109 = .ok (.bipush 9, 2) := by decide +kernel
theorem dX6_agreeOnWeight_111 : decode cX6_agreeOnWeight 111 = .ok (.if_icmp .le 5, 3) := by decide +kernel
theorem dX6_agreeOnWeight_114 : decode cX6_agreeOnWeight 114 = .ok (.iconst 0, 1) := by decide +kernel
theorem dX6_agreeOnWeight_115 : decode cX6_agreeOnWeight 115 = .ok (.ireturn, 1) := by decide +kernel
theorem dX6_agreeOnWeight_116 : decode cX6_agreeOnWeight 116 = .ok (.aload_n 0, 1) := by decide +kernel
theorem dX6_agreeOnWeight_117 : decode cX6_agreeOnWeight 117 = .ok (.getfield 54, 3) := by decide +kernel
theorem dX6_agreeOnWeight_120 : decode cX6_agreeOnWeight 120 = .ok (.iload_n 3, 1) := by decide +kernel
theorem dX6_agreeOnWeight_121 : decode cX6_agreeOnWeight 121 = .ok (.iload 4, 2) := by decide +kernel
theorem dX6_agreeOnWeight_123 : decode cX6_agreeOnWeight 123 = .ok (.invokestatic 184, 3) := by decide +kernel
theorem dX6_agreeOnWeight_126 : decode cX6_agreeOnWeight 126 = .ok (.iinc 3 1, 3) := by decide +kernel
theorem dX6_agreeOnWeight_129 : decode cX6_agreeOnWeight 129 = .ok (.goto (-56), 3) := by decide +kernel
theorem dX6_agreeOnWeight_132 : decode cX6_agreeOnWeight 132 = .ok (.iconst 1, 1) := by decide +kernel
theorem dX6_agreeOnWeight_133 : decode cX6_agreeOnWeight 133 = .ok (.ireturn, 1) := by decide +kernel
theorem dX6_isIn_0 : decode cX6_isIn 0 = .ok (.iload_n 0, 1) := by decide +kernel
theorem dX6_isIn_1 : decode cX6_isIn 1 = .ok (.iload_n 1, 1) := by decide +kernel
theorem dX6_isIn_2 : decode cX6_isIn 2 = .ok (.ishr, 1) := by decide +kernel
theorem dX6_isIn_3 : decode cX6_isIn 3 = .ok (.iconst 1, 1) := by decide +kernel
theorem dX6_isIn_4 : decode cX6_isIn 4 = .ok (.iand, 1) := by decide +kernel
theorem dX6_isIn_5 : decode cX6_isIn 5 = .ok (.ifCond .eq 7, 3) := by decide +kernel
theorem dX6_isIn_8 : decode cX6_isIn 8 = .ok (.iconst 1, 1) := by decide +kernel
theorem dX6_isIn_9 : decode cX6_isIn 9 = .ok (.goto 4, 3) := by decide +kernel
theorem dX6_isIn_12 : decode cX6_isIn 12 = .ok (.iconst 0, 1) := by decide +kernel
theorem dX6_isIn_13 : decode cX6_isIn 13 = .ok (.ireturn, 1) := by decide +kernel
theorem dX6_at_0 : decode cX6_at 0 = .ok (.iload_n 1, 1) := by decide +kernel
theorem dX6_at_1 : decode cX6_at 1 = .ok (.ifCond .lt 15, 3) := by decide +kernel
theorem dX6_at_4 : decode cX6_at 4 = .ok (.iload_n 1, 1) := by decide +kernel
theorem dX6_at_5 : decode cX6_at 5 = .ok (.aload_n 0, 1) := by decide +kernel
theorem dX6_at_6 : decode cX6_at 6 = .ok (.arraylength, 1) := by decide +kernel
theorem dX6_at_7 : decode cX6_at 7 = .ok (.if_icmp .ge 9, 3) := by decide +kernel
theorem dX6_at_10 : decode cX6_at 10 = .ok (.aload_n 0, 1) := by decide +kernel
theorem dX6_at_11 : decode cX6_at 11 = .ok (.iload_n 1, 1) := by decide +kernel
theorem dX6_at_12 : decode cX6_at 12 = .ok (.iaload, 1) := by decide +kernel
theorem dX6_at_13 : decode cX6_at 13 = .ok (.goto 4, 3) := by decide +kernel
theorem dX6_at_16 : decode cX6_at 16 = .ok (.iconst 0, 1) := by decide +kernel
theorem dX6_at_17 : decode cX6_at 17 = .ok (.ireturn, 1) := by decide +kernel
theorem dX6_put_0 : decode cX6_put 0 = .ok (.iload_n 1, 1) := by decide +kernel
theorem dX6_put_1 : decode cX6_put 1 = .ok (.ifCond .lt 13, 3) := by decide +kernel
theorem dX6_put_4 : decode cX6_put 4 = .ok (.iload_n 1, 1) := by decide +kernel
theorem dX6_put_5 : decode cX6_put 5 = .ok (.aload_n 0, 1) := by decide +kernel
theorem dX6_put_6 : decode cX6_put 6 = .ok (.arraylength, 1) := by decide +kernel
theorem dX6_put_7 : decode cX6_put 7 = .ok (.if_icmp .ge 7, 3) := by decide +kernel
theorem dX6_put_10 : decode cX6_put 10 = .ok (.aload_n 0, 1) := by decide +kernel
theorem dX6_put_11 : decode cX6_put 11 = .ok (.iload_n 1, 1) := by decide +kernel
theorem dX6_put_12 : decode cX6_put 12 = .ok (.iload_n 2, 1) := by decide +kernel
theorem dX6_put_13 : decode cX6_put 13 = .ok (.iastore, 1) := by decide +kernel
theorem dX6_put_14 : decode cX6_put 14 = .ok (.return_, 1) := by decide +kernel
theorem dX6_copyRow_0 : decode cX6_copyRow 0 = .ok (.iconst 0, 1) := by decide +kernel
theorem dX6_copyRow_1 : decode cX6_copyRow 1 = .ok (.istore_n 2, 1) := by decide +kernel
theorem dX6_copyRow_2 : decode cX6_copyRow 2 = .ok (.iload_n 2, 1) := by decide +kernel
theorem dX6_copyRow_3 : decode cX6_copyRow 3 = .ok (.aload_n 0, 1) := by decide +kernel
theorem dX6_copyRow_4 : decode cX6_copyRow 4 = .ok (.arraylength, 1) := by decide +kernel
theorem dX6_copyRow_5 : decode cX6_copyRow 5 = .ok (.if_icmp .ge 21, 3) := by decide +kernel
theorem dX6_copyRow_8 : decode cX6_copyRow 8 = .ok (.iload_n 2, 1) := by decide +kernel
theorem dX6_copyRow_9 : decode cX6_copyRow 9 = .ok (.aload_n 1, 1) := by decide +kernel
theorem dX6_copyRow_10 : decode cX6_copyRow 10 = .ok (.arraylength, 1) := by decide +kernel
theorem dX6_copyRow_11 : decode cX6_copyRow 11 = .ok (.if_icmp .ge 15, 3) := by decide +kernel
theorem dX6_copyRow_14 : decode cX6_copyRow 14 = .ok (.aload_n 1, 1) := by decide +kernel
theorem dX6_copyRow_15 : decode cX6_copyRow 15 = .ok (.iload_n 2, 1) := by decide +kernel
theorem dX6_copyRow_16 : decode cX6_copyRow 16 = .ok (.aload_n 0, 1) := by decide +kernel
theorem dX6_copyRow_17 : decode cX6_copyRow 17 = .ok (.iload_n 2, 1) := by decide +kernel
theorem dX6_copyRow_18 : decode cX6_copyRow 18 = .ok (.iaload, 1) := by decide +kernel
theorem dX6_copyRow_19 : decode cX6_copyRow 19 = .ok (.iastore, 1) := by decide +kernel
theorem dX6_copyRow_20 : decode cX6_copyRow 20 = .ok (.iinc 2 1, 3) := by decide +kernel
theorem dX6_copyRow_23 : decode cX6_copyRow 23 = .ok (.goto (-21), 3) := by decide +kernel
theorem dX6_copyRow_26 : decode cX6_copyRow 26 = .ok (.return_, 1) := by decide +kernel
theorem dX6_sum_0 : decode cX6_sum 0 = .ok (.iconst 0, 1) := by decide +kernel
theorem dX6_sum_1 : decode cX6_sum 1 = .ok (.istore_n 2, 1) := by decide +kernel
theorem dX6_sum_2 : decode cX6_sum 2 = .ok (.iconst 0, 1) := by decide +kernel
theorem dX6_sum_3 : decode cX6_sum 3 = .ok (.istore_n 3, 1) := by decide +kernel
theorem dX6_sum_4 : decode cX6_sum 4 = .ok (.iload_n 3, 1) := by decide +kernel
theorem dX6_sum_5 : decode cX6_sum 5 = .ok (.iload_n 1, 1) := by decide +kernel
theorem dX6_sum_6 : decode cX6_sum 6 = .ok (.if_icmp .ge 17, 3) := by decide +kernel
theorem dX6_sum_9 : decode cX6_sum 9 = .ok (.iload_n 2, 1) := by decide +kernel
theorem dX6_sum_10 : decode cX6_sum 10 = .ok (.aload_n 0, 1) := by decide +kernel
theorem dX6_sum_11 : decode cX6_sum 11 = .ok (.iload_n 3, 1) := by decide +kernel
theorem dX6_sum_12 : decode cX6_sum 12 = .ok (.invokestatic 143, 3) := by decide +kernel
theorem dX6_sum_15 : decode cX6_sum 15 = .ok (.iadd, 1) := by decide +kernel
theorem dX6_sum_16 : decode cX6_sum 16 = .ok (.istore_n 2, 1) := by decide +kernel
theorem dX6_sum_17 : decode cX6_sum 17 = .ok (.iinc 3 1, 3) := by decide +kernel
theorem dX6_sum_20 : decode cX6_sum 20 = .ok (.goto (-16), 3) := by decide +kernel
theorem dX6_sum_23 : decode cX6_sum 23 = .ok (.iload_n 2, 1) := by decide +kernel
theorem dX6_sum_24 : decode cX6_sum 24 = .ok (.ireturn, 1) := by decide +kernel
theorem dX6_sameRows_0 : decode cX6_sameRows 0 = .ok (.iconst 0, 1) := by decide +kernel
theorem dX6_sameRows_1 : decode cX6_sameRows 1 = .ok (.istore_n 3, 1) := by decide +kernel
theorem dX6_sameRows_2 : decode cX6_sameRows 2 = .ok (.iload_n 3, 1) := by decide +kernel
theorem dX6_sameRows_3 : decode cX6_sameRows 3 = .ok (.iload_n 2, 1) := by decide +kernel
theorem dX6_sameRows_4 : decode cX6_sameRows 4 = .ok (.if_icmp .ge 24, 3) := by decide +kernel
theorem dX6_sameRows_7 : decode cX6_sameRows 7 = .ok (.aload_n 0, 1) := by decide +kernel
theorem dX6_sameRows_8 : decode cX6_sameRows 8 = .ok (.iload_n 3, 1) := by decide +kernel
theorem dX6_sameRows_9 : decode cX6_sameRows 9 = .ok (.invokestatic 143, 3) := by decide +kernel
theorem dX6_sameRows_12 : decode cX6_sameRows 12 = .ok (.aload_n 1, 1) := by decide +kernel
theorem dX6_sameRows_13 : decode cX6_sameRows 13 = .ok (.iload_n 3, 1) := by decide +kernel
theorem dX6_sameRows_14 : decode cX6_sameRows 14 = .ok (.invokestatic 143, 3) := by decide +kernel
theorem dX6_sameRows_17 : decode cX6_sameRows 17 = .ok (.if_icmp .eq 5, 3) := by decide +kernel
theorem dX6_sameRows_20 : decode cX6_sameRows 20 = .ok (.iconst 0, 1) := by decide +kernel
theorem dX6_sameRows_21 : decode cX6_sameRows 21 = .ok (.ireturn, 1) := by decide +kernel
theorem dX6_sameRows_22 : decode cX6_sameRows 22 = .ok (.iinc 3 1, 3) := by decide +kernel
theorem dX6_sameRows_25 : decode cX6_sameRows 25 = .ok (.goto (-23), 3) := by decide +kernel
theorem dX6_sameRows_28 : decode cX6_sameRows 28 = .ok (.iconst 1, 1) := by decide +kernel
theorem dX6_sameRows_29 : decode cX6_sameRows 29 = .ok (.ireturn, 1) := by decide +kernel
theorem dX7_init_0 : decode cX7_init 0 = .ok (.aload_n 0, 1) := by decide +kernel
theorem dX7_init_1 : decode cX7_init 1 = .ok (.invokespecial 1, 3) := by decide +kernel
theorem dX7_init_4 : decode cX7_init 4 = .ok (.aload_n 0, 1) := by decide +kernel
theorem dX7_init_5 : decode cX7_init 5 = .ok (.bipush 7, 2) := by decide +kernel
theorem dX7_init_7 : decode cX7_init 7 = .ok (.newarray .int, 2) := by decide +kernel
theorem dX7_init_9 : decode cX7_init 9 = .ok (.putfield 7, 3) := by decide +kernel
theorem dX7_init_12 : decode cX7_init 12 = .ok (.aload_n 0, 1) := by decide +kernel
theorem dX7_init_13 : decode cX7_init 13 = .ok (.bipush 7, 2) := by decide +kernel
theorem dX7_init_15 : decode cX7_init 15 = .ok (.newarray .int, 2) := by decide +kernel
theorem dX7_init_17 : decode cX7_init 17 = .ok (.putfield 13, 3) := by decide +kernel
theorem dX7_init_20 : decode cX7_init 20 = .ok (.aload_n 0, 1) := by decide +kernel
theorem dX7_init_21 : decode cX7_init 21 = .ok (.bipush 7, 2) := by decide +kernel
theorem dX7_init_23 : decode cX7_init 23 = .ok (.newarray .int, 2) := by decide +kernel
theorem dX7_init_25 : decode cX7_init 25 = .ok (.putfield 16, 3) := by decide +kernel
theorem dX7_init_28 : decode cX7_init 28 = .ok (.aload_n 0, 1) := by decide +kernel
theorem dX7_init_29 : decode cX7_init 29 = .ok (.bipush 7, 2) := by decide +kernel
theorem dX7_init_31 : decode cX7_init 31 = .ok (.newarray .int, 2) := by decide +kernel
theorem dX7_init_33 : decode cX7_init 33 = .ok (.putfield 19, 3) := by decide +kernel
theorem dX7_init_36 : decode cX7_init 36 = .ok (.aload_n 0, 1) := by decide +kernel
theorem dX7_init_37 : decode cX7_init 37 = .ok (.bipush 7, 2) := by decide +kernel
theorem dX7_init_39 : decode cX7_init 39 = .ok (.newarray .int, 2) := by decide +kernel
theorem dX7_init_41 : decode cX7_init 41 = .ok (.putfield 22, 3) := by decide +kernel
theorem dX7_init_44 : decode cX7_init 44 = .ok (.aload_n 0, 1) := by decide +kernel
theorem dX7_init_45 : decode cX7_init 45 = .ok (.bipush 7, 2) := by decide +kernel
theorem dX7_init_47 : decode cX7_init 47 = .ok (.newarray .int, 2) := by decide +kernel
theorem dX7_init_49 : decode cX7_init 49 = .ok (.putfield 25, 3) := by decide +kernel
theorem dX7_init_52 : decode cX7_init 52 = .ok (.aload_n 0, 1) := by decide +kernel
theorem dX7_init_53 : decode cX7_init 53 = .ok (.bipush 7, 2) := by decide +kernel
theorem dX7_init_55 : decode cX7_init 55 = .ok (.newarray .int, 2) := by decide +kernel
theorem dX7_init_57 : decode cX7_init 57 = .ok (.putfield 28, 3) := by decide +kernel
theorem dX7_init_60 : decode cX7_init 60 = .ok (.aload_n 0, 1) := by decide +kernel
theorem dX7_init_61 : decode cX7_init 61 = .ok (.iconst 1, 1) := by decide +kernel
theorem dX7_init_62 : decode cX7_init 62 = .ok (.putfield 31, 3) := by decide +kernel
theorem dX7_init_65 : decode cX7_init 65 = .ok (.aload_n 0, 1) := by decide +kernel
theorem dX7_init_66 : decode cX7_init 66 = .ok (.sipush 400, 3) := by decide +kernel
theorem dX7_init_69 : decode cX7_init 69 = .ok (.newarray .int, 2) := by decide +kernel
theorem dX7_init_71 : decode cX7_init 71 = .ok (.putfield 35, 3) := by decide +kernel
theorem dX7_init_74 : decode cX7_init 74 = .ok (.aload_n 0, 1) := by decide +kernel
theorem dX7_init_75 : decode cX7_init 75 = .ok (.iconst (-1), 1) := by decide +kernel
theorem dX7_init_76 : decode cX7_init 76 = .ok (.putfield 38, 3) := by decide +kernel
theorem dX7_init_79 : decode cX7_init 79 = .ok (.aload_n 0, 1) := by decide +kernel
theorem dX7_init_80 : decode cX7_init 80 = .ok (.bipush 7, 2) := by decide +kernel
theorem dX7_init_82 : decode cX7_init 82 = .ok (.newarray .int, 2) := by decide +kernel
theorem dX7_init_84 : decode cX7_init 84 = .ok (.putfield 41, 3) := by decide +kernel
theorem dX7_init_87 : decode cX7_init 87 = .ok (.aload_n 0, 1) := by decide +kernel
theorem dX7_init_88 : decode cX7_init 88 = .ok (.bipush 7, 2) := by decide +kernel
theorem dX7_init_90 : decode cX7_init 90 = .ok (.newarray .int, 2) := by decide +kernel
theorem dX7_init_92 : decode cX7_init 92 = .ok (.putfield 44, 3) := by decide +kernel
theorem dX7_init_95 : decode cX7_init 95 = .ok (.aload_n 0, 1) := by decide +kernel
theorem dX7_init_96 : decode cX7_init 96 = .ok (.bipush 7, 2) := by decide +kernel
theorem dX7_init_98 : decode cX7_init 98 = .ok (.newarray .int, 2) := by decide +kernel
theorem dX7_init_100 : decode cX7_init 100 = .ok (.putfield 47, 3) := by decide +kernel
theorem dX7_init_103 : decode cX7_init 103 = .ok (.aload_n 0, 1) := by decide +kernel
theorem dX7_init_104 : decode cX7_init 104 = .ok (.bipush 7, 2) := by decide +kernel
theorem dX7_init_106 : decode cX7_init 106 = .ok (.newarray .int, 2) := by decide +kernel
theorem dX7_init_108 : decode cX7_init 108 = .ok (.putfield 50, 3) := by decide +kernel
theorem dX7_init_111 : decode cX7_init 111 = .ok (.aload_n 0, 1) := by decide +kernel
theorem dX7_init_112 : decode cX7_init 112 = .ok (.bipush 7, 2) := by decide +kernel
theorem dX7_init_114 : decode cX7_init 114 = .ok (.newarray .int, 2) := by decide +kernel
theorem dX7_init_116 : decode cX7_init 116 = .ok (.putfield 53, 3) := by decide +kernel
theorem dX7_init_119 : decode cX7_init 119 = .ok (.aload_n 0, 1) := by decide +kernel
theorem dX7_init_120 : decode cX7_init 120 = .ok (.bipush 7, 2) := by decide +kernel
theorem dX7_init_122 : decode cX7_init 122 = .ok (.newarray .int, 2) := by decide +kernel
theorem dX7_init_124 : decode cX7_init 124 = .ok (.putfield 56, 3) := by decide +kernel
theorem dX7_init_127 : decode cX7_init 127 = .ok (.aload_n 0, 1) := by decide +kernel
theorem dX7_init_128 : decode cX7_init 128 = .ok (.bipush 7, 2) := by decide +kernel
theorem dX7_init_130 : decode cX7_init 130 = .ok (.newarray .int, 2) := by decide +kernel
theorem dX7_init_132 : decode cX7_init 132 = .ok (.putfield 59, 3) := by decide +kernel
theorem dX7_init_135 : decode cX7_init 135 = .ok (.aload_n 0, 1) := by decide +kernel
theorem dX7_init_136 : decode cX7_init 136 = .ok (.bipush 7, 2) := by decide +kernel
theorem dX7_init_138 : decode cX7_init 138 = .ok (.newarray .int, 2) := by decide +kernel
theorem dX7_init_140 : decode cX7_init 140 = .ok (.putfield 62, 3) := by decide +kernel
theorem dX7_init_143 : decode cX7_init 143 = .ok (.aload_n 0, 1) := by decide +kernel
theorem dX7_init_144 : decode cX7_init 144 = .ok (.bipush 7, 2) := by decide +kernel
theorem dX7_init_146 : decode cX7_init 146 = .ok (.newarray .int, 2) := by decide +kernel
theorem dX7_init_148 : decode cX7_init 148 = .ok (.putfield 65, 3) := by decide +kernel
theorem dX7_init_151 : decode cX7_init 151 = .ok (.aload_n 0, 1) := by decide +kernel
theorem dX7_init_152 : decode cX7_init 152 = .ok (.bipush 7, 2) := by decide +kernel
theorem dX7_init_154 : decode cX7_init 154 = .ok (.newarray .int, 2) := by decide +kernel
theorem dX7_init_156 : decode cX7_init 156 = .ok (.putfield 68, 3) := by decide +kernel
theorem dX7_init_159 : decode cX7_init 159 = .ok (.aload_n 0, 1) := by decide +kernel
theorem dX7_init_160 : decode cX7_init 160 = .ok (.bipush 7, 2) := by decide +kernel
theorem dX7_init_162 : decode cX7_init 162 = .ok (.newarray .int, 2) := by decide +kernel
theorem dX7_init_164 : decode cX7_init 164 = .ok (.putfield 71, 3) := by decide +kernel
theorem dX7_init_167 : decode cX7_init 167 = .ok (.aload_n 0, 1) := by decide +kernel
theorem dX7_init_168 : decode cX7_init 168 = .ok (.bipush 7, 2) := by decide +kernel
theorem dX7_init_170 : decode cX7_init 170 = .ok (.newarray .int, 2) := by decide +kernel
theorem dX7_init_172 : decode cX7_init 172 = .ok (.putfield 74, 3) := by decide +kernel
theorem dX7_init_175 : decode cX7_init 175 = .ok (.aload_n 0, 1) := by decide +kernel
theorem dX7_init_176 : decode cX7_init 176 = .ok (.bipush 30, 2) := by decide +kernel
theorem dX7_init_178 : decode cX7_init 178 = .ok (.newarray .int, 2) := by decide +kernel
theorem dX7_init_180 : decode cX7_init 180 = .ok (.putfield 77, 3) := by decide +kernel
theorem dX7_init_183 : decode cX7_init 183 = .ok (.aload_n 0, 1) := by decide +kernel
theorem dX7_init_184 : decode cX7_init 184 = .ok (.bipush 30, 2) := by decide +kernel
theorem dX7_init_186 : decode cX7_init 186 = .ok (.newarray .int, 2) := by decide +kernel
theorem dX7_init_188 : decode cX7_init 188 = .ok (.putfield 80, 3) := by decide +kernel
theorem dX7_init_191 : decode cX7_init 191 = .ok (.aload_n 0, 1) := by decide +kernel
theorem dX7_init_192 : decode cX7_init 192 = .ok (.bipush 60, 2) := by decide +kernel
theorem dX7_init_194 : decode cX7_init 194 = .ok (.newarray .int, 2) := by decide +kernel
theorem dX7_init_196 : decode cX7_init 196 = .ok (.putfield 83, 3) := by decide +kernel
theorem dX7_init_199 : decode cX7_init 199 = .ok (.aload_n 0, 1) := by decide +kernel
theorem dX7_init_200 : decode cX7_init 200 = .ok (.iconst 2, 1) := by decide +kernel
theorem dX7_init_201 : decode cX7_init 201 = .ok (.newarray .boolean, 2) := by decide +kernel
theorem dX7_init_203 : decode cX7_init 203 = .ok (.putfield 86, 3) := by decide +kernel
theorem dX7_init_206 : decode cX7_init 206 = .ok (.aload_n 0, 1) := by decide +kernel
theorem dX7_init_207 : decode cX7_init 207 = .ok (.iconst 0, 1) := by decide +kernel
theorem dX7_init_208 : decode cX7_init 208 = .ok (.putfield 90, 3) := by decide +kernel
theorem dX7_init_211 : decode cX7_init 211 = .ok (.return_, 1) := by decide +kernel
theorem dX7_in_0 : decode cX7_in 0 = .ok (.lload_n 0, 1) := by decide +kernel
theorem dX7_in_1 : decode cX7_in 1 = .ok (.lload_n 2, 1) := by decide +kernel
theorem dX7_in_2 : decode cX7_in 2 = .ok (.lcmp, 1) := by decide +kernel
theorem dX7_in_3 : decode cX7_in 3 = .ok (.ifCond .lt 14, 3) := by decide +kernel
theorem dX7_in_6 : decode cX7_in 6 = .ok (.lload_n 0, 1) := by decide +kernel
theorem dX7_in_7 : decode cX7_in 7 = .ok (.lload 4, 2) := by decide +kernel
theorem dX7_in_9 : decode cX7_in 9 = .ok (.lcmp, 1) := by decide +kernel
theorem dX7_in_10 : decode cX7_in 10 = .ok (.ifCond .gt 7, 3) := by decide +kernel
theorem dX7_in_13 : decode cX7_in 13 = .ok (.iconst 1, 1) := by decide +kernel
theorem dX7_in_14 : decode cX7_in 14 = .ok (.goto 4, 3) := by decide +kernel
theorem dX7_in_17 : decode cX7_in 17 = .ok (.iconst 0, 1) := by decide +kernel
theorem dX7_in_18 : decode cX7_in 18 = .ok (.ireturn, 1) := by decide +kernel
theorem dX7_has_0 : decode cX7_has 0 = .ok (.iload_n 0, 1) := by decide +kernel
theorem dX7_has_1 : decode cX7_has 1 = .ok (.iload_n 1, 1) := by decide +kernel
theorem dX7_has_2 : decode cX7_has 2 = .ok (.ishr, 1) := by decide +kernel
theorem dX7_has_3 : decode cX7_has 3 = .ok (.iconst 1, 1) := by decide +kernel
theorem dX7_has_4 : decode cX7_has 4 = .ok (.iand, 1) := by decide +kernel
theorem dX7_has_5 : decode cX7_has 5 = .ok (.iconst 1, 1) := by decide +kernel
theorem dX7_has_6 : decode cX7_has 6 = .ok (.if_icmp .ne 7, 3) := by decide +kernel
theorem dX7_has_9 : decode cX7_has 9 = .ok (.iconst 1, 1) := by decide +kernel
theorem dX7_has_10 : decode cX7_has 10 = .ok (.goto 4, 3) := by decide +kernel
theorem dX7_has_13 : decode cX7_has 13 = .ok (.iconst 0, 1) := by decide +kernel
theorem dX7_has_14 : decode cX7_has 14 = .ok (.ireturn, 1) := by decide +kernel
theorem dX7_size_0 : decode cX7_size 0 = .ok (.iload_n 0, 1) := by decide +kernel
theorem dX7_size_1 : decode cX7_size 1 = .ok (.ifCond .ge 8, 3) := by decide +kernel
theorem dX7_size_4 : decode cX7_size 4 = .ok (.iload_n 0, 1) := by decide +kernel
theorem dX7_size_5 : decode cX7_size 5 = .ok (.ineg, 1) := by decide +kernel
theorem dX7_size_6 : decode cX7_size 6 = .ok (.goto 4, 3) := by decide +kernel
theorem dX7_size_9 : decode cX7_size 9 = .ok (.iload_n 0, 1) := by decide +kernel
theorem dX7_size_10 : decode cX7_size 10 = .ok (.ireturn, 1) := by decide +kernel
theorem dX7_isPlace_0 : decode cX7_isPlace 0 = .ok (.iload_n 1, 1) := by decide +kernel
theorem dX7_isPlace_1 : decode cX7_isPlace 1 = .ok (.i2l, 1) := by decide +kernel
theorem dX7_isPlace_2 : decode cX7_isPlace 2 = .ok (.lconst 0, 1) := by decide +kernel
theorem dX7_isPlace_3 : decode cX7_isPlace 3 = .ok (.aload_n 0, 1) := by decide +kernel
theorem dX7_isPlace_4 : decode cX7_isPlace 4 = .ok (.getfield 90, 3) := by decide +kernel
theorem dX7_isPlace_7 : decode cX7_isPlace 7 = .ok (.iconst 1, 1) := by decide +kernel
theorem dX7_isPlace_8 : decode cX7_isPlace 8 = .ok (.isub, 1) := by decide +kernel
theorem dX7_isPlace_9 : decode cX7_isPlace 9 = .ok (.i2l, 1) := by decide +kernel
theorem dX7_isPlace_10 : decode cX7_isPlace 10 = .ok (.invokestatic 93, 3) := by decide +kernel
theorem dX7_isPlace_13 : decode cX7_isPlace 13 = .ok (.ireturn, 1) := by decide +kernel
theorem dX7_isLetter_0 : decode cX7_isLetter 0 = .ok (.iload_n 1, 1) := by decide +kernel
theorem dX7_isLetter_1 : decode cX7_isLetter 1 = .ok (.i2l, 1) := by decide +kernel
theorem dX7_isLetter_2 : decode cX7_isLetter 2 = .ok (.lconst 0, 1) := by decide +kernel
theorem dX7_isLetter_3 : decode cX7_isLetter 3 = .ok (.aload_n 0, 1) := by decide +kernel
theorem dX7_isLetter_4 : decode cX7_isLetter 4 = .ok (.getfield 97, 3) := by decide +kernel
theorem dX7_isLetter_7 : decode cX7_isLetter 7 = .ok (.iconst 1, 1) := by decide +kernel
theorem dX7_isLetter_8 : decode cX7_isLetter 8 = .ok (.isub, 1) := by decide +kernel
theorem dX7_isLetter_9 : decode cX7_isLetter 9 = .ok (.i2l, 1) := by decide +kernel
theorem dX7_isLetter_10 : decode cX7_isLetter 10 = .ok (.invokestatic 93, 3) := by decide +kernel
theorem dX7_isLetter_13 : decode cX7_isLetter 13 = .ok (.ireturn, 1) := by decide +kernel
theorem dX7_feed_0 : decode cX7_feed 0 = .ok (.iload_n 1, 1) := by decide +kernel
theorem dX7_feed_1 : decode cX7_feed 1 = .ok (.i2l, 1) := by decide +kernel
theorem dX7_feed_2 : decode cX7_feed 2 = .ok (.lconst 1, 1) := by decide +kernel
theorem dX7_feed_3 : decode cX7_feed 3 = .ok (.ldc2_w 100, 3) := by decide +kernel
theorem dX7_feed_6 : decode cX7_feed 6 = .ok (.invokestatic 93, 3) := by decide +kernel
theorem dX7_feed_9 : decode cX7_feed 9 = .ok (.ifCond .ne 6, 3) := by decide +kernel
theorem dX7_feed_12 : decode cX7_feed 12 = .ok (.ldc 102, 2) := by decide +kernel
theorem dX7_feed_14 : decode cX7_feed 14 = .ok (.ireturn, 1) := by decide +kernel
theorem dX7_feed_15 : decode cX7_feed 15 = .ok (.aload_n 0, 1) := by decide +kernel
theorem dX7_feed_16 : decode cX7_feed 16 = .ok (.getfield 103, 3) := by decide +kernel
theorem dX7_feed_19 : decode cX7_feed 19 = .ok (.iload_n 1, 1) := by decide +kernel
theorem dX7_feed_20 : decode cX7_feed 20 = .ok (.iadd, 1) := by decide +kernel
theorem dX7_feed_21 : decode cX7_feed 21 = .ok (.sipush 400, 3) := by decide +kernel
theorem dX7_feed_24 : decode cX7_feed 24 = .ok (.if_icmp .le 6, 3) := by decide +kernel
theorem dX7_feed_27 : decode cX7_feed 27 = .ok (.ldc 106, 2) := by decide +kernel
theorem dX7_feed_29 : decode cX7_feed 29 = .ok (.ireturn, 1) := by decide +kernel
theorem dX7_feed_30 : decode cX7_feed 30 = .ok (.iload_n 1, 1) := by decide +kernel
theorem dX7_feed_31 : decode cX7_feed 31 = .ok (.iconst 1, 1) := by decide +kernel
theorem dX7_feed_32 : decode cX7_feed 32 = .ok (.isub, 1) := by decide +kernel
theorem dX7_feed_33 : decode cX7_feed 33 = .ok (.istore 4, 2) := by decide +kernel
theorem dX7_feed_35 : decode cX7_feed 35 = .ok (.iload 4, 2) := by decide +kernel
theorem dX7_feed_37 : decode cX7_feed 37 = .ok (.ifCond .lt 40, 3) := by decide +kernel
theorem dX7_feed_40 : decode cX7_feed 40 = .ok (.aload_n 0, 1) := by decide +kernel
theorem dX7_feed_41 : decode cX7_feed 41 = .ok (.getfield 35, 3) := by decide +kernel
theorem dX7_feed_44 : decode cX7_feed 44 = .ok (.aload_n 0, 1) := by decide +kernel
theorem dX7_feed_45 : decode cX7_feed 45 = .ok (.getfield 103, 3) := by decide +kernel
theorem dX7_feed_48 : decode cX7_feed 48 = .ok (.lload_n 2, 1) := by decide +kernel
theorem dX7_feed_49 : decode cX7_feed 49 = .ok (.bipush 8, 2) := by decide +kernel
theorem dX7_feed_51 : decode cX7_feed 51 = .ok (.iload 4, 2) := by decide +kernel
theorem dX7_feed_53 : decode cX7_feed 53 = .ok (.imul, 1) := by decide +kernel
theorem dX7_feed_54 : decode cX7_feed 54 = .ok (.lshr, 1) := by decide +kernel
theorem dX7_feed_55 : decode cX7_feed 55 = .ok (.ldc2_w 107, 3) := by decide +kernel
theorem dX7_feed_58 : decode cX7_feed 58 = .ok (.land, 1) := by decide +kernel
theorem dX7_feed_59 : decode cX7_feed 59 = .ok (.l2i, 1) := by decide +kernel
theorem dX7_feed_60 : decode cX7_feed 60 = .ok (.iastore, 1) := by decide +kernel
theorem dX7_feed_61 : decode cX7_feed 61 = .ok (.aload_n 0, 1) := by decide +kernel
theorem dX7_feed_62 : decode cX7_feed 62 = .ok (.dup, 1) := by decide +kernel
theorem dX7_feed_63 : decode cX7_feed 63 = .ok (.getfield 103, 3) := by decide +kernel
theorem dX7_feed_66 : decode cX7_feed 66 = .ok (.iconst 1, 1) := by decide +kernel
theorem dX7_feed_67 : decode cX7_feed 67 = .ok (.iadd, 1) := by decide +kernel
theorem dX7_feed_68 : decode cX7_feed 68 = .ok (.putfield 103, 3) := by decide +kernel
theorem dX7_feed_71 : decode cX7_feed 71 = .ok (.iinc 4 (-1), 3) := by decide +kernel
theorem dX7_feed_74 : decode cX7_feed 74 = .ok (.goto (-39), 3) := by decide +kernel
theorem dX7_feed_77 : decode cX7_feed 77 = .ok (.aload_n 0, 1) := by decide +kernel
theorem dX7_feed_78 : decode cX7_feed 78 = .ok (.getfield 103, 3) := by decide +kernel
theorem dX7_feed_81 : decode cX7_feed 81 = .ok (.ireturn, 1) := by decide +kernel
theorem dX7_here_0 : decode cX7_here 0 = .ok (.aload_n 0, 1) := by decide +kernel
theorem dX7_here_1 : decode cX7_here 1 = .ok (.getfield 109, 3) := by decide +kernel
theorem dX7_here_4 : decode cX7_here 4 = .ok (.aload_n 0, 1) := by decide +kernel
theorem dX7_here_5 : decode cX7_here 5 = .ok (.getfield 103, 3) := by decide +kernel
theorem dX7_here_8 : decode cX7_here 8 = .ok (.if_icmp .ge 30, 3) := by decide +kernel
theorem dX7_here_11 : decode cX7_here 11 = .ok (.aload_n 0, 1) := by decide +kernel
theorem dX7_here_12 : decode cX7_here 12 = .ok (.getfield 35, 3) := by decide +kernel
theorem dX7_here_15 : decode cX7_here 15 = .ok (.aload_n 0, 1) := by decide +kernel
theorem dX7_here_16 : decode cX7_here 16 = .ok (.getfield 109, 3) := by decide +kernel
theorem dX7_here_19 : decode cX7_here 19 = .ok (.iaload, 1) := by decide +kernel
theorem dX7_here_20 : decode cX7_here 20 = .ok (.bipush 32, 2) := by decide +kernel
theorem dX7_here_22 : decode cX7_here 22 = .ok (.if_icmp .ne 16, 3) := by decide +kernel
theorem dX7_here_25 : decode cX7_here 25 = .ok (.aload_n 0, 1) := by decide +kernel
theorem dX7_here_26 : decode cX7_here 26 = .ok (.dup, 1) := by decide +kernel
theorem dX7_here_27 : decode cX7_here 27 = .ok (.getfield 109, 3) := by decide +kernel
theorem dX7_here_30 : decode cX7_here 30 = .ok (.iconst 1, 1) := by decide +kernel
theorem dX7_here_31 : decode cX7_here 31 = .ok (.iadd, 1) := by decide +kernel
theorem dX7_here_32 : decode cX7_here 32 = .ok (.putfield 109, 3) := by decide +kernel
theorem dX7_here_35 : decode cX7_here 35 = .ok (.goto (-35), 3) := by decide +kernel
theorem dX7_here_38 : decode cX7_here 38 = .ok (.aload_n 0, 1) := by decide +kernel
theorem dX7_here_39 : decode cX7_here 39 = .ok (.getfield 109, 3) := by decide +kernel
theorem dX7_here_42 : decode cX7_here 42 = .ok (.aload_n 0, 1) := by decide +kernel
theorem dX7_here_43 : decode cX7_here 43 = .ok (.getfield 103, 3) := by decide +kernel
theorem dX7_here_46 : decode cX7_here 46 = .ok (.if_icmp .ge 15, 3) := by decide +kernel
theorem dX7_here_49 : decode cX7_here 49 = .ok (.aload_n 0, 1) := by decide +kernel
theorem dX7_here_50 : decode cX7_here 50 = .ok (.getfield 35, 3) := by decide +kernel
theorem dX7_here_53 : decode cX7_here 53 = .ok (.aload_n 0, 1) := by decide +kernel
theorem dX7_here_54 : decode cX7_here 54 = .ok (.getfield 109, 3) := by decide +kernel
theorem dX7_here_57 : decode cX7_here 57 = .ok (.iaload, 1) := by decide +kernel
theorem dX7_here_58 : decode cX7_here 58 = .ok (.goto 4, 3) := by decide +kernel
theorem dX7_here_61 : decode cX7_here 61 = .ok (.iconst (-1), 1) := by decide +kernel
theorem dX7_here_62 : decode cX7_here 62 = .ok (.ireturn, 1) := by decide +kernel
theorem dX7_fails_0 : decode cX7_fails 0 = .ok (.aload_n 0, 1) := by decide +kernel
theorem dX7_fails_1 : decode cX7_fails 1 = .ok (.iload_n 2, 1) := by decide +kernel
theorem dX7_fails_2 : decode cX7_fails 2 = .ok (.putfield 38, 3) := by decide +kernel
theorem dX7_fails_5 : decode cX7_fails 5 = .ok (.iload_n 1, 1) := by decide +kernel
theorem dX7_fails_6 : decode cX7_fails 6 = .ok (.ireturn, 1) := by decide +kernel
theorem dX7_readWord_0 : decode cX7_readWord 0 = .ok (.aload_n 0, 1) := by decide +kernel
theorem dX7_readWord_1 : decode cX7_readWord 1 = .ok (.invokevirtual 112, 3) := by decide +kernel
theorem dX7_readWord_4 : decode cX7_readWord 4 = .ok (.istore_n 1, 1) := by decide +kernel
theorem dX7_readWord_5 : decode cX7_readWord 5 = .ok (.aload_n 0, 1) := by decide +kernel
theorem dX7_readWord_6 : decode cX7_readWord 6 = .ok (.lconst 0, 1) := by decide +kernel
theorem dX7_readWord_7 : decode cX7_readWord 7 = .ok (.putfield 116, 3) := by decide +kernel
theorem dX7_readWord_10 : decode cX7_readWord 10 = .ok (.aload_n 0, 1) := by decide +kernel
theorem dX7_readWord_11 : decode cX7_readWord 11 = .ok (.aload_n 0, 1) := by decide +kernel
theorem dX7_readWord_12 : decode cX7_readWord 12 = .ok (.getfield 109, 3) := by decide +kernel
theorem dX7_readWord_15 : decode cX7_readWord 15 = .ok (.putfield 120, 3) := by decide +kernel
theorem dX7_readWord_18 : decode cX7_readWord 18 = .ok (.aload_n 0, 1) := by decide +kernel
theorem dX7_readWord_19 : decode cX7_readWord 19 = .ok (.getfield 120, 3) := by decide +kernel
theorem dX7_readWord_22 : decode cX7_readWord 22 = .ok (.aload_n 0, 1) := by decide +kernel
theorem dX7_readWord_23 : decode cX7_readWord 23 = .ok (.getfield 103, 3) := by decide +kernel
theorem dX7_readWord_26 : decode cX7_readWord 26 = .ok (.if_icmp .ge 82, 3) := by decide +kernel
theorem dX7_readWord_29 : decode cX7_readWord 29 = .ok (.aload_n 0, 1) := by decide +kernel
theorem dX7_readWord_30 : decode cX7_readWord 30 = .ok (.getfield 35, 3) := by decide +kernel
theorem dX7_readWord_33 : decode cX7_readWord 33 = .ok (.aload_n 0, 1) := by decide +kernel
theorem dX7_readWord_34 : decode cX7_readWord 34 = .ok (.getfield 120, 3) := by decide +kernel
theorem dX7_readWord_37 : decode cX7_readWord 37 = .ok (.iaload, 1) := by decide +kernel
theorem dX7_readWord_38 : decode cX7_readWord 38 = .ok (.i2l, 1) := by decide +kernel
theorem dX7_readWord_39 : decode cX7_readWord 39 = .ok (.ldc2_w 123, 3) := by decide +kernel
theorem dX7_readWord_42 : decode cX7_readWord 42 = .ok (.ldc2_w 125, 3) := by decide +kernel
theorem dX7_readWord_45 : decode cX7_readWord 45 = .ok (.invokestatic 93, 3) := by decide +kernel
theorem dX7_readWord_48 : decode cX7_readWord 48 = .ok (.ifCond .eq 60, 3) := by decide +kernel
theorem dX7_readWord_51 : decode cX7_readWord 51 = .ok (.aload_n 0, 1) := by decide +kernel
theorem dX7_readWord_52 : decode cX7_readWord 52 = .ok (.aload_n 0, 1) := by decide +kernel
theorem dX7_readWord_53 : decode cX7_readWord 53 = .ok (.getfield 116, 3) := by decide +kernel
theorem dX7_readWord_56 : decode cX7_readWord 56 = .ok (.ldc2_w 127, 3) := by decide +kernel
theorem dX7_readWord_59 : decode cX7_readWord 59 = .ok (.lcmp, 1) := by decide +kernel
theorem dX7_readWord_60 : decode cX7_readWord 60 = .ok (.ifCond .le 9, 3) := by decide +kernel
theorem dX7_readWord_63 : decode cX7_readWord 63 = .ok (.ldc2_w 129, 3) := by decide +kernel
theorem dX7_readWord_66 : decode cX7_readWord 66 = .ok (.goto 26, 3) := by decide +kernel
theorem dX7_readWord_69 : decode cX7_readWord 69 = .ok (.ldc2_w 131, 3) := by decide +kernel
theorem dX7_readWord_72 : decode cX7_readWord 72 = .ok (.aload_n 0, 1) := by decide +kernel
theorem dX7_readWord_73 : decode cX7_readWord 73 = .ok (.getfield 116, 3) := by decide +kernel
theorem dX7_readWord_76 : decode cX7_readWord 76 = .ok (.lmul, 1) := by decide +kernel
theorem dX7_readWord_77 : decode cX7_readWord 77 = .ok (.aload_n 0, 1) := by decide +kernel
theorem dX7_readWord_78 : decode cX7_readWord 78 = .ok (.getfield 35, 3) := by decide +kernel
theorem dX7_readWord_81 : decode cX7_readWord 81 = .ok (.aload_n 0, 1) := by decide +kernel
theorem dX7_readWord_82 : decode cX7_readWord 82 = .ok (.getfield 120, 3) := by decide +kernel
theorem dX7_readWord_85 : decode cX7_readWord 85 = .ok (.iaload, 1) := by decide +kernel
theorem dX7_readWord_86 : decode cX7_readWord 86 = .ok (.i2l, 1) := by decide +kernel
theorem dX7_readWord_87 : decode cX7_readWord 87 = .ok (.ladd, 1) := by decide +kernel
theorem dX7_readWord_88 : decode cX7_readWord 88 = .ok (.ldc2_w 133, 3) := by decide +kernel
theorem dX7_readWord_91 : decode cX7_readWord 91 = .ok (.lsub, 1) := by decide +kernel
theorem dX7_readWord_92 : decode cX7_readWord 92 = .ok (.putfield 116, 3) := by decide +kernel
theorem dX7_readWord_95 : decode cX7_readWord 95 = .ok (.aload_n 0, 1) := by decide +kernel
theorem dX7_readWord_96 : decode cX7_readWord 96 = .ok (.dup, 1) := by decide +kernel
theorem dX7_readWord_97 : decode cX7_readWord 97 = .ok (.getfield 120, 3) := by decide +kernel
theorem dX7_readWord_100 : decode cX7_readWord 100 = .ok (.iconst 1, 1) := by decide +kernel
theorem dX7_readWord_101 : decode cX7_readWord 101 = .ok (.iadd, 1) := by decide +kernel
theorem dX7_readWord_102 : decode cX7_readWord 102 = .ok (.putfield 120, 3) := by decide +kernel
theorem dX7_readWord_105 : decode cX7_readWord 105 = .ok (.goto (-87), 3) := by decide +kernel
theorem dX7_readWord_108 : decode cX7_readWord 108 = .ok (.return_, 1) := by decide +kernel
theorem dX7_code_0 : decode cX7_code 0 = .ok (.ldc2_w 131, 3) := by decide +kernel
theorem dX7_code_3 : decode cX7_code 3 = .ok (.ldc2_w 131, 3) := by decide +kernel
theorem dX7_code_6 : decode cX7_code 6 = .ok (.ldc2_w 131, 3) := by decide +kernel
theorem dX7_code_9 : decode cX7_code 9 = .ok (.ldc2_w 131, 3) := by decide +kernel
theorem dX7_code_12 : decode cX7_code 12 = .ok (.iload_n 0, 1) := by decide +kernel
theorem dX7_code_13 : decode cX7_code 13 = .ok (.i2l, 1) := by decide +kernel
theorem dX7_code_14 : decode cX7_code 14 = .ok (.ldc2_w 133, 3) := by decide +kernel
theorem dX7_code_17 : decode cX7_code 17 = .ok (.lsub, 1) := by decide +kernel
theorem dX7_code_18 : decode cX7_code 18 = .ok (.lmul, 1) := by decide +kernel
theorem dX7_code_19 : decode cX7_code 19 = .ok (.iload_n 1, 1) := by decide +kernel
theorem dX7_code_20 : decode cX7_code 20 = .ok (.i2l, 1) := by decide +kernel
theorem dX7_code_21 : decode cX7_code 21 = .ok (.ladd, 1) := by decide +kernel
theorem dX7_code_22 : decode cX7_code 22 = .ok (.ldc2_w 133, 3) := by decide +kernel
theorem dX7_code_25 : decode cX7_code 25 = .ok (.lsub, 1) := by decide +kernel
theorem dX7_code_26 : decode cX7_code 26 = .ok (.lmul, 1) := by decide +kernel
theorem dX7_code_27 : decode cX7_code 27 = .ok (.iload_n 2, 1) := by decide +kernel
theorem dX7_code_28 : decode cX7_code 28 = .ok (.i2l, 1) := by decide +kernel
theorem dX7_code_29 : decode cX7_code 29 = .ok (.ladd, 1) := by decide +kernel
theorem dX7_code_30 : decode cX7_code 30 = .ok (.ldc2_w 133, 3) := by decide +kernel
theorem dX7_code_33 : decode cX7_code 33 = .ok (.lsub, 1) := by decide +kernel
theorem dX7_code_34 : decode cX7_code 34 = .ok (.lmul, 1) := by decide +kernel
theorem dX7_code_35 : decode cX7_code 35 = .ok (.iload_n 3, 1) := by decide +kernel
theorem dX7_code_36 : decode cX7_code 36 = .ok (.i2l, 1) := by decide +kernel
theorem dX7_code_37 : decode cX7_code 37 = .ok (.ladd, 1) := by decide +kernel
theorem dX7_code_38 : decode cX7_code 38 = .ok (.ldc2_w 133, 3) := by decide +kernel
theorem dX7_code_41 : decode cX7_code 41 = .ok (.lsub, 1) := by decide +kernel
theorem dX7_code_42 : decode cX7_code 42 = .ok (.lmul, 1) := by decide +kernel
theorem dX7_code_43 : decode cX7_code 43 = .ok (.iload 4, 2) := by decide +kernel
theorem dX7_code_45 : decode cX7_code 45 = .ok (.i2l, 1) := by decide +kernel
theorem dX7_code_46 : decode cX7_code 46 = .ok (.ladd, 1) := by decide +kernel
theorem dX7_code_47 : decode cX7_code 47 = .ok (.ldc2_w 133, 3) := by decide +kernel
theorem dX7_code_50 : decode cX7_code 50 = .ok (.lsub, 1) := by decide +kernel
theorem dX7_code_51 : decode cX7_code 51 = .ok (.lreturn, 1) := by decide +kernel
theorem dX7_takeNumber_0 : decode cX7_takeNumber 0 = .ok (.aload_n 0, 1) := by decide +kernel
theorem dX7_takeNumber_1 : decode cX7_takeNumber 1 = .ok (.invokevirtual 112, 3) := by decide +kernel
theorem dX7_takeNumber_4 : decode cX7_takeNumber 4 = .ok (.istore_n 3, 1) := by decide +kernel
theorem dX7_takeNumber_5 : decode cX7_takeNumber 5 = .ok (.iload_n 3, 1) := by decide +kernel
theorem dX7_takeNumber_6 : decode cX7_takeNumber 6 = .ok (.i2l, 1) := by decide +kernel
theorem dX7_takeNumber_7 : decode cX7_takeNumber 7 = .ok (.ldc2_w 135, 3) := by decide +kernel
theorem dX7_takeNumber_10 : decode cX7_takeNumber 10 = .ok (.ldc2_w 137, 3) := by decide +kernel
theorem dX7_takeNumber_13 : decode cX7_takeNumber 13 = .ok (.invokestatic 93, 3) := by decide +kernel
theorem dX7_takeNumber_16 : decode cX7_takeNumber 16 = .ok (.ifCond .ne 13, 3) := by decide +kernel
theorem dX7_takeNumber_19 : decode cX7_takeNumber 19 = .ok (.aload_n 0, 1) := by decide +kernel
theorem dX7_takeNumber_20 : decode cX7_takeNumber 20 = .ok (.iconst 1, 1) := by decide +kernel
theorem dX7_takeNumber_21 : decode cX7_takeNumber 21 = .ok (.aload_n 0, 1) := by decide +kernel
theorem dX7_takeNumber_22 : decode cX7_takeNumber 22 = .ok (.getfield 109, 3) := by decide +kernel
theorem dX7_takeNumber_25 : decode cX7_takeNumber 25 = .ok (.invokevirtual 139, 3) := by decide +kernel
theorem dX7_takeNumber_28 : decode cX7_takeNumber 28 = .ok (.ireturn, 1) := by decide +kernel
theorem dX7_takeNumber_29 : decode cX7_takeNumber 29 = .ok (.aload_n 0, 1) := by decide +kernel
theorem dX7_takeNumber_30 : decode cX7_takeNumber 30 = .ok (.aload_n 0, 1) := by decide +kernel
theorem dX7_takeNumber_31 : decode cX7_takeNumber 31 = .ok (.getfield 109, 3) := by decide +kernel
theorem dX7_takeNumber_34 : decode cX7_takeNumber 34 = .ok (.putfield 143, 3) := by decide +kernel
theorem dX7_takeNumber_37 : decode cX7_takeNumber 37 = .ok (.aload_n 0, 1) := by decide +kernel
theorem dX7_takeNumber_38 : decode cX7_takeNumber 38 = .ok (.iconst 0, 1) := by decide +kernel
theorem dX7_takeNumber_39 : decode cX7_takeNumber 39 = .ok (.putfield 146, 3) := by decide +kernel
theorem dX7_takeNumber_42 : decode cX7_takeNumber 42 = .ok (.aload_n 0, 1) := by decide +kernel
theorem dX7_takeNumber_43 : decode cX7_takeNumber 43 = .ok (.getfield 109, 3) := by decide +kernel
theorem dX7_takeNumber_46 : decode cX7_takeNumber 46 = .ok (.aload_n 0, 1) := by decide +kernel
theorem dX7_takeNumber_47 : decode cX7_takeNumber 47 = .ok (.getfield 103, 3) := by decide +kernel
theorem dX7_takeNumber_50 : decode cX7_takeNumber 50 = .ok (.if_icmp .ge 79, 3) := by decide +kernel
theorem dX7_takeNumber_53 : decode cX7_takeNumber 53 = .ok (.aload_n 0, 1) := by decide +kernel
theorem dX7_takeNumber_54 : decode cX7_takeNumber 54 = .ok (.getfield 35, 3) := by decide +kernel
theorem dX7_takeNumber_57 : decode cX7_takeNumber 57 = .ok (.aload_n 0, 1) := by decide +kernel
theorem dX7_takeNumber_58 : decode cX7_takeNumber 58 = .ok (.getfield 109, 3) := by decide +kernel
theorem dX7_takeNumber_61 : decode cX7_takeNumber 61 = .ok (.iaload, 1) := by decide +kernel
theorem dX7_takeNumber_62 : decode cX7_takeNumber 62 = .ok (.i2l, 1) := by decide +kernel
theorem dX7_takeNumber_63 : decode cX7_takeNumber 63 = .ok (.ldc2_w 135, 3) := by decide +kernel
theorem dX7_takeNumber_66 : decode cX7_takeNumber 66 = .ok (.ldc2_w 137, 3) := by decide +kernel
theorem dX7_takeNumber_69 : decode cX7_takeNumber 69 = .ok (.invokestatic 93, 3) := by decide +kernel
theorem dX7_takeNumber_72 : decode cX7_takeNumber 72 = .ok (.ifCond .eq 57, 3) := by decide +kernel
theorem dX7_takeNumber_75 : decode cX7_takeNumber 75 = .ok (.aload_n 0, 1) := by decide +kernel
theorem dX7_takeNumber_76 : decode cX7_takeNumber 76 = .ok (.aload_n 0, 1) := by decide +kernel
theorem dX7_takeNumber_77 : decode cX7_takeNumber 77 = .ok (.getfield 146, 3) := by decide +kernel
theorem dX7_takeNumber_80 : decode cX7_takeNumber 80 = .ok (.sipush 10000, 3) := by decide +kernel
theorem dX7_takeNumber_83 : decode cX7_takeNumber 83 = .ok (.if_icmp .le 10, 3) := by decide +kernel
theorem dX7_takeNumber_86 : decode cX7_takeNumber 86 = .ok (.aload_n 0, 1) := by decide +kernel
theorem dX7_takeNumber_87 : decode cX7_takeNumber 87 = .ok (.getfield 146, 3) := by decide +kernel
theorem dX7_takeNumber_90 : decode cX7_takeNumber 90 = .ok (.goto 23, 3) := by decide +kernel
theorem dX7_takeNumber_93 : decode cX7_takeNumber 93 = .ok (.bipush 10, 2) := by decide +kernel
theorem dX7_takeNumber_95 : decode cX7_takeNumber 95 = .ok (.aload_n 0, 1) := by decide +kernel
theorem dX7_takeNumber_96 : decode cX7_takeNumber 96 = .ok (.getfield 146, 3) := by decide +kernel
theorem dX7_takeNumber_99 : decode cX7_takeNumber 99 = .ok (.imul, 1) := by decide +kernel
theorem dX7_takeNumber_100 : decode cX7_takeNumber 100 = .ok (.aload_n 0, 1) := by decide +kernel
theorem dX7_takeNumber_101 : decode cX7_takeNumber 101 = .ok (.getfield 35, 3) := by decide +kernel
theorem dX7_takeNumber_104 : decode cX7_takeNumber 104 = .ok (.aload_n 0, 1) := by decide +kernel
theorem dX7_takeNumber_105 : decode cX7_takeNumber 105 = .ok (.getfield 109, 3) := by decide +kernel
theorem dX7_takeNumber_108 : decode cX7_takeNumber 108 = .ok (.iaload, 1) := by decide +kernel
theorem dX7_takeNumber_109 : decode cX7_takeNumber 109 = .ok (.iadd, 1) := by decide +kernel
theorem dX7_takeNumber_110 : decode cX7_takeNumber 110 = .ok (.bipush 48, 2) := by decide +kernel
theorem dX7_takeNumber_112 : decode cX7_takeNumber 112 = .ok (.isub, 1) := by decide +kernel
theorem dX7_takeNumber_113 : decode cX7_takeNumber 113 = .ok (.putfield 146, 3) := by decide +kernel
theorem dX7_takeNumber_116 : decode cX7_takeNumber 116 = .ok (.aload_n 0, 1) := by decide +kernel
theorem dX7_takeNumber_117 : decode cX7_takeNumber 117 = .ok (.dup, 1) := by decide +kernel
theorem dX7_takeNumber_118 : decode cX7_takeNumber 118 = .ok (.getfield 109, 3) := by decide +kernel
theorem dX7_takeNumber_121 : decode cX7_takeNumber 121 = .ok (.iconst 1, 1) := by decide +kernel
theorem dX7_takeNumber_122 : decode cX7_takeNumber 122 = .ok (.iadd, 1) := by decide +kernel
theorem dX7_takeNumber_123 : decode cX7_takeNumber 123 = .ok (.putfield 109, 3) := by decide +kernel
theorem dX7_takeNumber_126 : decode cX7_takeNumber 126 = .ok (.goto (-84), 3) := by decide +kernel
theorem dX7_takeNumber_129 : decode cX7_takeNumber 129 = .ok (.aload_n 0, 1) := by decide +kernel
theorem dX7_takeNumber_130 : decode cX7_takeNumber 130 = .ok (.getfield 109, 3) := by decide +kernel
theorem dX7_takeNumber_133 : decode cX7_takeNumber 133 = .ok (.aload_n 0, 1) := by decide +kernel
theorem dX7_takeNumber_134 : decode cX7_takeNumber 134 = .ok (.getfield 143, 3) := by decide +kernel
theorem dX7_takeNumber_137 : decode cX7_takeNumber 137 = .ok (.isub, 1) := by decide +kernel
theorem dX7_takeNumber_138 : decode cX7_takeNumber 138 = .ok (.iconst 3, 1) := by decide +kernel
theorem dX7_takeNumber_139 : decode cX7_takeNumber 139 = .ok (.if_icmp .gt 18, 3) := by decide +kernel
theorem dX7_takeNumber_142 : decode cX7_takeNumber 142 = .ok (.aload_n 0, 1) := by decide +kernel
theorem dX7_takeNumber_143 : decode cX7_takeNumber 143 = .ok (.getfield 146, 3) := by decide +kernel
theorem dX7_takeNumber_146 : decode cX7_takeNumber 146 = .ok (.i2l, 1) := by decide +kernel
theorem dX7_takeNumber_147 : decode cX7_takeNumber 147 = .ok (.iload_n 1, 1) := by decide +kernel
theorem dX7_takeNumber_148 : decode cX7_takeNumber 148 = .ok (.i2l, 1) := by decide +kernel
theorem dX7_takeNumber_149 : decode cX7_takeNumber 149 = .ok (.iload_n 2, 1) := by decide +kernel
theorem dX7_takeNumber_150 : decode cX7_takeNumber 150 = .ok (.i2l, 1) := by decide +kernel
theorem dX7_takeNumber_151 : decode cX7_takeNumber 151 = .ok (.invokestatic 93, 3) := by decide +kernel
theorem dX7_takeNumber_154 : decode cX7_takeNumber 154 = .ok (.ifCond .ne 15, 3) := by decide +kernel
theorem dX7_takeNumber_157 : decode cX7_takeNumber 157 = .ok (.aload_n 0, 1) := by decide +kernel
theorem dX7_takeNumber_158 : decode cX7_takeNumber 158 = .ok (.iconst 2, 1) := by decide +kernel
theorem dX7_takeNumber_159 : decode cX7_takeNumber 159 = .ok (.aload_n 0, 1) := by decide +kernel
theorem dX7_takeNumber_160 : decode cX7_takeNumber 160 = .ok (.getfield 143, 3) := by decide +kernel
theorem dX7_takeNumber_163 : decode cX7_takeNumber 163 = .ok (.invokevirtual 139, 3) := by decide +kernel
theorem dX7_takeNumber_166 : decode cX7_takeNumber 166 = .ok (.goto 4, 3) := by decide +kernel
theorem dX7_takeNumber_169 : decode cX7_takeNumber 169 = .ok (.iconst 0, 1) := by decide +kernel
theorem dX7_takeNumber_170 : decode cX7_takeNumber 170 = .ok (.ireturn, 1) := by decide +kernel
theorem dX7_into_0 : decode cX7_into 0 = .ok (.aload_n 0, 1) := by decide +kernel
theorem dX7_into_1 : decode cX7_into 1 = .ok (.iload_n 3, 1) := by decide +kernel
theorem dX7_into_2 : decode cX7_into 2 = .ok (.iload 4, 2) := by decide +kernel
theorem dX7_into_4 : decode cX7_into 4 = .ok (.invokevirtual 149, 3) := by decide +kernel
theorem dX7_into_7 : decode cX7_into 7 = .ok (.istore 5, 2) := by decide +kernel
theorem dX7_into_9 : decode cX7_into 9 = .ok (.aload_n 1, 1) := by decide +kernel
theorem dX7_into_10 : decode cX7_into 10 = .ok (.iload_n 2, 1) := by decide +kernel
theorem dX7_into_11 : decode cX7_into 11 = .ok (.aload_n 0, 1) := by decide +kernel
theorem dX7_into_12 : decode cX7_into 12 = .ok (.getfield 146, 3) := by decide +kernel
theorem dX7_into_15 : decode cX7_into 15 = .ok (.iastore, 1) := by decide +kernel
theorem dX7_into_16 : decode cX7_into 16 = .ok (.iload 5, 2) := by decide +kernel
theorem dX7_into_18 : decode cX7_into 18 = .ok (.ireturn, 1) := by decide +kernel
theorem dX7_takePlace_0 : decode cX7_takePlace 0 = .ok (.aload_n 0, 1) := by decide +kernel
theorem dX7_takePlace_1 : decode cX7_takePlace 1 = .ok (.getfield 152, 3) := by decide +kernel
theorem dX7_takePlace_4 : decode cX7_takePlace 4 = .ok (.istore_n 1, 1) := by decide +kernel
theorem dX7_takePlace_5 : decode cX7_takePlace 5 = .ok (.aload_n 0, 1) := by decide +kernel
theorem dX7_takePlace_6 : decode cX7_takePlace 6 = .ok (.dup, 1) := by decide +kernel
theorem dX7_takePlace_7 : decode cX7_takePlace 7 = .ok (.getfield 152, 3) := by decide +kernel
theorem dX7_takePlace_10 : decode cX7_takePlace 10 = .ok (.iconst 1, 1) := by decide +kernel
theorem dX7_takePlace_11 : decode cX7_takePlace 11 = .ok (.iadd, 1) := by decide +kernel
theorem dX7_takePlace_12 : decode cX7_takePlace 12 = .ok (.putfield 152, 3) := by decide +kernel
theorem dX7_takePlace_15 : decode cX7_takePlace 15 = .ok (.aload_n 0, 1) := by decide +kernel
theorem dX7_takePlace_16 : decode cX7_takePlace 16 = .ok (.aload_n 0, 1) := by decide +kernel
theorem dX7_takePlace_17 : decode cX7_takePlace 17 = .ok (.getfield 41, 3) := by decide +kernel
theorem dX7_takePlace_20 : decode cX7_takePlace 20 = .ok (.iload_n 1, 1) := by decide +kernel
theorem dX7_takePlace_21 : decode cX7_takePlace 21 = .ok (.iconst 0, 1) := by decide +kernel
theorem dX7_takePlace_22 : decode cX7_takePlace 22 = .ok (.bipush 99, 2) := by decide +kernel
theorem dX7_takePlace_24 : decode cX7_takePlace 24 = .ok (.invokevirtual 155, 3) := by decide +kernel
theorem dX7_takePlace_27 : decode cX7_takePlace 27 = .ok (.istore_n 2, 1) := by decide +kernel
theorem dX7_takePlace_28 : decode cX7_takePlace 28 = .ok (.iload_n 2, 1) := by decide +kernel
theorem dX7_takePlace_29 : decode cX7_takePlace 29 = .ok (.ifCond .le 7, 3) := by decide +kernel
theorem dX7_takePlace_32 : decode cX7_takePlace 32 = .ok (.iload_n 2, 1) := by decide +kernel
theorem dX7_takePlace_33 : decode cX7_takePlace 33 = .ok (.goto 15, 3) := by decide +kernel
theorem dX7_takePlace_36 : decode cX7_takePlace 36 = .ok (.aload_n 0, 1) := by decide +kernel
theorem dX7_takePlace_37 : decode cX7_takePlace 37 = .ok (.aload_n 0, 1) := by decide +kernel
theorem dX7_takePlace_38 : decode cX7_takePlace 38 = .ok (.getfield 44, 3) := by decide +kernel
theorem dX7_takePlace_41 : decode cX7_takePlace 41 = .ok (.iload_n 1, 1) := by decide +kernel
theorem dX7_takePlace_42 : decode cX7_takePlace 42 = .ok (.iconst 0, 1) := by decide +kernel
theorem dX7_takePlace_43 : decode cX7_takePlace 43 = .ok (.bipush 99, 2) := by decide +kernel
theorem dX7_takePlace_45 : decode cX7_takePlace 45 = .ok (.invokevirtual 155, 3) := by decide +kernel
theorem dX7_takePlace_48 : decode cX7_takePlace 48 = .ok (.ireturn, 1) := by decide +kernel
theorem dX7_takeLetter_0 : decode cX7_takeLetter 0 = .ok (.aload_n 0, 1) := by decide +kernel
theorem dX7_takeLetter_1 : decode cX7_takeLetter 1 = .ok (.getfield 159, 3) := by decide +kernel
theorem dX7_takeLetter_4 : decode cX7_takeLetter 4 = .ok (.istore_n 1, 1) := by decide +kernel
theorem dX7_takeLetter_5 : decode cX7_takeLetter 5 = .ok (.aload_n 0, 1) := by decide +kernel
theorem dX7_takeLetter_6 : decode cX7_takeLetter 6 = .ok (.dup, 1) := by decide +kernel
theorem dX7_takeLetter_7 : decode cX7_takeLetter 7 = .ok (.getfield 159, 3) := by decide +kernel
theorem dX7_takeLetter_10 : decode cX7_takeLetter 10 = .ok (.iconst 1, 1) := by decide +kernel
theorem dX7_takeLetter_11 : decode cX7_takeLetter 11 = .ok (.iadd, 1) := by decide +kernel
theorem dX7_takeLetter_12 : decode cX7_takeLetter 12 = .ok (.putfield 159, 3) := by decide +kernel
theorem dX7_takeLetter_15 : decode cX7_takeLetter 15 = .ok (.aload_n 0, 1) := by decide +kernel
theorem dX7_takeLetter_16 : decode cX7_takeLetter 16 = .ok (.aload_n 0, 1) := by decide +kernel
theorem dX7_takeLetter_17 : decode cX7_takeLetter 17 = .ok (.getfield 47, 3) := by decide +kernel
theorem dX7_takeLetter_20 : decode cX7_takeLetter 20 = .ok (.iload_n 1, 1) := by decide +kernel
theorem dX7_takeLetter_21 : decode cX7_takeLetter 21 = .ok (.iconst 0, 1) := by decide +kernel
theorem dX7_takeLetter_22 : decode cX7_takeLetter 22 = .ok (.aload_n 0, 1) := by decide +kernel
theorem dX7_takeLetter_23 : decode cX7_takeLetter 23 = .ok (.getfield 152, 3) := by decide +kernel
theorem dX7_takeLetter_26 : decode cX7_takeLetter 26 = .ok (.iconst 1, 1) := by decide +kernel
theorem dX7_takeLetter_27 : decode cX7_takeLetter 27 = .ok (.isub, 1) := by decide +kernel
theorem dX7_takeLetter_28 : decode cX7_takeLetter 28 = .ok (.invokevirtual 155, 3) := by decide +kernel
theorem dX7_takeLetter_31 : decode cX7_takeLetter 31 = .ok (.istore_n 2, 1) := by decide +kernel
theorem dX7_takeLetter_32 : decode cX7_takeLetter 32 = .ok (.iload_n 2, 1) := by decide +kernel
theorem dX7_takeLetter_33 : decode cX7_takeLetter 33 = .ok (.ifCond .le 7, 3) := by decide +kernel
theorem dX7_takeLetter_36 : decode cX7_takeLetter 36 = .ok (.iload_n 2, 1) := by decide +kernel
theorem dX7_takeLetter_37 : decode cX7_takeLetter 37 = .ok (.goto 15, 3) := by decide +kernel
theorem dX7_takeLetter_40 : decode cX7_takeLetter 40 = .ok (.aload_n 0, 1) := by decide +kernel
theorem dX7_takeLetter_41 : decode cX7_takeLetter 41 = .ok (.aload_n 0, 1) := by decide +kernel
theorem dX7_takeLetter_42 : decode cX7_takeLetter 42 = .ok (.getfield 50, 3) := by decide +kernel
theorem dX7_takeLetter_45 : decode cX7_takeLetter 45 = .ok (.iload_n 1, 1) := by decide +kernel
theorem dX7_takeLetter_46 : decode cX7_takeLetter 46 = .ok (.iconst 1, 1) := by decide +kernel
theorem dX7_takeLetter_47 : decode cX7_takeLetter 47 = .ok (.bipush 99, 2) := by decide +kernel
theorem dX7_takeLetter_49 : decode cX7_takeLetter 49 = .ok (.invokevirtual 155, 3) := by decide +kernel
theorem dX7_takeLetter_52 : decode cX7_takeLetter 52 = .ok (.istore_n 2, 1) := by decide +kernel
theorem dX7_takeLetter_53 : decode cX7_takeLetter 53 = .ok (.iload_n 2, 1) := by decide +kernel
theorem dX7_takeLetter_54 : decode cX7_takeLetter 54 = .ok (.ifCond .le 7, 3) := by decide +kernel
theorem dX7_takeLetter_57 : decode cX7_takeLetter 57 = .ok (.iload_n 2, 1) := by decide +kernel
theorem dX7_takeLetter_58 : decode cX7_takeLetter 58 = .ok (.goto 16, 3) := by decide +kernel
theorem dX7_takeLetter_61 : decode cX7_takeLetter 61 = .ok (.aload_n 0, 1) := by decide +kernel
theorem dX7_takeLetter_62 : decode cX7_takeLetter 62 = .ok (.aload_n 0, 1) := by decide +kernel
theorem dX7_takeLetter_63 : decode cX7_takeLetter 63 = .ok (.getfield 53, 3) := by decide +kernel
theorem dX7_takeLetter_66 : decode cX7_takeLetter 66 = .ok (.iload_n 1, 1) := by decide +kernel
theorem dX7_takeLetter_67 : decode cX7_takeLetter 67 = .ok (.iconst 0, 1) := by decide +kernel
theorem dX7_takeLetter_68 : decode cX7_takeLetter 68 = .ok (.sipush 999, 3) := by decide +kernel
theorem dX7_takeLetter_71 : decode cX7_takeLetter 71 = .ok (.invokevirtual 155, 3) := by decide +kernel
theorem dX7_takeLetter_74 : decode cX7_takeLetter 74 = .ok (.istore_n 2, 1) := by decide +kernel
theorem dX7_takeLetter_75 : decode cX7_takeLetter 75 = .ok (.iload_n 2, 1) := by decide +kernel
theorem dX7_takeLetter_76 : decode cX7_takeLetter 76 = .ok (.ifCond .le 7, 3) := by decide +kernel
theorem dX7_takeLetter_79 : decode cX7_takeLetter 79 = .ok (.iload_n 2, 1) := by decide +kernel
theorem dX7_takeLetter_80 : decode cX7_takeLetter 80 = .ok (.goto 15, 3) := by decide +kernel
theorem dX7_takeLetter_83 : decode cX7_takeLetter 83 = .ok (.aload_n 0, 1) := by decide +kernel
theorem dX7_takeLetter_84 : decode cX7_takeLetter 84 = .ok (.aload_n 0, 1) := by decide +kernel
theorem dX7_takeLetter_85 : decode cX7_takeLetter 85 = .ok (.getfield 56, 3) := by decide +kernel
theorem dX7_takeLetter_88 : decode cX7_takeLetter 88 = .ok (.iload_n 1, 1) := by decide +kernel
theorem dX7_takeLetter_89 : decode cX7_takeLetter 89 = .ok (.iconst 0, 1) := by decide +kernel
theorem dX7_takeLetter_90 : decode cX7_takeLetter 90 = .ok (.bipush 99, 2) := by decide +kernel
theorem dX7_takeLetter_92 : decode cX7_takeLetter 92 = .ok (.invokevirtual 155, 3) := by decide +kernel
theorem dX7_takeLetter_95 : decode cX7_takeLetter 95 = .ok (.ireturn, 1) := by decide +kernel
theorem dX7_takeClause_0 : decode cX7_takeClause 0 = .ok (.aload_n 0, 1) := by decide +kernel
theorem dX7_takeClause_1 : decode cX7_takeClause 1 = .ok (.invokevirtual 162, 3) := by decide +kernel
theorem dX7_takeClause_4 : decode cX7_takeClause 4 = .ok (.aload_n 0, 1) := by decide +kernel
theorem dX7_takeClause_5 : decode cX7_takeClause 5 = .ok (.getfield 116, 3) := by decide +kernel
theorem dX7_takeClause_8 : decode cX7_takeClause 8 = .ok (.bipush 112, 2) := by decide +kernel
theorem dX7_takeClause_10 : decode cX7_takeClause 10 = .ok (.bipush 108, 2) := by decide +kernel
theorem dX7_takeClause_12 : decode cX7_takeClause 12 = .ok (.bipush 97, 2) := by decide +kernel
theorem dX7_takeClause_14 : decode cX7_takeClause 14 = .ok (.bipush 99, 2) := by decide +kernel
theorem dX7_takeClause_16 : decode cX7_takeClause 16 = .ok (.bipush 101, 2) := by decide +kernel
theorem dX7_takeClause_18 : decode cX7_takeClause 18 = .ok (.invokestatic 165, 3) := by decide +kernel
theorem dX7_takeClause_21 : decode cX7_takeClause 21 = .ok (.lcmp, 1) := by decide +kernel
theorem dX7_takeClause_22 : decode cX7_takeClause 22 = .ok (.ifCond .ne 7, 3) := by decide +kernel
theorem dX7_takeClause_25 : decode cX7_takeClause 25 = .ok (.iconst 0, 1) := by decide +kernel
theorem dX7_takeClause_26 : decode cX7_takeClause 26 = .ok (.goto 66, 3) := by decide +kernel
theorem dX7_takeClause_29 : decode cX7_takeClause 29 = .ok (.aload_n 0, 1) := by decide +kernel
theorem dX7_takeClause_30 : decode cX7_takeClause 30 = .ok (.getfield 116, 3) := by decide +kernel
theorem dX7_takeClause_33 : decode cX7_takeClause 33 = .ok (.ldc2_w 131, 3) := by decide +kernel
theorem dX7_takeClause_36 : decode cX7_takeClause 36 = .ok (.bipush 108, 2) := by decide +kernel
theorem dX7_takeClause_38 : decode cX7_takeClause 38 = .ok (.bipush 101, 2) := by decide +kernel
theorem dX7_takeClause_40 : decode cX7_takeClause 40 = .ok (.bipush 116, 2) := by decide +kernel
theorem dX7_takeClause_42 : decode cX7_takeClause 42 = .ok (.bipush 116, 2) := by decide +kernel
theorem dX7_takeClause_44 : decode cX7_takeClause 44 = .ok (.bipush 101, 2) := by decide +kernel
theorem dX7_takeClause_46 : decode cX7_takeClause 46 = .ok (.invokestatic 165, 3) := by decide +kernel
theorem dX7_takeClause_49 : decode cX7_takeClause 49 = .ok (.lmul, 1) := by decide +kernel
theorem dX7_takeClause_50 : decode cX7_takeClause 50 = .ok (.ldc2_w 169, 3) := by decide +kernel
theorem dX7_takeClause_53 : decode cX7_takeClause 53 = .ok (.ladd, 1) := by decide +kernel
theorem dX7_takeClause_54 : decode cX7_takeClause 54 = .ok (.ldc2_w 133, 3) := by decide +kernel
theorem dX7_takeClause_57 : decode cX7_takeClause 57 = .ok (.lsub, 1) := by decide +kernel
theorem dX7_takeClause_58 : decode cX7_takeClause 58 = .ok (.lcmp, 1) := by decide +kernel
theorem dX7_takeClause_59 : decode cX7_takeClause 59 = .ok (.ifCond .ne 7, 3) := by decide +kernel
theorem dX7_takeClause_62 : decode cX7_takeClause 62 = .ok (.iconst 1, 1) := by decide +kernel
theorem dX7_takeClause_63 : decode cX7_takeClause 63 = .ok (.goto 29, 3) := by decide +kernel
theorem dX7_takeClause_66 : decode cX7_takeClause 66 = .ok (.aload_n 0, 1) := by decide +kernel
theorem dX7_takeClause_67 : decode cX7_takeClause 67 = .ok (.getfield 116, 3) := by decide +kernel
theorem dX7_takeClause_70 : decode cX7_takeClause 70 = .ok (.bipush 115, 2) := by decide +kernel
theorem dX7_takeClause_72 : decode cX7_takeClause 72 = .ok (.bipush 116, 2) := by decide +kernel
theorem dX7_takeClause_74 : decode cX7_takeClause 74 = .ok (.bipush 111, 2) := by decide +kernel
theorem dX7_takeClause_76 : decode cX7_takeClause 76 = .ok (.bipush 110, 2) := by decide +kernel
theorem dX7_takeClause_78 : decode cX7_takeClause 78 = .ok (.bipush 101, 2) := by decide +kernel
theorem dX7_takeClause_80 : decode cX7_takeClause 80 = .ok (.invokestatic 165, 3) := by decide +kernel
theorem dX7_takeClause_83 : decode cX7_takeClause 83 = .ok (.lcmp, 1) := by decide +kernel
theorem dX7_takeClause_84 : decode cX7_takeClause 84 = .ok (.ifCond .ne 7, 3) := by decide +kernel
theorem dX7_takeClause_87 : decode cX7_takeClause 87 = .ok (.iconst 2, 1) := by decide +kernel
theorem dX7_takeClause_88 : decode cX7_takeClause 88 = .ok (.goto 4, 3) := by decide +kernel
theorem dX7_takeClause_91 : decode cX7_takeClause 91 = .ok (.iconst (-1), 1) := by decide +kernel
theorem dX7_takeClause_92 : decode cX7_takeClause 92 = .ok (.istore_n 1, 1) := by decide +kernel
theorem dX7_takeClause_93 : decode cX7_takeClause 93 = .ok (.iload_n 1, 1) := by decide +kernel
theorem dX7_takeClause_94 : decode cX7_takeClause 94 = .ok (.ifCond .ge 13, 3) := by decide +kernel
theorem dX7_takeClause_97 : decode cX7_takeClause 97 = .ok (.aload_n 0, 1) := by decide +kernel
theorem dX7_takeClause_98 : decode cX7_takeClause 98 = .ok (.iconst 1, 1) := by decide +kernel
theorem dX7_takeClause_99 : decode cX7_takeClause 99 = .ok (.aload_n 0, 1) := by decide +kernel
theorem dX7_takeClause_100 : decode cX7_takeClause 100 = .ok (.getfield 109, 3) := by decide +kernel
theorem dX7_takeClause_103 : decode cX7_takeClause 103 = .ok (.invokevirtual 139, 3) := by decide +kernel
theorem dX7_takeClause_106 : decode cX7_takeClause 106 = .ok (.ireturn, 1) := by decide +kernel
theorem dX7_takeClause_107 : decode cX7_takeClause 107 = .ok (.iload_n 1, 1) := by decide +kernel
theorem dX7_takeClause_108 : decode cX7_takeClause 108 = .ok (.ifCond .ne 15, 3) := by decide +kernel
theorem dX7_takeClause_111 : decode cX7_takeClause 111 = .ok (.aload_n 0, 1) := by decide +kernel
theorem dX7_takeClause_112 : decode cX7_takeClause 112 = .ok (.getfield 152, 3) := by decide +kernel
theorem dX7_takeClause_115 : decode cX7_takeClause 115 = .ok (.bipush 7, 2) := by decide +kernel
theorem dX7_takeClause_117 : decode cX7_takeClause 117 = .ok (.if_icmp .ne 40, 3) := by decide +kernel
theorem dX7_takeClause_120 : decode cX7_takeClause 120 = .ok (.goto 27, 3) := by decide +kernel
theorem dX7_takeClause_123 : decode cX7_takeClause 123 = .ok (.iload_n 1, 1) := by decide +kernel
theorem dX7_takeClause_124 : decode cX7_takeClause 124 = .ok (.iconst 1, 1) := by decide +kernel
theorem dX7_takeClause_125 : decode cX7_takeClause 125 = .ok (.if_icmp .ne 15, 3) := by decide +kernel
theorem dX7_takeClause_128 : decode cX7_takeClause 128 = .ok (.aload_n 0, 1) := by decide +kernel
theorem dX7_takeClause_129 : decode cX7_takeClause 129 = .ok (.getfield 159, 3) := by decide +kernel
theorem dX7_takeClause_132 : decode cX7_takeClause 132 = .ok (.bipush 7, 2) := by decide +kernel
theorem dX7_takeClause_134 : decode cX7_takeClause 134 = .ok (.if_icmp .ne 23, 3) := by decide +kernel
theorem dX7_takeClause_137 : decode cX7_takeClause 137 = .ok (.goto 10, 3) := by decide +kernel
theorem dX7_takeClause_140 : decode cX7_takeClause 140 = .ok (.aload_n 0, 1) := by decide +kernel
theorem dX7_takeClause_141 : decode cX7_takeClause 141 = .ok (.getfield 171, 3) := by decide +kernel
theorem dX7_takeClause_144 : decode cX7_takeClause 144 = .ok (.ifCond .lt 13, 3) := by decide +kernel
theorem dX7_takeClause_147 : decode cX7_takeClause 147 = .ok (.aload_n 0, 1) := by decide +kernel
theorem dX7_takeClause_148 : decode cX7_takeClause 148 = .ok (.iconst 3, 1) := by decide +kernel
theorem dX7_takeClause_149 : decode cX7_takeClause 149 = .ok (.aload_n 0, 1) := by decide +kernel
theorem dX7_takeClause_150 : decode cX7_takeClause 150 = .ok (.getfield 109, 3) := by decide +kernel
theorem dX7_takeClause_153 : decode cX7_takeClause 153 = .ok (.invokevirtual 139, 3) := by decide +kernel
theorem dX7_takeClause_156 : decode cX7_takeClause 156 = .ok (.ireturn, 1) := by decide +kernel
theorem dX7_takeClause_157 : decode cX7_takeClause 157 = .ok (.aload_n 0, 1) := by decide +kernel
theorem dX7_takeClause_158 : decode cX7_takeClause 158 = .ok (.aload_n 0, 1) := by decide +kernel
theorem dX7_takeClause_159 : decode cX7_takeClause 159 = .ok (.getfield 120, 3) := by decide +kernel
theorem dX7_takeClause_162 : decode cX7_takeClause 162 = .ok (.putfield 109, 3) := by decide +kernel
theorem dX7_takeClause_165 : decode cX7_takeClause 165 = .ok (.iconst 0, 1) := by decide +kernel
theorem dX7_takeClause_166 : decode cX7_takeClause 166 = .ok (.istore_n 2, 1) := by decide +kernel
theorem dX7_takeClause_167 : decode cX7_takeClause 167 = .ok (.iload_n 1, 1) := by decide +kernel
theorem dX7_takeClause_168 : decode cX7_takeClause 168 = .ok (.iconst 2, 1) := by decide +kernel
theorem dX7_takeClause_169 : decode cX7_takeClause 169 = .ok (.if_icmp .ne 22, 3) := by decide +kernel
theorem dX7_takeClause_172 : decode cX7_takeClause 172 = .ok (.aload_n 0, 1) := by decide +kernel
theorem dX7_takeClause_173 : decode cX7_takeClause 173 = .ok (.iconst 0, 1) := by decide +kernel
theorem dX7_takeClause_174 : decode cX7_takeClause 174 = .ok (.bipush 99, 2) := by decide +kernel
theorem dX7_takeClause_176 : decode cX7_takeClause 176 = .ok (.invokevirtual 149, 3) := by decide +kernel
theorem dX7_takeClause_179 : decode cX7_takeClause 179 = .ok (.istore_n 2, 1) := by decide +kernel
theorem dX7_takeClause_180 : decode cX7_takeClause 180 = .ok (.aload_n 0, 1) := by decide +kernel
theorem dX7_takeClause_181 : decode cX7_takeClause 181 = .ok (.aload_n 0, 1) := by decide +kernel
theorem dX7_takeClause_182 : decode cX7_takeClause 182 = .ok (.getfield 146, 3) := by decide +kernel
theorem dX7_takeClause_185 : decode cX7_takeClause 185 = .ok (.putfield 171, 3) := by decide +kernel
theorem dX7_takeClause_188 : decode cX7_takeClause 188 = .ok (.goto 19, 3) := by decide +kernel
theorem dX7_takeClause_191 : decode cX7_takeClause 191 = .ok (.iload_n 1, 1) := by decide +kernel
theorem dX7_takeClause_192 : decode cX7_takeClause 192 = .ok (.ifCond .ne 10, 3) := by decide +kernel
theorem dX7_takeClause_195 : decode cX7_takeClause 195 = .ok (.aload_n 0, 1) := by decide +kernel
theorem dX7_takeClause_196 : decode cX7_takeClause 196 = .ok (.invokevirtual 174, 3) := by decide +kernel
theorem dX7_takeClause_199 : decode cX7_takeClause 199 = .ok (.goto 7, 3) := by decide +kernel
theorem dX7_takeClause_202 : decode cX7_takeClause 202 = .ok (.aload_n 0, 1) := by decide +kernel
theorem dX7_takeClause_203 : decode cX7_takeClause 203 = .ok (.invokevirtual 177, 3) := by decide +kernel
theorem dX7_takeClause_206 : decode cX7_takeClause 206 = .ok (.istore_n 2, 1) := by decide +kernel
theorem dX7_takeClause_207 : decode cX7_takeClause 207 = .ok (.iload_n 2, 1) := by decide +kernel
theorem dX7_takeClause_208 : decode cX7_takeClause 208 = .ok (.ifCond .ne 22, 3) := by decide +kernel
theorem dX7_takeClause_211 : decode cX7_takeClause 211 = .ok (.aload_n 0, 1) := by decide +kernel
theorem dX7_takeClause_212 : decode cX7_takeClause 212 = .ok (.invokevirtual 112, 3) := by decide +kernel
theorem dX7_takeClause_215 : decode cX7_takeClause 215 = .ok (.bipush 59, 2) := by decide +kernel
theorem dX7_takeClause_217 : decode cX7_takeClause 217 = .ok (.if_icmp .eq 13, 3) := by decide +kernel
theorem dX7_takeClause_220 : decode cX7_takeClause 220 = .ok (.aload_n 0, 1) := by decide +kernel
theorem dX7_takeClause_221 : decode cX7_takeClause 221 = .ok (.iconst 1, 1) := by decide +kernel
theorem dX7_takeClause_222 : decode cX7_takeClause 222 = .ok (.aload_n 0, 1) := by decide +kernel
theorem dX7_takeClause_223 : decode cX7_takeClause 223 = .ok (.getfield 109, 3) := by decide +kernel
theorem dX7_takeClause_226 : decode cX7_takeClause 226 = .ok (.invokevirtual 139, 3) := by decide +kernel
theorem dX7_takeClause_229 : decode cX7_takeClause 229 = .ok (.ireturn, 1) := by decide +kernel
theorem dX7_takeClause_230 : decode cX7_takeClause 230 = .ok (.aload_n 0, 1) := by decide +kernel
theorem dX7_takeClause_231 : decode cX7_takeClause 231 = .ok (.dup, 1) := by decide +kernel
theorem dX7_takeClause_232 : decode cX7_takeClause 232 = .ok (.getfield 109, 3) := by decide +kernel
theorem dX7_takeClause_235 : decode cX7_takeClause 235 = .ok (.iconst 1, 1) := by decide +kernel
theorem dX7_takeClause_236 : decode cX7_takeClause 236 = .ok (.iadd, 1) := by decide +kernel
theorem dX7_takeClause_237 : decode cX7_takeClause 237 = .ok (.putfield 109, 3) := by decide +kernel
theorem dX7_takeClause_240 : decode cX7_takeClause 240 = .ok (.iload_n 2, 1) := by decide +kernel
theorem dX7_takeClause_241 : decode cX7_takeClause 241 = .ok (.ireturn, 1) := by decide +kernel
theorem dX7_town_0 : decode cX7_town 0 = .ok (.aload_n 0, 1) := by decide +kernel
theorem dX7_town_1 : decode cX7_town 1 = .ok (.iconst (-1), 1) := by decide +kernel
theorem dX7_town_2 : decode cX7_town 2 = .ok (.putfield 38, 3) := by decide +kernel
theorem dX7_town_5 : decode cX7_town 5 = .ok (.aload_n 0, 1) := by decide +kernel
theorem dX7_town_6 : decode cX7_town 6 = .ok (.iconst 0, 1) := by decide +kernel
theorem dX7_town_7 : decode cX7_town 7 = .ok (.putfield 109, 3) := by decide +kernel
theorem dX7_town_10 : decode cX7_town 10 = .ok (.aload_n 0, 1) := by decide +kernel
theorem dX7_town_11 : decode cX7_town 11 = .ok (.iconst 0, 1) := by decide +kernel
theorem dX7_town_12 : decode cX7_town 12 = .ok (.putfield 152, 3) := by decide +kernel
theorem dX7_town_15 : decode cX7_town 15 = .ok (.aload_n 0, 1) := by decide +kernel
theorem dX7_town_16 : decode cX7_town 16 = .ok (.iconst 0, 1) := by decide +kernel
theorem dX7_town_17 : decode cX7_town 17 = .ok (.putfield 159, 3) := by decide +kernel
theorem dX7_town_20 : decode cX7_town 20 = .ok (.aload_n 0, 1) := by decide +kernel
theorem dX7_town_21 : decode cX7_town 21 = .ok (.iconst (-1), 1) := by decide +kernel
theorem dX7_town_22 : decode cX7_town 22 = .ok (.putfield 171, 3) := by decide +kernel
theorem dX7_town_25 : decode cX7_town 25 = .ok (.iconst 0, 1) := by decide +kernel
theorem dX7_town_26 : decode cX7_town 26 = .ok (.istore_n 1, 1) := by decide +kernel
theorem dX7_town_27 : decode cX7_town 27 = .ok (.iload_n 1, 1) := by decide +kernel
theorem dX7_town_28 : decode cX7_town 28 = .ok (.ifCond .ne 18, 3) := by decide +kernel
theorem dX7_town_31 : decode cX7_town 31 = .ok (.aload_n 0, 1) := by decide +kernel
theorem dX7_town_32 : decode cX7_town 32 = .ok (.invokevirtual 112, 3) := by decide +kernel
theorem dX7_town_35 : decode cX7_town 35 = .ok (.ifCond .lt 11, 3) := by decide +kernel
theorem dX7_town_38 : decode cX7_town 38 = .ok (.aload_n 0, 1) := by decide +kernel
theorem dX7_town_39 : decode cX7_town 39 = .ok (.invokevirtual 180, 3) := by decide +kernel
theorem dX7_town_42 : decode cX7_town 42 = .ok (.istore_n 1, 1) := by decide +kernel
theorem dX7_town_43 : decode cX7_town 43 = .ok (.goto (-16), 3) := by decide +kernel
theorem dX7_town_46 : decode cX7_town 46 = .ok (.aload_n 0, 1) := by decide +kernel
theorem dX7_town_47 : decode cX7_town 47 = .ok (.iconst 0, 1) := by decide +kernel
theorem dX7_town_48 : decode cX7_town 48 = .ok (.putfield 103, 3) := by decide +kernel
theorem dX7_town_51 : decode cX7_town 51 = .ok (.iload_n 1, 1) := by decide +kernel
theorem dX7_town_52 : decode cX7_town 52 = .ok (.ifCond .le 8, 3) := by decide +kernel
theorem dX7_town_55 : decode cX7_town 55 = .ok (.bipush (-10), 2) := by decide +kernel
theorem dX7_town_57 : decode cX7_town 57 = .ok (.iload_n 1, 1) := by decide +kernel
theorem dX7_town_58 : decode cX7_town 58 = .ok (.isub, 1) := by decide +kernel
theorem dX7_town_59 : decode cX7_town 59 = .ok (.ireturn, 1) := by decide +kernel
theorem dX7_town_60 : decode cX7_town 60 = .ok (.aload_n 0, 1) := by decide +kernel
theorem dX7_town_61 : decode cX7_town 61 = .ok (.aload_n 0, 1) := by decide +kernel
theorem dX7_town_62 : decode cX7_town 62 = .ok (.getfield 152, 3) := by decide +kernel
theorem dX7_town_65 : decode cX7_town 65 = .ok (.putfield 90, 3) := by decide +kernel
theorem dX7_town_68 : decode cX7_town 68 = .ok (.aload_n 0, 1) := by decide +kernel
theorem dX7_town_69 : decode cX7_town 69 = .ok (.aload_n 0, 1) := by decide +kernel
theorem dX7_town_70 : decode cX7_town 70 = .ok (.getfield 159, 3) := by decide +kernel
theorem dX7_town_73 : decode cX7_town 73 = .ok (.putfield 97, 3) := by decide +kernel
theorem dX7_town_76 : decode cX7_town 76 = .ok (.aload_n 0, 1) := by decide +kernel
theorem dX7_town_77 : decode cX7_town 77 = .ok (.aload_n 0, 1) := by decide +kernel
theorem dX7_town_78 : decode cX7_town 78 = .ok (.getfield 171, 3) := by decide +kernel
theorem dX7_town_81 : decode cX7_town 81 = .ok (.ifCond .ge 7, 3) := by decide +kernel
theorem dX7_town_84 : decode cX7_town 84 = .ok (.iconst 1, 1) := by decide +kernel
theorem dX7_town_85 : decode cX7_town 85 = .ok (.goto 7, 3) := by decide +kernel
theorem dX7_town_88 : decode cX7_town 88 = .ok (.aload_n 0, 1) := by decide +kernel
theorem dX7_town_89 : decode cX7_town 89 = .ok (.getfield 171, 3) := by decide +kernel
theorem dX7_town_92 : decode cX7_town 92 = .ok (.putfield 31, 3) := by decide +kernel
theorem dX7_town_95 : decode cX7_town 95 = .ok (.iconst 0, 1) := by decide +kernel
theorem dX7_town_96 : decode cX7_town 96 = .ok (.istore_n 2, 1) := by decide +kernel
theorem dX7_town_97 : decode cX7_town 97 = .ok (.iload_n 2, 1) := by decide +kernel
theorem dX7_town_98 : decode cX7_town 98 = .ok (.bipush 7, 2) := by decide +kernel
theorem dX7_town_100 : decode cX7_town 100 = .ok (.if_icmp .ge 88, 3) := by decide +kernel
theorem dX7_town_103 : decode cX7_town 103 = .ok (.aload_n 0, 1) := by decide +kernel
theorem dX7_town_104 : decode cX7_town 104 = .ok (.getfield 7, 3) := by decide +kernel
theorem dX7_town_107 : decode cX7_town 107 = .ok (.iload_n 2, 1) := by decide +kernel
theorem dX7_town_108 : decode cX7_town 108 = .ok (.aload_n 0, 1) := by decide +kernel
theorem dX7_town_109 : decode cX7_town 109 = .ok (.getfield 41, 3) := by decide +kernel
theorem dX7_town_112 : decode cX7_town 112 = .ok (.iload_n 2, 1) := by decide +kernel
theorem dX7_town_113 : decode cX7_town 113 = .ok (.iaload, 1) := by decide +kernel
theorem dX7_town_114 : decode cX7_town 114 = .ok (.iastore, 1) := by decide +kernel
theorem dX7_town_115 : decode cX7_town 115 = .ok (.aload_n 0, 1) := by decide +kernel
theorem dX7_town_116 : decode cX7_town 116 = .ok (.getfield 13, 3) := by decide +kernel
theorem dX7_town_119 : decode cX7_town 119 = .ok (.iload_n 2, 1) := by decide +kernel
theorem dX7_town_120 : decode cX7_town 120 = .ok (.aload_n 0, 1) := by decide +kernel
theorem dX7_town_121 : decode cX7_town 121 = .ok (.getfield 44, 3) := by decide +kernel
theorem dX7_town_124 : decode cX7_town 124 = .ok (.iload_n 2, 1) := by decide +kernel
theorem dX7_town_125 : decode cX7_town 125 = .ok (.iaload, 1) := by decide +kernel
theorem dX7_town_126 : decode cX7_town 126 = .ok (.iastore, 1) := by decide +kernel
theorem dX7_town_127 : decode cX7_town 127 = .ok (.aload_n 0, 1) := by decide +kernel
theorem dX7_town_128 : decode cX7_town 128 = .ok (.getfield 16, 3) := by decide +kernel
theorem dX7_town_131 : decode cX7_town 131 = .ok (.iload_n 2, 1) := by decide +kernel
theorem dX7_town_132 : decode cX7_town 132 = .ok (.aload_n 0, 1) := by decide +kernel
theorem dX7_town_133 : decode cX7_town 133 = .ok (.getfield 47, 3) := by decide +kernel
theorem dX7_town_136 : decode cX7_town 136 = .ok (.iload_n 2, 1) := by decide +kernel
theorem dX7_town_137 : decode cX7_town 137 = .ok (.iaload, 1) := by decide +kernel
theorem dX7_town_138 : decode cX7_town 138 = .ok (.iastore, 1) := by decide +kernel
theorem dX7_town_139 : decode cX7_town 139 = .ok (.aload_n 0, 1) := by decide +kernel
theorem dX7_town_140 : decode cX7_town 140 = .ok (.getfield 19, 3) := by decide +kernel
theorem dX7_town_143 : decode cX7_town 143 = .ok (.iload_n 2, 1) := by decide +kernel
theorem dX7_town_144 : decode cX7_town 144 = .ok (.aload_n 0, 1) := by decide +kernel
theorem dX7_town_145 : decode cX7_town 145 = .ok (.getfield 50, 3) := by decide +kernel
theorem dX7_town_148 : decode cX7_town 148 = .ok (.iload_n 2, 1) := by decide +kernel
theorem dX7_town_149 : decode cX7_town 149 = .ok (.iaload, 1) := by decide +kernel
theorem dX7_town_150 : decode cX7_town 150 = .ok (.iastore, 1) := by decide +kernel
theorem dX7_town_151 : decode cX7_town 151 = .ok (.aload_n 0, 1) := by decide +kernel
theorem dX7_town_152 : decode cX7_town 152 = .ok (.getfield 22, 3) := by decide +kernel
theorem dX7_town_155 : decode cX7_town 155 = .ok (.iload_n 2, 1) := by decide +kernel
theorem dX7_town_156 : decode cX7_town 156 = .ok (.aload_n 0, 1) := by decide +kernel
theorem dX7_town_157 : decode cX7_town 157 = .ok (.getfield 53, 3) := by decide +kernel
theorem dX7_town_160 : decode cX7_town 160 = .ok (.iload_n 2, 1) := by decide +kernel
theorem dX7_town_161 : decode cX7_town 161 = .ok (.iaload, 1) := by decide +kernel
theorem dX7_town_162 : decode cX7_town 162 = .ok (.iastore, 1) := by decide +kernel
theorem dX7_town_163 : decode cX7_town 163 = .ok (.aload_n 0, 1) := by decide +kernel
theorem dX7_town_164 : decode cX7_town 164 = .ok (.getfield 25, 3) := by decide +kernel
theorem dX7_town_167 : decode cX7_town 167 = .ok (.iload_n 2, 1) := by decide +kernel
theorem dX7_town_168 : decode cX7_town 168 = .ok (.aload_n 0, 1) := by decide +kernel
theorem dX7_town_169 : decode cX7_town 169 = .ok (.getfield 56, 3) := by decide +kernel
theorem dX7_town_172 : decode cX7_town 172 = .ok (.iload_n 2, 1) := by decide +kernel
theorem dX7_town_173 : decode cX7_town 173 = .ok (.iaload, 1) := by decide +kernel
theorem dX7_town_174 : decode cX7_town 174 = .ok (.iastore, 1) := by decide +kernel
theorem dX7_town_175 : decode cX7_town 175 = .ok (.aload_n 0, 1) := by decide +kernel
theorem dX7_town_176 : decode cX7_town 176 = .ok (.getfield 28, 3) := by decide +kernel
theorem dX7_town_179 : decode cX7_town 179 = .ok (.iload_n 2, 1) := by decide +kernel
theorem dX7_town_180 : decode cX7_town 180 = .ok (.iconst 0, 1) := by decide +kernel
theorem dX7_town_181 : decode cX7_town 181 = .ok (.iastore, 1) := by decide +kernel
theorem dX7_town_182 : decode cX7_town 182 = .ok (.iinc 2 1, 3) := by decide +kernel
theorem dX7_town_185 : decode cX7_town 185 = .ok (.goto (-88), 3) := by decide +kernel
theorem dX7_town_188 : decode cX7_town 188 = .ok (.aload_n 0, 1) := by decide +kernel
theorem dX7_town_189 : decode cX7_town 189 = .ok (.iconst 0, 1) := by decide +kernel
theorem dX7_town_190 : decode cX7_town 190 = .ok (.putfield 183, 3) := by decide +kernel
theorem dX7_town_193 : decode cX7_town 193 = .ok (.aload_n 0, 1) := by decide +kernel
theorem dX7_town_194 : decode cX7_town 194 = .ok (.iconst 0, 1) := by decide +kernel
theorem dX7_town_195 : decode cX7_town 195 = .ok (.putfield 186, 3) := by decide +kernel
theorem dX7_town_198 : decode cX7_town 198 = .ok (.aload_n 0, 1) := by decide +kernel
theorem dX7_town_199 : decode cX7_town 199 = .ok (.getfield 86, 3) := by decide +kernel
theorem dX7_town_202 : decode cX7_town 202 = .ok (.iconst 0, 1) := by decide +kernel
theorem dX7_town_203 : decode cX7_town 203 = .ok (.iconst 0, 1) := by decide +kernel
theorem dX7_town_204 : decode cX7_town 204 = .ok (.bastore, 1) := by decide +kernel
theorem dX7_town_205 : decode cX7_town 205 = .ok (.aload_n 0, 1) := by decide +kernel
theorem dX7_town_206 : decode cX7_town 206 = .ok (.getfield 86, 3) := by decide +kernel
theorem dX7_town_209 : decode cX7_town 209 = .ok (.iconst 1, 1) := by decide +kernel
theorem dX7_town_210 : decode cX7_town 210 = .ok (.iconst 0, 1) := by decide +kernel
theorem dX7_town_211 : decode cX7_town 211 = .ok (.bastore, 1) := by decide +kernel
theorem dX7_town_212 : decode cX7_town 212 = .ok (.aload_n 0, 1) := by decide +kernel
theorem dX7_town_213 : decode cX7_town 213 = .ok (.getfield 97, 3) := by decide +kernel
theorem dX7_town_216 : decode cX7_town 216 = .ok (.ireturn, 1) := by decide +kernel
theorem dX7_fault_0 : decode cX7_fault 0 = .ok (.aload_n 0, 1) := by decide +kernel
theorem dX7_fault_1 : decode cX7_fault 1 = .ok (.getfield 38, 3) := by decide +kernel
theorem dX7_fault_4 : decode cX7_fault 4 = .ok (.ireturn, 1) := by decide +kernel
theorem dX7_farOf_0 : decode cX7_farOf 0 = .ok (.aload_n 0, 1) := by decide +kernel
theorem dX7_farOf_1 : decode cX7_farOf 1 = .ok (.getfield 7, 3) := by decide +kernel
theorem dX7_farOf_4 : decode cX7_farOf 4 = .ok (.iload_n 1, 1) := by decide +kernel
theorem dX7_farOf_5 : decode cX7_farOf 5 = .ok (.iaload, 1) := by decide +kernel
theorem dX7_farOf_6 : decode cX7_farOf 6 = .ok (.aload_n 0, 1) := by decide +kernel
theorem dX7_farOf_7 : decode cX7_farOf 7 = .ok (.getfield 7, 3) := by decide +kernel
theorem dX7_farOf_10 : decode cX7_farOf 10 = .ok (.iload_n 2, 1) := by decide +kernel
theorem dX7_farOf_11 : decode cX7_farOf 11 = .ok (.iaload, 1) := by decide +kernel
theorem dX7_farOf_12 : decode cX7_farOf 12 = .ok (.isub, 1) := by decide +kernel
theorem dX7_farOf_13 : decode cX7_farOf 13 = .ok (.invokestatic 189, 3) := by decide +kernel
theorem dX7_farOf_16 : decode cX7_farOf 16 = .ok (.aload_n 0, 1) := by decide +kernel
theorem dX7_farOf_17 : decode cX7_farOf 17 = .ok (.getfield 13, 3) := by decide +kernel
theorem dX7_farOf_20 : decode cX7_farOf 20 = .ok (.iload_n 1, 1) := by decide +kernel
theorem dX7_farOf_21 : decode cX7_farOf 21 = .ok (.iaload, 1) := by decide +kernel
theorem dX7_farOf_22 : decode cX7_farOf 22 = .ok (.aload_n 0, 1) := by decide +kernel
theorem dX7_farOf_23 : decode cX7_farOf 23 = .ok (.getfield 13, 3) := by decide +kernel
theorem dX7_farOf_26 : decode cX7_farOf 26 = .ok (.iload_n 2, 1) := by decide +kernel
theorem dX7_farOf_27 : decode cX7_farOf 27 = .ok (.iaload, 1) := by decide +kernel
theorem dX7_farOf_28 : decode cX7_farOf 28 = .ok (.isub, 1) := by decide +kernel
theorem dX7_farOf_29 : decode cX7_farOf 29 = .ok (.invokestatic 189, 3) := by decide +kernel
theorem dX7_farOf_32 : decode cX7_farOf 32 = .ok (.iadd, 1) := by decide +kernel
theorem dX7_farOf_33 : decode cX7_farOf 33 = .ok (.ireturn, 1) := by decide +kernel
theorem dX7_nextOf_0 : decode cX7_nextOf 0 = .ok (.iconst (-1), 1) := by decide +kernel
theorem dX7_nextOf_1 : decode cX7_nextOf 1 = .ok (.istore_n 3, 1) := by decide +kernel
theorem dX7_nextOf_2 : decode cX7_nextOf 2 = .ok (.iconst 0, 1) := by decide +kernel
theorem dX7_nextOf_3 : decode cX7_nextOf 3 = .ok (.istore 4, 2) := by decide +kernel
theorem dX7_nextOf_5 : decode cX7_nextOf 5 = .ok (.iload 4, 2) := by decide +kernel
theorem dX7_nextOf_7 : decode cX7_nextOf 7 = .ok (.aload_n 0, 1) := by decide +kernel
theorem dX7_nextOf_8 : decode cX7_nextOf 8 = .ok (.getfield 97, 3) := by decide +kernel
theorem dX7_nextOf_11 : decode cX7_nextOf 11 = .ok (.if_icmp .ge 80, 3) := by decide +kernel
theorem dX7_nextOf_14 : decode cX7_nextOf 14 = .ok (.iload_n 1, 1) := by decide +kernel
theorem dX7_nextOf_15 : decode cX7_nextOf 15 = .ok (.iload 4, 2) := by decide +kernel
theorem dX7_nextOf_17 : decode cX7_nextOf 17 = .ok (.invokestatic 193, 3) := by decide +kernel
theorem dX7_nextOf_20 : decode cX7_nextOf 20 = .ok (.ifCond .eq 65, 3) := by decide +kernel
theorem dX7_nextOf_23 : decode cX7_nextOf 23 = .ok (.iload_n 3, 1) := by decide +kernel
theorem dX7_nextOf_24 : decode cX7_nextOf 24 = .ok (.ifCond .lt 42, 3) := by decide +kernel
theorem dX7_nextOf_27 : decode cX7_nextOf 27 = .ok (.iload_n 2, 1) := by decide +kernel
theorem dX7_nextOf_28 : decode cX7_nextOf 28 = .ok (.ifCond .eq 22, 3) := by decide +kernel
theorem dX7_nextOf_31 : decode cX7_nextOf 31 = .ok (.aload_n 0, 1) := by decide +kernel
theorem dX7_nextOf_32 : decode cX7_nextOf 32 = .ok (.getfield 62, 3) := by decide +kernel
theorem dX7_nextOf_35 : decode cX7_nextOf 35 = .ok (.iload 4, 2) := by decide +kernel
theorem dX7_nextOf_37 : decode cX7_nextOf 37 = .ok (.iaload, 1) := by decide +kernel
theorem dX7_nextOf_38 : decode cX7_nextOf 38 = .ok (.aload_n 0, 1) := by decide +kernel
theorem dX7_nextOf_39 : decode cX7_nextOf 39 = .ok (.getfield 62, 3) := by decide +kernel
theorem dX7_nextOf_42 : decode cX7_nextOf 42 = .ok (.iload_n 3, 1) := by decide +kernel
theorem dX7_nextOf_43 : decode cX7_nextOf 43 = .ok (.iaload, 1) := by decide +kernel
theorem dX7_nextOf_44 : decode cX7_nextOf 44 = .ok (.if_icmp .le 26, 3) := by decide +kernel
theorem dX7_nextOf_47 : decode cX7_nextOf 47 = .ok (.goto 19, 3) := by decide +kernel
theorem dX7_nextOf_50 : decode cX7_nextOf 50 = .ok (.aload_n 0, 1) := by decide +kernel
theorem dX7_nextOf_51 : decode cX7_nextOf 51 = .ok (.getfield 62, 3) := by decide +kernel
theorem dX7_nextOf_54 : decode cX7_nextOf 54 = .ok (.iload 4, 2) := by decide +kernel
theorem dX7_nextOf_56 : decode cX7_nextOf 56 = .ok (.iaload, 1) := by decide +kernel
theorem dX7_nextOf_57 : decode cX7_nextOf 57 = .ok (.aload_n 0, 1) := by decide +kernel
theorem dX7_nextOf_58 : decode cX7_nextOf 58 = .ok (.getfield 62, 3) := by decide +kernel
theorem dX7_nextOf_61 : decode cX7_nextOf 61 = .ok (.iload_n 3, 1) := by decide +kernel
theorem dX7_nextOf_62 : decode cX7_nextOf 62 = .ok (.iaload, 1) := by decide +kernel
theorem dX7_nextOf_63 : decode cX7_nextOf 63 = .ok (.if_icmp .ge 7, 3) := by decide +kernel
theorem dX7_nextOf_66 : decode cX7_nextOf 66 = .ok (.iconst 1, 1) := by decide +kernel
theorem dX7_nextOf_67 : decode cX7_nextOf 67 = .ok (.goto 4, 3) := by decide +kernel
theorem dX7_nextOf_70 : decode cX7_nextOf 70 = .ok (.iconst 0, 1) := by decide +kernel
theorem dX7_nextOf_71 : decode cX7_nextOf 71 = .ok (.istore 5, 2) := by decide +kernel
theorem dX7_nextOf_73 : decode cX7_nextOf 73 = .ok (.iload 5, 2) := by decide +kernel
theorem dX7_nextOf_75 : decode cX7_nextOf 75 = .ok (.ifCond .eq 8, 3) := by decide +kernel
theorem dX7_nextOf_78 : decode cX7_nextOf 78 = .ok (.iload 4, 2) := by decide +kernel
theorem dX7_nextOf_80 : decode cX7_nextOf 80 = .ok (.goto 4, 3) := by decide +kernel
theorem dX7_nextOf_83 : decode cX7_nextOf 83 = .ok (.iload_n 3, 1) := by decide +kernel
theorem dX7_nextOf_84 : decode cX7_nextOf 84 = .ok (.istore_n 3, 1) := by decide +kernel
theorem dX7_nextOf_85 : decode cX7_nextOf 85 = .ok (.iinc 4 1, 3) := by decide +kernel
theorem dX7_nextOf_88 : decode cX7_nextOf 88 = .ok (.goto (-83), 3) := by decide +kernel
theorem dX7_nextOf_91 : decode cX7_nextOf 91 = .ok (.iload_n 3, 1) := by decide +kernel
theorem dX7_nextOf_92 : decode cX7_nextOf 92 = .ok (.ireturn, 1) := by decide +kernel
theorem dX7_setHeavy_0 : decode cX7_setHeavy 0 = .ok (.iconst 0, 1) := by decide +kernel
theorem dX7_setHeavy_1 : decode cX7_setHeavy 1 = .ok (.istore_n 1, 1) := by decide +kernel
theorem dX7_setHeavy_2 : decode cX7_setHeavy 2 = .ok (.iload_n 1, 1) := by decide +kernel
theorem dX7_setHeavy_3 : decode cX7_setHeavy 3 = .ok (.aload_n 0, 1) := by decide +kernel
theorem dX7_setHeavy_4 : decode cX7_setHeavy 4 = .ok (.getfield 97, 3) := by decide +kernel
theorem dX7_setHeavy_7 : decode cX7_setHeavy 7 = .ok (.if_icmp .ge 28, 3) := by decide +kernel
theorem dX7_setHeavy_10 : decode cX7_setHeavy 10 = .ok (.aload_n 0, 1) := by decide +kernel
theorem dX7_setHeavy_11 : decode cX7_setHeavy 11 = .ok (.getfield 62, 3) := by decide +kernel
theorem dX7_setHeavy_14 : decode cX7_setHeavy 14 = .ok (.iload_n 1, 1) := by decide +kernel
theorem dX7_setHeavy_15 : decode cX7_setHeavy 15 = .ok (.aload_n 0, 1) := by decide +kernel
theorem dX7_setHeavy_16 : decode cX7_setHeavy 16 = .ok (.getfield 19, 3) := by decide +kernel
theorem dX7_setHeavy_19 : decode cX7_setHeavy 19 = .ok (.iload_n 1, 1) := by decide +kernel
theorem dX7_setHeavy_20 : decode cX7_setHeavy 20 = .ok (.iaload, 1) := by decide +kernel
theorem dX7_setHeavy_21 : decode cX7_setHeavy 21 = .ok (.aload_n 0, 1) := by decide +kernel
theorem dX7_setHeavy_22 : decode cX7_setHeavy 22 = .ok (.getfield 28, 3) := by decide +kernel
theorem dX7_setHeavy_25 : decode cX7_setHeavy 25 = .ok (.iload_n 1, 1) := by decide +kernel
theorem dX7_setHeavy_26 : decode cX7_setHeavy 26 = .ok (.iaload, 1) := by decide +kernel
theorem dX7_setHeavy_27 : decode cX7_setHeavy 27 = .ok (.iadd, 1) := by decide +kernel
theorem dX7_setHeavy_28 : decode cX7_setHeavy 28 = .ok (.iastore, 1) := by decide +kernel
theorem dX7_setHeavy_29 : decode cX7_setHeavy 29 = .ok (.iinc 1 1, 3) := by decide +kernel
theorem dX7_setHeavy_32 : decode cX7_setHeavy 32 = .ok (.goto (-30), 3) := by decide +kernel
theorem dX7_setHeavy_35 : decode cX7_setHeavy 35 = .ok (.return_, 1) := by decide +kernel
theorem dX7_putInOrder_0 : decode cX7_putInOrder 0 = .ok (.iconst 1, 1) := by decide +kernel
theorem dX7_putInOrder_1 : decode cX7_putInOrder 1 = .ok (.aload_n 0, 1) := by decide +kernel
theorem dX7_putInOrder_2 : decode cX7_putInOrder 2 = .ok (.getfield 97, 3) := by decide +kernel
theorem dX7_putInOrder_5 : decode cX7_putInOrder 5 = .ok (.ishl, 1) := by decide +kernel
theorem dX7_putInOrder_6 : decode cX7_putInOrder 6 = .ok (.iconst 1, 1) := by decide +kernel
theorem dX7_putInOrder_7 : decode cX7_putInOrder 7 = .ok (.isub, 1) := by decide +kernel
theorem dX7_putInOrder_8 : decode cX7_putInOrder 8 = .ok (.istore_n 1, 1) := by decide +kernel
theorem dX7_putInOrder_9 : decode cX7_putInOrder 9 = .ok (.iconst 0, 1) := by decide +kernel
theorem dX7_putInOrder_10 : decode cX7_putInOrder 10 = .ok (.istore_n 2, 1) := by decide +kernel
theorem dX7_putInOrder_11 : decode cX7_putInOrder 11 = .ok (.iload_n 2, 1) := by decide +kernel
theorem dX7_putInOrder_12 : decode cX7_putInOrder 12 = .ok (.aload_n 0, 1) := by decide +kernel
theorem dX7_putInOrder_13 : decode cX7_putInOrder 13 = .ok (.getfield 97, 3) := by decide +kernel
theorem dX7_putInOrder_16 : decode cX7_putInOrder 16 = .ok (.if_icmp .ge 56, 3) := by decide +kernel
theorem dX7_putInOrder_19 : decode cX7_putInOrder 19 = .ok (.aload_n 0, 1) := by decide +kernel
theorem dX7_putInOrder_20 : decode cX7_putInOrder 20 = .ok (.iload_n 1, 1) := by decide +kernel
theorem dX7_putInOrder_21 : decode cX7_putInOrder 21 = .ok (.aload_n 0, 1) := by decide +kernel
theorem dX7_putInOrder_22 : decode cX7_putInOrder 22 = .ok (.getfield 197, 3) := by decide +kernel
theorem dX7_putInOrder_25 : decode cX7_putInOrder 25 = .ok (.ifCond .eq 17, 3) := by decide +kernel
theorem dX7_putInOrder_28 : decode cX7_putInOrder 28 = .ok (.aload_n 0, 1) := by decide +kernel
theorem dX7_putInOrder_29 : decode cX7_putInOrder 29 = .ok (.getfield 197, 3) := by decide +kernel
theorem dX7_putInOrder_32 : decode cX7_putInOrder 32 = .ok (.iconst 2, 1) := by decide +kernel
theorem dX7_putInOrder_33 : decode cX7_putInOrder 33 = .ok (.if_icmp .ne 13, 3) := by decide +kernel
theorem dX7_putInOrder_36 : decode cX7_putInOrder 36 = .ok (.iload_n 2, 1) := by decide +kernel
theorem dX7_putInOrder_37 : decode cX7_putInOrder 37 = .ok (.iconst 2, 1) := by decide +kernel
theorem dX7_putInOrder_38 : decode cX7_putInOrder 38 = .ok (.irem, 1) := by decide +kernel
theorem dX7_putInOrder_39 : decode cX7_putInOrder 39 = .ok (.ifCond .ne 7, 3) := by decide +kernel
theorem dX7_putInOrder_42 : decode cX7_putInOrder 42 = .ok (.iconst 1, 1) := by decide +kernel
theorem dX7_putInOrder_43 : decode cX7_putInOrder 43 = .ok (.goto 4, 3) := by decide +kernel
theorem dX7_putInOrder_46 : decode cX7_putInOrder 46 = .ok (.iconst 0, 1) := by decide +kernel
theorem dX7_putInOrder_47 : decode cX7_putInOrder 47 = .ok (.invokevirtual 200, 3) := by decide +kernel
theorem dX7_putInOrder_50 : decode cX7_putInOrder 50 = .ok (.istore_n 3, 1) := by decide +kernel
theorem dX7_putInOrder_51 : decode cX7_putInOrder 51 = .ok (.aload_n 0, 1) := by decide +kernel
theorem dX7_putInOrder_52 : decode cX7_putInOrder 52 = .ok (.getfield 59, 3) := by decide +kernel
theorem dX7_putInOrder_55 : decode cX7_putInOrder 55 = .ok (.iload_n 2, 1) := by decide +kernel
theorem dX7_putInOrder_56 : decode cX7_putInOrder 56 = .ok (.iload_n 3, 1) := by decide +kernel
theorem dX7_putInOrder_57 : decode cX7_putInOrder 57 = .ok (.iastore, 1) := by decide +kernel
theorem dX7_putInOrder_58 : decode cX7_putInOrder 58 = .ok (.iload_n 1, 1) := by decide +kernel
theorem dX7_putInOrder_59 : decode cX7_putInOrder 59 = .ok (.iconst 1, 1) := by decide +kernel
theorem dX7_putInOrder_60 : decode cX7_putInOrder 60 = .ok (.iload_n 3, 1) := by decide +kernel
theorem dX7_putInOrder_61 : decode cX7_putInOrder 61 = .ok (.ishl, 1) := by decide +kernel
theorem dX7_putInOrder_62 : decode cX7_putInOrder 62 = .ok (.iconst (-1), 1) := by decide +kernel
theorem dX7_putInOrder_63 : decode cX7_putInOrder 63 = .ok (.ixor, 1) := by decide +kernel
theorem dX7_putInOrder_64 : decode cX7_putInOrder 64 = .ok (.iand, 1) := by decide +kernel
theorem dX7_putInOrder_65 : decode cX7_putInOrder 65 = .ok (.istore_n 1, 1) := by decide +kernel
theorem dX7_putInOrder_66 : decode cX7_putInOrder 66 = .ok (.iinc 2 1, 3) := by decide +kernel
theorem dX7_putInOrder_69 : decode cX7_putInOrder 69 = .ok (.goto (-58), 3) := by decide +kernel
theorem dX7_putInOrder_72 : decode cX7_putInOrder 72 = .ok (.return_, 1) := by decide +kernel
theorem dX7_walkFrom_0 : decode cX7_walkFrom 0 = .ok (.iconst 0, 1) := by decide +kernel
theorem dX7_walkFrom_1 : decode cX7_walkFrom 1 = .ok (.istore_n 3, 1) := by decide +kernel
theorem dX7_walkFrom_2 : decode cX7_walkFrom 2 = .ok (.iconst 0, 1) := by decide +kernel
theorem dX7_walkFrom_3 : decode cX7_walkFrom 3 = .ok (.istore 4, 2) := by decide +kernel
theorem dX7_walkFrom_5 : decode cX7_walkFrom 5 = .ok (.iload_n 1, 1) := by decide +kernel
theorem dX7_walkFrom_6 : decode cX7_walkFrom 6 = .ok (.istore 5, 2) := by decide +kernel
theorem dX7_walkFrom_8 : decode cX7_walkFrom 8 = .ok (.iload 5, 2) := by decide +kernel
theorem dX7_walkFrom_10 : decode cX7_walkFrom 10 = .ok (.iload_n 2, 1) := by decide +kernel
theorem dX7_walkFrom_11 : decode cX7_walkFrom 11 = .ok (.if_icmp .ge 58, 3) := by decide +kernel
theorem dX7_walkFrom_14 : decode cX7_walkFrom 14 = .ok (.iload 4, 2) := by decide +kernel
theorem dX7_walkFrom_16 : decode cX7_walkFrom 16 = .ok (.aload_n 0, 1) := by decide +kernel
theorem dX7_walkFrom_17 : decode cX7_walkFrom 17 = .ok (.iload_n 3, 1) := by decide +kernel
theorem dX7_walkFrom_18 : decode cX7_walkFrom 18 = .ok (.aload_n 0, 1) := by decide +kernel
theorem dX7_walkFrom_19 : decode cX7_walkFrom 19 = .ok (.getfield 16, 3) := by decide +kernel
theorem dX7_walkFrom_22 : decode cX7_walkFrom 22 = .ok (.aload_n 0, 1) := by decide +kernel
theorem dX7_walkFrom_23 : decode cX7_walkFrom 23 = .ok (.getfield 59, 3) := by decide +kernel
theorem dX7_walkFrom_26 : decode cX7_walkFrom 26 = .ok (.iload 5, 2) := by decide +kernel
theorem dX7_walkFrom_28 : decode cX7_walkFrom 28 = .ok (.iaload, 1) := by decide +kernel
theorem dX7_walkFrom_29 : decode cX7_walkFrom 29 = .ok (.iaload, 1) := by decide +kernel
theorem dX7_walkFrom_30 : decode cX7_walkFrom 30 = .ok (.invokevirtual 204, 3) := by decide +kernel
theorem dX7_walkFrom_33 : decode cX7_walkFrom 33 = .ok (.iadd, 1) := by decide +kernel
theorem dX7_walkFrom_34 : decode cX7_walkFrom 34 = .ok (.istore 4, 2) := by decide +kernel
theorem dX7_walkFrom_36 : decode cX7_walkFrom 36 = .ok (.aload_n 0, 1) := by decide +kernel
theorem dX7_walkFrom_37 : decode cX7_walkFrom 37 = .ok (.getfield 16, 3) := by decide +kernel
theorem dX7_walkFrom_40 : decode cX7_walkFrom 40 = .ok (.aload_n 0, 1) := by decide +kernel
theorem dX7_walkFrom_41 : decode cX7_walkFrom 41 = .ok (.getfield 59, 3) := by decide +kernel
theorem dX7_walkFrom_44 : decode cX7_walkFrom 44 = .ok (.iload 5, 2) := by decide +kernel
theorem dX7_walkFrom_46 : decode cX7_walkFrom 46 = .ok (.iaload, 1) := by decide +kernel
theorem dX7_walkFrom_47 : decode cX7_walkFrom 47 = .ok (.iaload, 1) := by decide +kernel
theorem dX7_walkFrom_48 : decode cX7_walkFrom 48 = .ok (.istore_n 3, 1) := by decide +kernel
theorem dX7_walkFrom_49 : decode cX7_walkFrom 49 = .ok (.aload_n 0, 1) := by decide +kernel
theorem dX7_walkFrom_50 : decode cX7_walkFrom 50 = .ok (.getfield 65, 3) := by decide +kernel
theorem dX7_walkFrom_53 : decode cX7_walkFrom 53 = .ok (.aload_n 0, 1) := by decide +kernel
theorem dX7_walkFrom_54 : decode cX7_walkFrom 54 = .ok (.getfield 59, 3) := by decide +kernel
theorem dX7_walkFrom_57 : decode cX7_walkFrom 57 = .ok (.iload 5, 2) := by decide +kernel
theorem dX7_walkFrom_59 : decode cX7_walkFrom 59 = .ok (.iaload, 1) := by decide +kernel
theorem dX7_walkFrom_60 : decode cX7_walkFrom 60 = .ok (.iload 4, 2) := by decide +kernel
theorem dX7_walkFrom_62 : decode cX7_walkFrom 62 = .ok (.iastore, 1) := by decide +kernel
theorem dX7_walkFrom_63 : decode cX7_walkFrom 63 = .ok (.iinc 5 1, 3) := by decide +kernel
theorem dX7_walkFrom_66 : decode cX7_walkFrom 66 = .ok (.goto (-58), 3) := by decide +kernel
theorem dX7_walkFrom_69 : decode cX7_walkFrom 69 = .ok (.iload 4, 2) := by decide +kernel
theorem dX7_walkFrom_71 : decode cX7_walkFrom 71 = .ok (.ireturn, 1) := by decide +kernel
theorem dX7_walkNow_0 : decode cX7_walkNow 0 = .ok (.aload_n 0, 1) := by decide +kernel
theorem dX7_walkNow_1 : decode cX7_walkNow 1 = .ok (.invokevirtual 207, 3) := by decide +kernel
theorem dX7_walkNow_4 : decode cX7_walkNow 4 = .ok (.aload_n 0, 1) := by decide +kernel
theorem dX7_walkNow_5 : decode cX7_walkNow 5 = .ok (.invokevirtual 210, 3) := by decide +kernel
theorem dX7_walkNow_8 : decode cX7_walkNow 8 = .ok (.aload_n 0, 1) := by decide +kernel
theorem dX7_walkNow_9 : decode cX7_walkNow 9 = .ok (.iconst 0, 1) := by decide +kernel
theorem dX7_walkNow_10 : decode cX7_walkNow 10 = .ok (.aload_n 0, 1) := by decide +kernel
theorem dX7_walkNow_11 : decode cX7_walkNow 11 = .ok (.getfield 97, 3) := by decide +kernel
theorem dX7_walkNow_14 : decode cX7_walkNow 14 = .ok (.invokevirtual 213, 3) := by decide +kernel
theorem dX7_walkNow_17 : decode cX7_walkNow 17 = .ok (.ireturn, 1) := by decide +kernel
theorem dX7_hadOf_0 : decode cX7_hadOf 0 = .ok (.aload_n 0, 1) := by decide +kernel
theorem dX7_hadOf_1 : decode cX7_hadOf 1 = .ok (.getfield 65, 3) := by decide +kernel
theorem dX7_hadOf_4 : decode cX7_hadOf 4 = .ok (.iload_n 1, 1) := by decide +kernel
theorem dX7_hadOf_5 : decode cX7_hadOf 5 = .ok (.iaload, 1) := by decide +kernel
theorem dX7_hadOf_6 : decode cX7_hadOf 6 = .ok (.aload_n 0, 1) := by decide +kernel
theorem dX7_hadOf_7 : decode cX7_hadOf 7 = .ok (.getfield 22, 3) := by decide +kernel
theorem dX7_hadOf_10 : decode cX7_hadOf 10 = .ok (.iload_n 1, 1) := by decide +kernel
theorem dX7_hadOf_11 : decode cX7_hadOf 11 = .ok (.iaload, 1) := by decide +kernel
theorem dX7_hadOf_12 : decode cX7_hadOf 12 = .ok (.if_icmp .gt 12, 3) := by decide +kernel
theorem dX7_hadOf_15 : decode cX7_hadOf 15 = .ok (.aload_n 0, 1) := by decide +kernel
theorem dX7_hadOf_16 : decode cX7_hadOf 16 = .ok (.getfield 25, 3) := by decide +kernel
theorem dX7_hadOf_19 : decode cX7_hadOf 19 = .ok (.iload_n 1, 1) := by decide +kernel
theorem dX7_hadOf_20 : decode cX7_hadOf 20 = .ok (.iaload, 1) := by decide +kernel
theorem dX7_hadOf_21 : decode cX7_hadOf 21 = .ok (.goto 4, 3) := by decide +kernel
theorem dX7_hadOf_24 : decode cX7_hadOf 24 = .ok (.iconst 0, 1) := by decide +kernel
theorem dX7_hadOf_25 : decode cX7_hadOf 25 = .ok (.aload_n 0, 1) := by decide +kernel
theorem dX7_hadOf_26 : decode cX7_hadOf 26 = .ok (.getfield 31, 3) := by decide +kernel
theorem dX7_hadOf_29 : decode cX7_hadOf 29 = .ok (.aload_n 0, 1) := by decide +kernel
theorem dX7_hadOf_30 : decode cX7_hadOf 30 = .ok (.getfield 28, 3) := by decide +kernel
theorem dX7_hadOf_33 : decode cX7_hadOf 33 = .ok (.iload_n 1, 1) := by decide +kernel
theorem dX7_hadOf_34 : decode cX7_hadOf 34 = .ok (.iaload, 1) := by decide +kernel
theorem dX7_hadOf_35 : decode cX7_hadOf 35 = .ok (.imul, 1) := by decide +kernel
theorem dX7_hadOf_36 : decode cX7_hadOf 36 = .ok (.isub, 1) := by decide +kernel
theorem dX7_hadOf_37 : decode cX7_hadOf 37 = .ok (.ireturn, 1) := by decide +kernel
theorem dX7_hadAll_0 : decode cX7_hadAll 0 = .ok (.aload_n 0, 1) := by decide +kernel
theorem dX7_hadAll_1 : decode cX7_hadAll 1 = .ok (.invokevirtual 216, 3) := by decide +kernel
theorem dX7_hadAll_4 : decode cX7_hadAll 4 = .ok (.istore_n 1, 1) := by decide +kernel
theorem dX7_hadAll_5 : decode cX7_hadAll 5 = .ok (.iconst 0, 1) := by decide +kernel
theorem dX7_hadAll_6 : decode cX7_hadAll 6 = .ok (.istore_n 2, 1) := by decide +kernel
theorem dX7_hadAll_7 : decode cX7_hadAll 7 = .ok (.iconst 0, 1) := by decide +kernel
theorem dX7_hadAll_8 : decode cX7_hadAll 8 = .ok (.istore_n 3, 1) := by decide +kernel
theorem dX7_hadAll_9 : decode cX7_hadAll 9 = .ok (.iload_n 3, 1) := by decide +kernel
theorem dX7_hadAll_10 : decode cX7_hadAll 10 = .ok (.aload_n 0, 1) := by decide +kernel
theorem dX7_hadAll_11 : decode cX7_hadAll 11 = .ok (.getfield 97, 3) := by decide +kernel
theorem dX7_hadAll_14 : decode cX7_hadAll 14 = .ok (.if_icmp .ge 17, 3) := by decide +kernel
theorem dX7_hadAll_17 : decode cX7_hadAll 17 = .ok (.iload_n 2, 1) := by decide +kernel
theorem dX7_hadAll_18 : decode cX7_hadAll 18 = .ok (.aload_n 0, 1) := by decide +kernel
theorem dX7_hadAll_19 : decode cX7_hadAll 19 = .ok (.iload_n 3, 1) := by decide +kernel
theorem dX7_hadAll_20 : decode cX7_hadAll 20 = .ok (.invokevirtual 219, 3) := by decide +kernel
theorem dX7_hadAll_23 : decode cX7_hadAll 23 = .ok (.iadd, 1) := by decide +kernel
theorem dX7_hadAll_24 : decode cX7_hadAll 24 = .ok (.istore_n 2, 1) := by decide +kernel
theorem dX7_hadAll_25 : decode cX7_hadAll 25 = .ok (.iinc 3 1, 3) := by decide +kernel
theorem dX7_hadAll_28 : decode cX7_hadAll 28 = .ok (.goto (-19), 3) := by decide +kernel
theorem dX7_hadAll_31 : decode cX7_hadAll 31 = .ok (.iload_n 2, 1) := by decide +kernel
theorem dX7_hadAll_32 : decode cX7_hadAll 32 = .ok (.ireturn, 1) := by decide +kernel
theorem dX7_stonesAll_0 : decode cX7_stonesAll 0 = .ok (.iconst 0, 1) := by decide +kernel
theorem dX7_stonesAll_1 : decode cX7_stonesAll 1 = .ok (.istore_n 1, 1) := by decide +kernel
theorem dX7_stonesAll_2 : decode cX7_stonesAll 2 = .ok (.iconst 0, 1) := by decide +kernel
theorem dX7_stonesAll_3 : decode cX7_stonesAll 3 = .ok (.istore_n 2, 1) := by decide +kernel
theorem dX7_stonesAll_4 : decode cX7_stonesAll 4 = .ok (.iload_n 2, 1) := by decide +kernel
theorem dX7_stonesAll_5 : decode cX7_stonesAll 5 = .ok (.aload_n 0, 1) := by decide +kernel
theorem dX7_stonesAll_6 : decode cX7_stonesAll 6 = .ok (.getfield 97, 3) := by decide +kernel
theorem dX7_stonesAll_9 : decode cX7_stonesAll 9 = .ok (.if_icmp .ge 18, 3) := by decide +kernel
theorem dX7_stonesAll_12 : decode cX7_stonesAll 12 = .ok (.iload_n 1, 1) := by decide +kernel
theorem dX7_stonesAll_13 : decode cX7_stonesAll 13 = .ok (.aload_n 0, 1) := by decide +kernel
theorem dX7_stonesAll_14 : decode cX7_stonesAll 14 = .ok (.getfield 28, 3) := by decide +kernel
theorem dX7_stonesAll_17 : decode cX7_stonesAll 17 = .ok (.iload_n 2, 1) := by decide +kernel
theorem dX7_stonesAll_18 : decode cX7_stonesAll 18 = .ok (.iaload, 1) := by decide +kernel
theorem dX7_stonesAll_19 : decode cX7_stonesAll 19 = .ok (.iadd, 1) := by decide +kernel
theorem dX7_stonesAll_20 : decode cX7_stonesAll 20 = .ok (.istore_n 1, 1) := by decide +kernel
theorem dX7_stonesAll_21 : decode cX7_stonesAll 21 = .ok (.iinc 2 1, 3) := by decide +kernel
theorem dX7_stonesAll_24 : decode cX7_stonesAll 24 = .ok (.goto (-20), 3) := by decide +kernel
theorem dX7_stonesAll_27 : decode cX7_stonesAll 27 = .ok (.iload_n 1, 1) := by decide +kernel
theorem dX7_stonesAll_28 : decode cX7_stonesAll 28 = .ok (.ireturn, 1) := by decide +kernel
theorem dX7_inTimeSet_0 : decode cX7_inTimeSet 0 = .ok (.aload_n 0, 1) := by decide +kernel
theorem dX7_inTimeSet_1 : decode cX7_inTimeSet 1 = .ok (.invokevirtual 216, 3) := by decide +kernel
theorem dX7_inTimeSet_4 : decode cX7_inTimeSet 4 = .ok (.istore_n 1, 1) := by decide +kernel
theorem dX7_inTimeSet_5 : decode cX7_inTimeSet 5 = .ok (.iconst 0, 1) := by decide +kernel
theorem dX7_inTimeSet_6 : decode cX7_inTimeSet 6 = .ok (.istore_n 2, 1) := by decide +kernel
theorem dX7_inTimeSet_7 : decode cX7_inTimeSet 7 = .ok (.iconst 0, 1) := by decide +kernel
theorem dX7_inTimeSet_8 : decode cX7_inTimeSet 8 = .ok (.istore_n 3, 1) := by decide +kernel
theorem dX7_inTimeSet_9 : decode cX7_inTimeSet 9 = .ok (.iload_n 3, 1) := by decide +kernel
theorem dX7_inTimeSet_10 : decode cX7_inTimeSet 10 = .ok (.aload_n 0, 1) := by decide +kernel
theorem dX7_inTimeSet_11 : decode cX7_inTimeSet 11 = .ok (.getfield 97, 3) := by decide +kernel
theorem dX7_inTimeSet_14 : decode cX7_inTimeSet 14 = .ok (.if_icmp .ge 34, 3) := by decide +kernel
theorem dX7_inTimeSet_17 : decode cX7_inTimeSet 17 = .ok (.iload_n 2, 1) := by decide +kernel
theorem dX7_inTimeSet_18 : decode cX7_inTimeSet 18 = .ok (.aload_n 0, 1) := by decide +kernel
theorem dX7_inTimeSet_19 : decode cX7_inTimeSet 19 = .ok (.getfield 65, 3) := by decide +kernel
theorem dX7_inTimeSet_22 : decode cX7_inTimeSet 22 = .ok (.iload_n 3, 1) := by decide +kernel
theorem dX7_inTimeSet_23 : decode cX7_inTimeSet 23 = .ok (.iaload, 1) := by decide +kernel
theorem dX7_inTimeSet_24 : decode cX7_inTimeSet 24 = .ok (.aload_n 0, 1) := by decide +kernel
theorem dX7_inTimeSet_25 : decode cX7_inTimeSet 25 = .ok (.getfield 22, 3) := by decide +kernel
theorem dX7_inTimeSet_28 : decode cX7_inTimeSet 28 = .ok (.iload_n 3, 1) := by decide +kernel
theorem dX7_inTimeSet_29 : decode cX7_inTimeSet 29 = .ok (.iaload, 1) := by decide +kernel
theorem dX7_inTimeSet_30 : decode cX7_inTimeSet 30 = .ok (.if_icmp .gt 9, 3) := by decide +kernel
theorem dX7_inTimeSet_33 : decode cX7_inTimeSet 33 = .ok (.iconst 1, 1) := by decide +kernel
theorem dX7_inTimeSet_34 : decode cX7_inTimeSet 34 = .ok (.iload_n 3, 1) := by decide +kernel
theorem dX7_inTimeSet_35 : decode cX7_inTimeSet 35 = .ok (.ishl, 1) := by decide +kernel
theorem dX7_inTimeSet_36 : decode cX7_inTimeSet 36 = .ok (.goto 4, 3) := by decide +kernel
theorem dX7_inTimeSet_39 : decode cX7_inTimeSet 39 = .ok (.iconst 0, 1) := by decide +kernel
theorem dX7_inTimeSet_40 : decode cX7_inTimeSet 40 = .ok (.ior, 1) := by decide +kernel
theorem dX7_inTimeSet_41 : decode cX7_inTimeSet 41 = .ok (.istore_n 2, 1) := by decide +kernel
theorem dX7_inTimeSet_42 : decode cX7_inTimeSet 42 = .ok (.iinc 3 1, 3) := by decide +kernel
theorem dX7_inTimeSet_45 : decode cX7_inTimeSet 45 = .ok (.goto (-36), 3) := by decide +kernel
theorem dX7_inTimeSet_48 : decode cX7_inTimeSet 48 = .ok (.iload_n 2, 1) := by decide +kernel
theorem dX7_inTimeSet_49 : decode cX7_inTimeSet 49 = .ok (.ireturn, 1) := by decide +kernel
theorem dX7_told_0 : decode cX7_told 0 = .ok (.iload_n 1, 1) := by decide +kernel
theorem dX7_told_1 : decode cX7_told 1 = .ok (.tableswitch 114 0 10 #[59, 64, 69, 74, 79, 84, 89, 94, 99, 104, 109], 59) := by decide +kernel
theorem dX7_told_60 : decode cX7_told 60 = .ok (.aload_n 0, 1) := by decide +kernel
theorem dX7_told_61 : decode cX7_told 61 = .ok (.getfield 90, 3) := by decide +kernel
theorem dX7_told_64 : decode cX7_told 64 = .ok (.ireturn, 1) := by decide +kernel
theorem dX7_told_65 : decode cX7_told 65 = .ok (.aload_n 0, 1) := by decide +kernel
theorem dX7_told_66 : decode cX7_told 66 = .ok (.getfield 97, 3) := by decide +kernel
theorem dX7_told_69 : decode cX7_told 69 = .ok (.ireturn, 1) := by decide +kernel
theorem dX7_told_70 : decode cX7_told 70 = .ok (.aload_n 0, 1) := by decide +kernel
theorem dX7_told_71 : decode cX7_told 71 = .ok (.getfield 31, 3) := by decide +kernel
theorem dX7_told_74 : decode cX7_told 74 = .ok (.ireturn, 1) := by decide +kernel
theorem dX7_told_75 : decode cX7_told 75 = .ok (.aload_n 0, 1) := by decide +kernel
theorem dX7_told_76 : decode cX7_told 76 = .ok (.getfield 103, 3) := by decide +kernel
theorem dX7_told_79 : decode cX7_told 79 = .ok (.ireturn, 1) := by decide +kernel
theorem dX7_told_80 : decode cX7_told 80 = .ok (.aload_n 0, 1) := by decide +kernel
theorem dX7_told_81 : decode cX7_told 81 = .ok (.getfield 197, 3) := by decide +kernel
theorem dX7_told_84 : decode cX7_told 84 = .ok (.ireturn, 1) := by decide +kernel
theorem dX7_told_85 : decode cX7_told 85 = .ok (.aload_n 0, 1) := by decide +kernel
theorem dX7_told_86 : decode cX7_told 86 = .ok (.invokevirtual 216, 3) := by decide +kernel
theorem dX7_told_89 : decode cX7_told 89 = .ok (.ireturn, 1) := by decide +kernel
theorem dX7_told_90 : decode cX7_told 90 = .ok (.aload_n 0, 1) := by decide +kernel
theorem dX7_told_91 : decode cX7_told 91 = .ok (.invokevirtual 222, 3) := by decide +kernel
theorem dX7_told_94 : decode cX7_told 94 = .ok (.ireturn, 1) := by decide +kernel
theorem dX7_told_95 : decode cX7_told 95 = .ok (.aload_n 0, 1) := by decide +kernel
theorem dX7_told_96 : decode cX7_told 96 = .ok (.invokevirtual 225, 3) := by decide +kernel
theorem dX7_told_99 : decode cX7_told 99 = .ok (.ireturn, 1) := by decide +kernel
theorem dX7_told_100 : decode cX7_told 100 = .ok (.aload_n 0, 1) := by decide +kernel
theorem dX7_told_101 : decode cX7_told 101 = .ok (.invokevirtual 228, 3) := by decide +kernel
theorem dX7_told_104 : decode cX7_told 104 = .ok (.ireturn, 1) := by decide +kernel
theorem dX7_told_105 : decode cX7_told 105 = .ok (.aload_n 0, 1) := by decide +kernel
theorem dX7_told_106 : decode cX7_told 106 = .ok (.getfield 183, 3) := by decide +kernel
theorem dX7_told_109 : decode cX7_told 109 = .ok (.ireturn, 1) := by decide +kernel
theorem dX7_told_110 : decode cX7_told 110 = .ok (.aload_n 0, 1) := by decide +kernel
theorem dX7_told_111 : decode cX7_told 111 = .ok (.getfield 186, 3) := by decide +kernel
theorem dX7_told_114 : decode cX7_told 114 = .ok (.ireturn, 1) := by decide +kernel
theorem dX7_told_115 : decode cX7_told 115 = .ok (.ldc 102, 2) := by decide +kernel
theorem dX7_told_117 : decode cX7_told 117 = .ok (.ireturn, 1) := by decide +kernel
theorem dX7_place_0 : decode cX7_place 0 = .ok (.aload_n 0, 1) := by decide +kernel
theorem dX7_place_1 : decode cX7_place 1 = .ok (.iload_n 1, 1) := by decide +kernel
theorem dX7_place_2 : decode cX7_place 2 = .ok (.invokevirtual 231, 3) := by decide +kernel
theorem dX7_place_5 : decode cX7_place 5 = .ok (.ifCond .ne 6, 3) := by decide +kernel
theorem dX7_place_8 : decode cX7_place 8 = .ok (.ldc 235, 2) := by decide +kernel
theorem dX7_place_10 : decode cX7_place 10 = .ok (.ireturn, 1) := by decide +kernel
theorem dX7_place_11 : decode cX7_place 11 = .ok (.iload_n 2, 1) := by decide +kernel
theorem dX7_place_12 : decode cX7_place 12 = .ok (.ifCond .ne 12, 3) := by decide +kernel
theorem dX7_place_15 : decode cX7_place 15 = .ok (.aload_n 0, 1) := by decide +kernel
theorem dX7_place_16 : decode cX7_place 16 = .ok (.getfield 7, 3) := by decide +kernel
theorem dX7_place_19 : decode cX7_place 19 = .ok (.iload_n 1, 1) := by decide +kernel
theorem dX7_place_20 : decode cX7_place 20 = .ok (.iaload, 1) := by decide +kernel
theorem dX7_place_21 : decode cX7_place 21 = .ok (.goto 19, 3) := by decide +kernel
theorem dX7_place_24 : decode cX7_place 24 = .ok (.iload_n 2, 1) := by decide +kernel
theorem dX7_place_25 : decode cX7_place 25 = .ok (.iconst 1, 1) := by decide +kernel
theorem dX7_place_26 : decode cX7_place 26 = .ok (.if_icmp .ne 12, 3) := by decide +kernel
theorem dX7_place_29 : decode cX7_place 29 = .ok (.aload_n 0, 1) := by decide +kernel
theorem dX7_place_30 : decode cX7_place 30 = .ok (.getfield 13, 3) := by decide +kernel
theorem dX7_place_33 : decode cX7_place 33 = .ok (.iload_n 1, 1) := by decide +kernel
theorem dX7_place_34 : decode cX7_place 34 = .ok (.iaload, 1) := by decide +kernel
theorem dX7_place_35 : decode cX7_place 35 = .ok (.goto 5, 3) := by decide +kernel
theorem dX7_place_38 : decode cX7_place 38 = .ok (.ldc 102, 2) := by decide +kernel
theorem dX7_place_40 : decode cX7_place 40 = .ok (.ireturn, 1) := by decide +kernel
theorem dX7_placeIn_0 : decode cX7_placeIn 0 = .ok (.iconst (-1), 1) := by decide +kernel
theorem dX7_placeIn_1 : decode cX7_placeIn 1 = .ok (.istore_n 2, 1) := by decide +kernel
theorem dX7_placeIn_2 : decode cX7_placeIn 2 = .ok (.iconst 0, 1) := by decide +kernel
theorem dX7_placeIn_3 : decode cX7_placeIn 3 = .ok (.istore_n 3, 1) := by decide +kernel
theorem dX7_placeIn_4 : decode cX7_placeIn 4 = .ok (.iload_n 3, 1) := by decide +kernel
theorem dX7_placeIn_5 : decode cX7_placeIn 5 = .ok (.aload_n 0, 1) := by decide +kernel
theorem dX7_placeIn_6 : decode cX7_placeIn 6 = .ok (.getfield 97, 3) := by decide +kernel
theorem dX7_placeIn_9 : decode cX7_placeIn 9 = .ok (.if_icmp .ge 25, 3) := by decide +kernel
theorem dX7_placeIn_12 : decode cX7_placeIn 12 = .ok (.aload_n 0, 1) := by decide +kernel
theorem dX7_placeIn_13 : decode cX7_placeIn 13 = .ok (.getfield 59, 3) := by decide +kernel
theorem dX7_placeIn_16 : decode cX7_placeIn 16 = .ok (.iload_n 3, 1) := by decide +kernel
theorem dX7_placeIn_17 : decode cX7_placeIn 17 = .ok (.iaload, 1) := by decide +kernel
theorem dX7_placeIn_18 : decode cX7_placeIn 18 = .ok (.iload_n 1, 1) := by decide +kernel
theorem dX7_placeIn_19 : decode cX7_placeIn 19 = .ok (.if_icmp .ne 7, 3) := by decide +kernel
theorem dX7_placeIn_22 : decode cX7_placeIn 22 = .ok (.iload_n 3, 1) := by decide +kernel
theorem dX7_placeIn_23 : decode cX7_placeIn 23 = .ok (.goto 4, 3) := by decide +kernel
theorem dX7_placeIn_26 : decode cX7_placeIn 26 = .ok (.iload_n 2, 1) := by decide +kernel
theorem dX7_placeIn_27 : decode cX7_placeIn 27 = .ok (.istore_n 2, 1) := by decide +kernel
theorem dX7_placeIn_28 : decode cX7_placeIn 28 = .ok (.iinc 3 1, 3) := by decide +kernel
theorem dX7_placeIn_31 : decode cX7_placeIn 31 = .ok (.goto (-27), 3) := by decide +kernel
theorem dX7_placeIn_34 : decode cX7_placeIn 34 = .ok (.iload_n 2, 1) := by decide +kernel
theorem dX7_placeIn_35 : decode cX7_placeIn 35 = .ok (.ireturn, 1) := by decide +kernel
theorem dX7_letter_0 : decode cX7_letter 0 = .ok (.aload_n 0, 1) := by decide +kernel
theorem dX7_letter_1 : decode cX7_letter 1 = .ok (.iload_n 1, 1) := by decide +kernel
theorem dX7_letter_2 : decode cX7_letter 2 = .ok (.invokevirtual 236, 3) := by decide +kernel
theorem dX7_letter_5 : decode cX7_letter 5 = .ok (.ifCond .ne 6, 3) := by decide +kernel
theorem dX7_letter_8 : decode cX7_letter 8 = .ok (.ldc 235, 2) := by decide +kernel
theorem dX7_letter_10 : decode cX7_letter 10 = .ok (.ireturn, 1) := by decide +kernel
theorem dX7_letter_11 : decode cX7_letter 11 = .ok (.aload_n 0, 1) := by decide +kernel
theorem dX7_letter_12 : decode cX7_letter 12 = .ok (.invokevirtual 216, 3) := by decide +kernel
theorem dX7_letter_15 : decode cX7_letter 15 = .ok (.istore_n 3, 1) := by decide +kernel
theorem dX7_letter_16 : decode cX7_letter 16 = .ok (.iload_n 2, 1) := by decide +kernel
theorem dX7_letter_17 : decode cX7_letter 17 = .ok (.tableswitch 112 0 8 #[51, 58, 65, 72, 79, 86, 93, 99, 106], 51) := by decide +kernel
theorem dX7_letter_68 : decode cX7_letter 68 = .ok (.aload_n 0, 1) := by decide +kernel
theorem dX7_letter_69 : decode cX7_letter 69 = .ok (.getfield 16, 3) := by decide +kernel
theorem dX7_letter_72 : decode cX7_letter 72 = .ok (.iload_n 1, 1) := by decide +kernel
theorem dX7_letter_73 : decode cX7_letter 73 = .ok (.iaload, 1) := by decide +kernel
theorem dX7_letter_74 : decode cX7_letter 74 = .ok (.ireturn, 1) := by decide +kernel
theorem dX7_letter_75 : decode cX7_letter 75 = .ok (.aload_n 0, 1) := by decide +kernel
theorem dX7_letter_76 : decode cX7_letter 76 = .ok (.getfield 19, 3) := by decide +kernel
theorem dX7_letter_79 : decode cX7_letter 79 = .ok (.iload_n 1, 1) := by decide +kernel
theorem dX7_letter_80 : decode cX7_letter 80 = .ok (.iaload, 1) := by decide +kernel
theorem dX7_letter_81 : decode cX7_letter 81 = .ok (.ireturn, 1) := by decide +kernel
theorem dX7_letter_82 : decode cX7_letter 82 = .ok (.aload_n 0, 1) := by decide +kernel
theorem dX7_letter_83 : decode cX7_letter 83 = .ok (.getfield 22, 3) := by decide +kernel
theorem dX7_letter_86 : decode cX7_letter 86 = .ok (.iload_n 1, 1) := by decide +kernel
theorem dX7_letter_87 : decode cX7_letter 87 = .ok (.iaload, 1) := by decide +kernel
theorem dX7_letter_88 : decode cX7_letter 88 = .ok (.ireturn, 1) := by decide +kernel
theorem dX7_letter_89 : decode cX7_letter 89 = .ok (.aload_n 0, 1) := by decide +kernel
theorem dX7_letter_90 : decode cX7_letter 90 = .ok (.getfield 25, 3) := by decide +kernel
theorem dX7_letter_93 : decode cX7_letter 93 = .ok (.iload_n 1, 1) := by decide +kernel
theorem dX7_letter_94 : decode cX7_letter 94 = .ok (.iaload, 1) := by decide +kernel
theorem dX7_letter_95 : decode cX7_letter 95 = .ok (.ireturn, 1) := by decide +kernel
theorem dX7_letter_96 : decode cX7_letter 96 = .ok (.aload_n 0, 1) := by decide +kernel
theorem dX7_letter_97 : decode cX7_letter 97 = .ok (.getfield 28, 3) := by decide +kernel
theorem dX7_letter_100 : decode cX7_letter 100 = .ok (.iload_n 1, 1) := by decide +kernel
theorem dX7_letter_101 : decode cX7_letter 101 = .ok (.iaload, 1) := by decide +kernel
theorem dX7_letter_102 : decode cX7_letter 102 = .ok (.ireturn, 1) := by decide +kernel
theorem dX7_letter_103 : decode cX7_letter 103 = .ok (.aload_n 0, 1) := by decide +kernel
theorem dX7_letter_104 : decode cX7_letter 104 = .ok (.getfield 62, 3) := by decide +kernel
theorem dX7_letter_107 : decode cX7_letter 107 = .ok (.iload_n 1, 1) := by decide +kernel
theorem dX7_letter_108 : decode cX7_letter 108 = .ok (.iaload, 1) := by decide +kernel
theorem dX7_letter_109 : decode cX7_letter 109 = .ok (.ireturn, 1) := by decide +kernel
theorem dX7_letter_110 : decode cX7_letter 110 = .ok (.aload_n 0, 1) := by decide +kernel
theorem dX7_letter_111 : decode cX7_letter 111 = .ok (.iload_n 1, 1) := by decide +kernel
theorem dX7_letter_112 : decode cX7_letter 112 = .ok (.invokevirtual 239, 3) := by decide +kernel
theorem dX7_letter_115 : decode cX7_letter 115 = .ok (.ireturn, 1) := by decide +kernel
theorem dX7_letter_116 : decode cX7_letter 116 = .ok (.aload_n 0, 1) := by decide +kernel
theorem dX7_letter_117 : decode cX7_letter 117 = .ok (.getfield 65, 3) := by decide +kernel
theorem dX7_letter_120 : decode cX7_letter 120 = .ok (.iload_n 1, 1) := by decide +kernel
theorem dX7_letter_121 : decode cX7_letter 121 = .ok (.iaload, 1) := by decide +kernel
theorem dX7_letter_122 : decode cX7_letter 122 = .ok (.ireturn, 1) := by decide +kernel
theorem dX7_letter_123 : decode cX7_letter 123 = .ok (.aload_n 0, 1) := by decide +kernel
theorem dX7_letter_124 : decode cX7_letter 124 = .ok (.iload_n 1, 1) := by decide +kernel
theorem dX7_letter_125 : decode cX7_letter 125 = .ok (.invokevirtual 219, 3) := by decide +kernel
theorem dX7_letter_128 : decode cX7_letter 128 = .ok (.ireturn, 1) := by decide +kernel
theorem dX7_letter_129 : decode cX7_letter 129 = .ok (.ldc 102, 2) := by decide +kernel
theorem dX7_letter_131 : decode cX7_letter 131 = .ok (.ireturn, 1) := by decide +kernel
theorem dX7_far_0 : decode cX7_far 0 = .ok (.aload_n 0, 1) := by decide +kernel
theorem dX7_far_1 : decode cX7_far 1 = .ok (.iload_n 1, 1) := by decide +kernel
theorem dX7_far_2 : decode cX7_far 2 = .ok (.invokevirtual 231, 3) := by decide +kernel
theorem dX7_far_5 : decode cX7_far 5 = .ok (.ifCond .eq 20, 3) := by decide +kernel
theorem dX7_far_8 : decode cX7_far 8 = .ok (.aload_n 0, 1) := by decide +kernel
theorem dX7_far_9 : decode cX7_far 9 = .ok (.iload_n 2, 1) := by decide +kernel
theorem dX7_far_10 : decode cX7_far 10 = .ok (.invokevirtual 231, 3) := by decide +kernel
theorem dX7_far_13 : decode cX7_far 13 = .ok (.ifCond .eq 12, 3) := by decide +kernel
theorem dX7_far_16 : decode cX7_far 16 = .ok (.aload_n 0, 1) := by decide +kernel
theorem dX7_far_17 : decode cX7_far 17 = .ok (.iload_n 1, 1) := by decide +kernel
theorem dX7_far_18 : decode cX7_far 18 = .ok (.iload_n 2, 1) := by decide +kernel
theorem dX7_far_19 : decode cX7_far 19 = .ok (.invokevirtual 204, 3) := by decide +kernel
theorem dX7_far_22 : decode cX7_far 22 = .ok (.goto 5, 3) := by decide +kernel
theorem dX7_far_25 : decode cX7_far 25 = .ok (.ldc 235, 2) := by decide +kernel
theorem dX7_far_27 : decode cX7_far 27 = .ok (.ireturn, 1) := by decide +kernel
theorem dX7_order_0 : decode cX7_order 0 = .ok (.aload_n 0, 1) := by decide +kernel
theorem dX7_order_1 : decode cX7_order 1 = .ok (.invokevirtual 216, 3) := by decide +kernel
theorem dX7_order_4 : decode cX7_order 4 = .ok (.istore_n 2, 1) := by decide +kernel
theorem dX7_order_5 : decode cX7_order 5 = .ok (.iload_n 1, 1) := by decide +kernel
theorem dX7_order_6 : decode cX7_order 6 = .ok (.i2l, 1) := by decide +kernel
theorem dX7_order_7 : decode cX7_order 7 = .ok (.lconst 0, 1) := by decide +kernel
theorem dX7_order_8 : decode cX7_order 8 = .ok (.aload_n 0, 1) := by decide +kernel
theorem dX7_order_9 : decode cX7_order 9 = .ok (.getfield 97, 3) := by decide +kernel
theorem dX7_order_12 : decode cX7_order 12 = .ok (.iconst 1, 1) := by decide +kernel
theorem dX7_order_13 : decode cX7_order 13 = .ok (.isub, 1) := by decide +kernel
theorem dX7_order_14 : decode cX7_order 14 = .ok (.i2l, 1) := by decide +kernel
theorem dX7_order_15 : decode cX7_order 15 = .ok (.invokestatic 93, 3) := by decide +kernel
theorem dX7_order_18 : decode cX7_order 18 = .ok (.ifCond .eq 12, 3) := by decide +kernel
theorem dX7_order_21 : decode cX7_order 21 = .ok (.aload_n 0, 1) := by decide +kernel
theorem dX7_order_22 : decode cX7_order 22 = .ok (.getfield 59, 3) := by decide +kernel
theorem dX7_order_25 : decode cX7_order 25 = .ok (.iload_n 1, 1) := by decide +kernel
theorem dX7_order_26 : decode cX7_order 26 = .ok (.iaload, 1) := by decide +kernel
theorem dX7_order_27 : decode cX7_order 27 = .ok (.goto 4, 3) := by decide +kernel
theorem dX7_order_30 : decode cX7_order 30 = .ok (.iconst (-1), 1) := by decide +kernel
theorem dX7_order_31 : decode cX7_order 31 = .ok (.ireturn, 1) := by decide +kernel
theorem dX7_stones_0 : decode cX7_stones 0 = .ok (.aload_n 0, 1) := by decide +kernel
theorem dX7_stones_1 : decode cX7_stones 1 = .ok (.iload_n 1, 1) := by decide +kernel
theorem dX7_stones_2 : decode cX7_stones 2 = .ok (.invokevirtual 236, 3) := by decide +kernel
theorem dX7_stones_5 : decode cX7_stones 5 = .ok (.ifCond .ne 6, 3) := by decide +kernel
theorem dX7_stones_8 : decode cX7_stones 8 = .ok (.ldc 235, 2) := by decide +kernel
theorem dX7_stones_10 : decode cX7_stones 10 = .ok (.ireturn, 1) := by decide +kernel
theorem dX7_stones_11 : decode cX7_stones 11 = .ok (.iload_n 2, 1) := by decide +kernel
theorem dX7_stones_12 : decode cX7_stones 12 = .ok (.i2l, 1) := by decide +kernel
theorem dX7_stones_13 : decode cX7_stones 13 = .ok (.lconst 0, 1) := by decide +kernel
theorem dX7_stones_14 : decode cX7_stones 14 = .ok (.ldc2_w 242, 3) := by decide +kernel
theorem dX7_stones_17 : decode cX7_stones 17 = .ok (.invokestatic 93, 3) := by decide +kernel
theorem dX7_stones_20 : decode cX7_stones 20 = .ok (.ifCond .ne 6, 3) := by decide +kernel
theorem dX7_stones_23 : decode cX7_stones 23 = .ok (.ldc 102, 2) := by decide +kernel
theorem dX7_stones_25 : decode cX7_stones 25 = .ok (.ireturn, 1) := by decide +kernel
theorem dX7_stones_26 : decode cX7_stones 26 = .ok (.aload_n 0, 1) := by decide +kernel
theorem dX7_stones_27 : decode cX7_stones 27 = .ok (.getfield 28, 3) := by decide +kernel
theorem dX7_stones_30 : decode cX7_stones 30 = .ok (.iload_n 1, 1) := by decide +kernel
theorem dX7_stones_31 : decode cX7_stones 31 = .ok (.iaload, 1) := by decide +kernel
theorem dX7_stones_32 : decode cX7_stones 32 = .ok (.istore_n 3, 1) := by decide +kernel
theorem dX7_stones_33 : decode cX7_stones 33 = .ok (.aload_n 0, 1) := by decide +kernel
theorem dX7_stones_34 : decode cX7_stones 34 = .ok (.getfield 28, 3) := by decide +kernel
theorem dX7_stones_37 : decode cX7_stones 37 = .ok (.iload_n 1, 1) := by decide +kernel
theorem dX7_stones_38 : decode cX7_stones 38 = .ok (.iload_n 2, 1) := by decide +kernel
theorem dX7_stones_39 : decode cX7_stones 39 = .ok (.iastore, 1) := by decide +kernel
theorem dX7_stones_40 : decode cX7_stones 40 = .ok (.iload_n 3, 1) := by decide +kernel
theorem dX7_stones_41 : decode cX7_stones 41 = .ok (.ireturn, 1) := by decide +kernel
theorem dX7_law_0 : decode cX7_law 0 = .ok (.iload_n 1, 1) := by decide +kernel
theorem dX7_law_1 : decode cX7_law 1 = .ok (.i2l, 1) := by decide +kernel
theorem dX7_law_2 : decode cX7_law 2 = .ok (.lconst 0, 1) := by decide +kernel
theorem dX7_law_3 : decode cX7_law 3 = .ok (.ldc2_w 244, 3) := by decide +kernel
theorem dX7_law_6 : decode cX7_law 6 = .ok (.invokestatic 93, 3) := by decide +kernel
theorem dX7_law_9 : decode cX7_law 9 = .ok (.ifCond .ne 6, 3) := by decide +kernel
theorem dX7_law_12 : decode cX7_law 12 = .ok (.ldc 102, 2) := by decide +kernel
theorem dX7_law_14 : decode cX7_law 14 = .ok (.ireturn, 1) := by decide +kernel
theorem dX7_law_15 : decode cX7_law 15 = .ok (.aload_n 0, 1) := by decide +kernel
theorem dX7_law_16 : decode cX7_law 16 = .ok (.getfield 197, 3) := by decide +kernel
theorem dX7_law_19 : decode cX7_law 19 = .ok (.istore_n 2, 1) := by decide +kernel
theorem dX7_law_20 : decode cX7_law 20 = .ok (.aload_n 0, 1) := by decide +kernel
theorem dX7_law_21 : decode cX7_law 21 = .ok (.iload_n 1, 1) := by decide +kernel
theorem dX7_law_22 : decode cX7_law 22 = .ok (.putfield 197, 3) := by decide +kernel
theorem dX7_law_25 : decode cX7_law 25 = .ok (.iload_n 2, 1) := by decide +kernel
theorem dX7_law_26 : decode cX7_law 26 = .ok (.ireturn, 1) := by decide +kernel
theorem dX7_price_0 : decode cX7_price 0 = .ok (.iload_n 1, 1) := by decide +kernel
theorem dX7_price_1 : decode cX7_price 1 = .ok (.i2l, 1) := by decide +kernel
theorem dX7_price_2 : decode cX7_price 2 = .ok (.lconst 0, 1) := by decide +kernel
theorem dX7_price_3 : decode cX7_price 3 = .ok (.ldc2_w 246, 3) := by decide +kernel
theorem dX7_price_6 : decode cX7_price 6 = .ok (.invokestatic 93, 3) := by decide +kernel
theorem dX7_price_9 : decode cX7_price 9 = .ok (.ifCond .ne 6, 3) := by decide +kernel
theorem dX7_price_12 : decode cX7_price 12 = .ok (.ldc 102, 2) := by decide +kernel
theorem dX7_price_14 : decode cX7_price 14 = .ok (.ireturn, 1) := by decide +kernel
theorem dX7_price_15 : decode cX7_price 15 = .ok (.aload_n 0, 1) := by decide +kernel
theorem dX7_price_16 : decode cX7_price 16 = .ok (.getfield 31, 3) := by decide +kernel
theorem dX7_price_19 : decode cX7_price 19 = .ok (.istore_n 2, 1) := by decide +kernel
theorem dX7_price_20 : decode cX7_price 20 = .ok (.aload_n 0, 1) := by decide +kernel
theorem dX7_price_21 : decode cX7_price 21 = .ok (.iload_n 1, 1) := by decide +kernel
theorem dX7_price_22 : decode cX7_price 22 = .ok (.putfield 31, 3) := by decide +kernel
theorem dX7_price_25 : decode cX7_price 25 = .ok (.iload_n 2, 1) := by decide +kernel
theorem dX7_price_26 : decode cX7_price 26 = .ok (.ireturn, 1) := by decide +kernel
theorem dX7_draw_0 : decode cX7_draw 0 = .ok (.aload_n 0, 1) := by decide +kernel
theorem dX7_draw_1 : decode cX7_draw 1 = .ok (.aload_n 0, 1) := by decide +kernel
theorem dX7_draw_2 : decode cX7_draw 2 = .ok (.getfield 248, 3) := by decide +kernel
theorem dX7_draw_5 : decode cX7_draw 5 = .ok (.i2l, 1) := by decide +kernel
theorem dX7_draw_6 : decode cX7_draw 6 = .ok (.ldc2_w 251, 3) := by decide +kernel
theorem dX7_draw_9 : decode cX7_draw 9 = .ok (.lmul, 1) := by decide +kernel
theorem dX7_draw_10 : decode cX7_draw 10 = .ok (.ldc2_w 253, 3) := by decide +kernel
theorem dX7_draw_13 : decode cX7_draw 13 = .ok (.ladd, 1) := by decide +kernel
theorem dX7_draw_14 : decode cX7_draw 14 = .ok (.ldc2_w 255, 3) := by decide +kernel
theorem dX7_draw_17 : decode cX7_draw 17 = .ok (.lrem, 1) := by decide +kernel
theorem dX7_draw_18 : decode cX7_draw 18 = .ok (.l2i, 1) := by decide +kernel
theorem dX7_draw_19 : decode cX7_draw 19 = .ok (.putfield 248, 3) := by decide +kernel
theorem dX7_draw_22 : decode cX7_draw 22 = .ok (.aload_n 0, 1) := by decide +kernel
theorem dX7_draw_23 : decode cX7_draw 23 = .ok (.getfield 248, 3) := by decide +kernel
theorem dX7_draw_26 : decode cX7_draw 26 = .ok (.ldc_w 257, 3) := by decide +kernel
theorem dX7_draw_29 : decode cX7_draw 29 = .ok (.idiv, 1) := by decide +kernel
theorem dX7_draw_30 : decode cX7_draw 30 = .ok (.iload_n 1, 1) := by decide +kernel
theorem dX7_draw_31 : decode cX7_draw 31 = .ok (.irem, 1) := by decide +kernel
theorem dX7_draw_32 : decode cX7_draw 32 = .ok (.ireturn, 1) := by decide +kernel
theorem dX7_drift_0 : decode cX7_drift 0 = .ok (.iload_n 1, 1) := by decide +kernel
theorem dX7_drift_1 : decode cX7_drift 1 = .ok (.i2l, 1) := by decide +kernel
theorem dX7_drift_2 : decode cX7_drift 2 = .ok (.lconst 1, 1) := by decide +kernel
theorem dX7_drift_3 : decode cX7_drift 3 = .ok (.ldc2_w 246, 3) := by decide +kernel
theorem dX7_drift_6 : decode cX7_drift 6 = .ok (.invokestatic 93, 3) := by decide +kernel
theorem dX7_drift_9 : decode cX7_drift 9 = .ok (.ifCond .ne 6, 3) := by decide +kernel
theorem dX7_drift_12 : decode cX7_drift 12 = .ok (.ldc 102, 2) := by decide +kernel
theorem dX7_drift_14 : decode cX7_drift 14 = .ok (.ireturn, 1) := by decide +kernel
theorem dX7_drift_15 : decode cX7_drift 15 = .ok (.aload_n 0, 1) := by decide +kernel
theorem dX7_drift_16 : decode cX7_drift 16 = .ok (.getfield 97, 3) := by decide +kernel
theorem dX7_drift_19 : decode cX7_drift 19 = .ok (.ifCond .ne 7, 3) := by decide +kernel
theorem dX7_drift_22 : decode cX7_drift 22 = .ok (.ldc_w 258, 3) := by decide +kernel
theorem dX7_drift_25 : decode cX7_drift 25 = .ok (.ireturn, 1) := by decide +kernel
theorem dX7_drift_26 : decode cX7_drift 26 = .ok (.iconst 0, 1) := by decide +kernel
theorem dX7_drift_27 : decode cX7_drift 27 = .ok (.istore_n 2, 1) := by decide +kernel
theorem dX7_drift_28 : decode cX7_drift 28 = .ok (.iconst 0, 1) := by decide +kernel
theorem dX7_drift_29 : decode cX7_drift 29 = .ok (.istore_n 3, 1) := by decide +kernel
theorem dX7_drift_30 : decode cX7_drift 30 = .ok (.iload_n 3, 1) := by decide +kernel
theorem dX7_drift_31 : decode cX7_drift 31 = .ok (.iload_n 1, 1) := by decide +kernel
theorem dX7_drift_32 : decode cX7_drift 32 = .ok (.if_icmp .ge 76, 3) := by decide +kernel
theorem dX7_drift_35 : decode cX7_drift 35 = .ok (.iconst 0, 1) := by decide +kernel
theorem dX7_drift_36 : decode cX7_drift 36 = .ok (.istore 4, 2) := by decide +kernel
theorem dX7_drift_38 : decode cX7_drift 38 = .ok (.iload 4, 2) := by decide +kernel
theorem dX7_drift_40 : decode cX7_drift 40 = .ok (.aload_n 0, 1) := by decide +kernel
theorem dX7_drift_41 : decode cX7_drift 41 = .ok (.getfield 97, 3) := by decide +kernel
theorem dX7_drift_44 : decode cX7_drift 44 = .ok (.if_icmp .ge 47, 3) := by decide +kernel
theorem dX7_drift_47 : decode cX7_drift 47 = .ok (.aload_n 0, 1) := by decide +kernel
theorem dX7_drift_48 : decode cX7_drift 48 = .ok (.getfield 19, 3) := by decide +kernel
theorem dX7_drift_51 : decode cX7_drift 51 = .ok (.iload 4, 2) := by decide +kernel
theorem dX7_drift_53 : decode cX7_drift 53 = .ok (.aload_n 0, 1) := by decide +kernel
theorem dX7_drift_54 : decode cX7_drift 54 = .ok (.bipush 99, 2) := by decide +kernel
theorem dX7_drift_56 : decode cX7_drift 56 = .ok (.invokevirtual 259, 3) := by decide +kernel
theorem dX7_drift_59 : decode cX7_drift 59 = .ok (.iconst 1, 1) := by decide +kernel
theorem dX7_drift_60 : decode cX7_drift 60 = .ok (.iadd, 1) := by decide +kernel
theorem dX7_drift_61 : decode cX7_drift 61 = .ok (.iastore, 1) := by decide +kernel
theorem dX7_drift_62 : decode cX7_drift 62 = .ok (.aload_n 0, 1) := by decide +kernel
theorem dX7_drift_63 : decode cX7_drift 63 = .ok (.getfield 16, 3) := by decide +kernel
theorem dX7_drift_66 : decode cX7_drift 66 = .ok (.iload 4, 2) := by decide +kernel
theorem dX7_drift_68 : decode cX7_drift 68 = .ok (.aload_n 0, 1) := by decide +kernel
theorem dX7_drift_69 : decode cX7_drift 69 = .ok (.aload_n 0, 1) := by decide +kernel
theorem dX7_drift_70 : decode cX7_drift 70 = .ok (.getfield 90, 3) := by decide +kernel
theorem dX7_drift_73 : decode cX7_drift 73 = .ok (.invokevirtual 259, 3) := by decide +kernel
theorem dX7_drift_76 : decode cX7_drift 76 = .ok (.iastore, 1) := by decide +kernel
theorem dX7_drift_77 : decode cX7_drift 77 = .ok (.aload_n 0, 1) := by decide +kernel
theorem dX7_drift_78 : decode cX7_drift 78 = .ok (.getfield 28, 3) := by decide +kernel
theorem dX7_drift_81 : decode cX7_drift 81 = .ok (.iload 4, 2) := by decide +kernel
theorem dX7_drift_83 : decode cX7_drift 83 = .ok (.iconst 0, 1) := by decide +kernel
theorem dX7_drift_84 : decode cX7_drift 84 = .ok (.iastore, 1) := by decide +kernel
theorem dX7_drift_85 : decode cX7_drift 85 = .ok (.iinc 4 1, 3) := by decide +kernel
theorem dX7_drift_88 : decode cX7_drift 88 = .ok (.goto (-50), 3) := by decide +kernel
theorem dX7_drift_91 : decode cX7_drift 91 = .ok (.aload_n 0, 1) := by decide +kernel
theorem dX7_drift_92 : decode cX7_drift 92 = .ok (.invokevirtual 228, 3) := by decide +kernel
theorem dX7_drift_95 : decode cX7_drift 95 = .ok (.istore 4, 2) := by decide +kernel
theorem dX7_drift_97 : decode cX7_drift 97 = .ok (.iload_n 2, 1) := by decide +kernel
theorem dX7_drift_98 : decode cX7_drift 98 = .ok (.iload 4, 2) := by decide +kernel
theorem dX7_drift_100 : decode cX7_drift 100 = .ok (.iadd, 1) := by decide +kernel
theorem dX7_drift_101 : decode cX7_drift 101 = .ok (.istore_n 2, 1) := by decide +kernel
theorem dX7_drift_102 : decode cX7_drift 102 = .ok (.iinc 3 1, 3) := by decide +kernel
theorem dX7_drift_105 : decode cX7_drift 105 = .ok (.goto (-75), 3) := by decide +kernel
theorem dX7_drift_108 : decode cX7_drift 108 = .ok (.iload_n 2, 1) := by decide +kernel
theorem dX7_drift_109 : decode cX7_drift 109 = .ok (.ireturn, 1) := by decide +kernel
theorem dX7_setOrder_0 : decode cX7_setOrder 0 = .ok (.iload_n 1, 1) := by decide +kernel
theorem dX7_setOrder_1 : decode cX7_setOrder 1 = .ok (.istore_n 2, 1) := by decide +kernel
theorem dX7_setOrder_2 : decode cX7_setOrder 2 = .ok (.iconst 0, 1) := by decide +kernel
theorem dX7_setOrder_3 : decode cX7_setOrder 3 = .ok (.istore_n 3, 1) := by decide +kernel
theorem dX7_setOrder_4 : decode cX7_setOrder 4 = .ok (.aload_n 0, 1) := by decide +kernel
theorem dX7_setOrder_5 : decode cX7_setOrder 5 = .ok (.getfield 97, 3) := by decide +kernel
theorem dX7_setOrder_8 : decode cX7_setOrder 8 = .ok (.iconst 1, 1) := by decide +kernel
theorem dX7_setOrder_9 : decode cX7_setOrder 9 = .ok (.isub, 1) := by decide +kernel
theorem dX7_setOrder_10 : decode cX7_setOrder 10 = .ok (.istore 4, 2) := by decide +kernel
theorem dX7_setOrder_12 : decode cX7_setOrder 12 = .ok (.iload 4, 2) := by decide +kernel
theorem dX7_setOrder_14 : decode cX7_setOrder 14 = .ok (.ifCond .lt 41, 3) := by decide +kernel
theorem dX7_setOrder_17 : decode cX7_setOrder 17 = .ok (.aload_n 0, 1) := by decide +kernel
theorem dX7_setOrder_18 : decode cX7_setOrder 18 = .ok (.getfield 59, 3) := by decide +kernel
theorem dX7_setOrder_21 : decode cX7_setOrder 21 = .ok (.iload 4, 2) := by decide +kernel
theorem dX7_setOrder_23 : decode cX7_setOrder 23 = .ok (.iload_n 2, 1) := by decide +kernel
theorem dX7_setOrder_24 : decode cX7_setOrder 24 = .ok (.aload_n 0, 1) := by decide +kernel
theorem dX7_setOrder_25 : decode cX7_setOrder 25 = .ok (.getfield 97, 3) := by decide +kernel
theorem dX7_setOrder_28 : decode cX7_setOrder 28 = .ok (.irem, 1) := by decide +kernel
theorem dX7_setOrder_29 : decode cX7_setOrder 29 = .ok (.iastore, 1) := by decide +kernel
theorem dX7_setOrder_30 : decode cX7_setOrder 30 = .ok (.iload_n 2, 1) := by decide +kernel
theorem dX7_setOrder_31 : decode cX7_setOrder 31 = .ok (.aload_n 0, 1) := by decide +kernel
theorem dX7_setOrder_32 : decode cX7_setOrder 32 = .ok (.getfield 97, 3) := by decide +kernel
theorem dX7_setOrder_35 : decode cX7_setOrder 35 = .ok (.idiv, 1) := by decide +kernel
theorem dX7_setOrder_36 : decode cX7_setOrder 36 = .ok (.istore_n 2, 1) := by decide +kernel
theorem dX7_setOrder_37 : decode cX7_setOrder 37 = .ok (.iload_n 3, 1) := by decide +kernel
theorem dX7_setOrder_38 : decode cX7_setOrder 38 = .ok (.iconst 1, 1) := by decide +kernel
theorem dX7_setOrder_39 : decode cX7_setOrder 39 = .ok (.aload_n 0, 1) := by decide +kernel
theorem dX7_setOrder_40 : decode cX7_setOrder 40 = .ok (.getfield 59, 3) := by decide +kernel
theorem dX7_setOrder_43 : decode cX7_setOrder 43 = .ok (.iload 4, 2) := by decide +kernel
theorem dX7_setOrder_45 : decode cX7_setOrder 45 = .ok (.iaload, 1) := by decide +kernel
theorem dX7_setOrder_46 : decode cX7_setOrder 46 = .ok (.ishl, 1) := by decide +kernel
theorem dX7_setOrder_47 : decode cX7_setOrder 47 = .ok (.ior, 1) := by decide +kernel
theorem dX7_setOrder_48 : decode cX7_setOrder 48 = .ok (.istore_n 3, 1) := by decide +kernel
theorem dX7_setOrder_49 : decode cX7_setOrder 49 = .ok (.iinc 4 (-1), 3) := by decide +kernel
theorem dX7_setOrder_52 : decode cX7_setOrder 52 = .ok (.goto (-40), 3) := by decide +kernel
theorem dX7_setOrder_55 : decode cX7_setOrder 55 = .ok (.iload_n 3, 1) := by decide +kernel
theorem dX7_setOrder_56 : decode cX7_setOrder 56 = .ok (.iconst 1, 1) := by decide +kernel
theorem dX7_setOrder_57 : decode cX7_setOrder 57 = .ok (.aload_n 0, 1) := by decide +kernel
theorem dX7_setOrder_58 : decode cX7_setOrder 58 = .ok (.getfield 97, 3) := by decide +kernel
theorem dX7_setOrder_61 : decode cX7_setOrder 61 = .ok (.ishl, 1) := by decide +kernel
theorem dX7_setOrder_62 : decode cX7_setOrder 62 = .ok (.iconst 1, 1) := by decide +kernel
theorem dX7_setOrder_63 : decode cX7_setOrder 63 = .ok (.isub, 1) := by decide +kernel
theorem dX7_setOrder_64 : decode cX7_setOrder 64 = .ok (.if_icmp .ne 7, 3) := by decide +kernel
theorem dX7_setOrder_67 : decode cX7_setOrder 67 = .ok (.iconst 1, 1) := by decide +kernel
theorem dX7_setOrder_68 : decode cX7_setOrder 68 = .ok (.goto 4, 3) := by decide +kernel
theorem dX7_setOrder_71 : decode cX7_setOrder 71 = .ok (.iconst 0, 1) := by decide +kernel
theorem dX7_setOrder_72 : decode cX7_setOrder 72 = .ok (.ireturn, 1) := by decide +kernel
theorem dX7_stonesFor_0 : decode cX7_stonesFor 0 = .ok (.iconst 0, 1) := by decide +kernel
theorem dX7_stonesFor_1 : decode cX7_stonesFor 1 = .ok (.istore_n 1, 1) := by decide +kernel
theorem dX7_stonesFor_2 : decode cX7_stonesFor 2 = .ok (.iconst (-1), 1) := by decide +kernel
theorem dX7_stonesFor_3 : decode cX7_stonesFor 3 = .ok (.istore_n 2, 1) := by decide +kernel
theorem dX7_stonesFor_4 : decode cX7_stonesFor 4 = .ok (.iconst 0, 1) := by decide +kernel
theorem dX7_stonesFor_5 : decode cX7_stonesFor 5 = .ok (.istore_n 3, 1) := by decide +kernel
theorem dX7_stonesFor_6 : decode cX7_stonesFor 6 = .ok (.iconst 0, 1) := by decide +kernel
theorem dX7_stonesFor_7 : decode cX7_stonesFor 7 = .ok (.istore 4, 2) := by decide +kernel
theorem dX7_stonesFor_9 : decode cX7_stonesFor 9 = .ok (.iload 4, 2) := by decide +kernel
theorem dX7_stonesFor_11 : decode cX7_stonesFor 11 = .ok (.aload_n 0, 1) := by decide +kernel
theorem dX7_stonesFor_12 : decode cX7_stonesFor 12 = .ok (.getfield 97, 3) := by decide +kernel
theorem dX7_stonesFor_15 : decode cX7_stonesFor 15 = .ok (.if_icmp .ge 156, 3) := by decide +kernel
theorem dX7_stonesFor_18 : decode cX7_stonesFor 18 = .ok (.aload_n 0, 1) := by decide +kernel
theorem dX7_stonesFor_19 : decode cX7_stonesFor 19 = .ok (.getfield 197, 3) := by decide +kernel
theorem dX7_stonesFor_22 : decode cX7_stonesFor 22 = .ok (.ifCond .ne 20, 3) := by decide +kernel
theorem dX7_stonesFor_25 : decode cX7_stonesFor 25 = .ok (.aload_n 0, 1) := by decide +kernel
theorem dX7_stonesFor_26 : decode cX7_stonesFor 26 = .ok (.getfield 59, 3) := by decide +kernel
theorem dX7_stonesFor_29 : decode cX7_stonesFor 29 = .ok (.aload_n 0, 1) := by decide +kernel
theorem dX7_stonesFor_30 : decode cX7_stonesFor 30 = .ok (.getfield 97, 3) := by decide +kernel
theorem dX7_stonesFor_33 : decode cX7_stonesFor 33 = .ok (.iconst 1, 1) := by decide +kernel
theorem dX7_stonesFor_34 : decode cX7_stonesFor 34 = .ok (.isub, 1) := by decide +kernel
theorem dX7_stonesFor_35 : decode cX7_stonesFor 35 = .ok (.iload 4, 2) := by decide +kernel
theorem dX7_stonesFor_37 : decode cX7_stonesFor 37 = .ok (.isub, 1) := by decide +kernel
theorem dX7_stonesFor_38 : decode cX7_stonesFor 38 = .ok (.iaload, 1) := by decide +kernel
theorem dX7_stonesFor_39 : decode cX7_stonesFor 39 = .ok (.goto 10, 3) := by decide +kernel
theorem dX7_stonesFor_42 : decode cX7_stonesFor 42 = .ok (.aload_n 0, 1) := by decide +kernel
theorem dX7_stonesFor_43 : decode cX7_stonesFor 43 = .ok (.getfield 59, 3) := by decide +kernel
theorem dX7_stonesFor_46 : decode cX7_stonesFor 46 = .ok (.iload 4, 2) := by decide +kernel
theorem dX7_stonesFor_48 : decode cX7_stonesFor 48 = .ok (.iaload, 1) := by decide +kernel
theorem dX7_stonesFor_49 : decode cX7_stonesFor 49 = .ok (.istore 5, 2) := by decide +kernel
theorem dX7_stonesFor_51 : decode cX7_stonesFor 51 = .ok (.aload_n 0, 1) := by decide +kernel
theorem dX7_stonesFor_52 : decode cX7_stonesFor 52 = .ok (.getfield 197, 3) := by decide +kernel
theorem dX7_stonesFor_55 : decode cX7_stonesFor 55 = .ok (.ifCond .ne 17, 3) := by decide +kernel
theorem dX7_stonesFor_58 : decode cX7_stonesFor 58 = .ok (.iload 5, 2) := by decide +kernel
theorem dX7_stonesFor_60 : decode cX7_stonesFor 60 = .ok (.iload_n 2, 1) := by decide +kernel
theorem dX7_stonesFor_61 : decode cX7_stonesFor 61 = .ok (.if_icmp .ge 7, 3) := by decide +kernel
theorem dX7_stonesFor_64 : decode cX7_stonesFor 64 = .ok (.iconst 1, 1) := by decide +kernel
theorem dX7_stonesFor_65 : decode cX7_stonesFor 65 = .ok (.goto 18, 3) := by decide +kernel
theorem dX7_stonesFor_68 : decode cX7_stonesFor 68 = .ok (.iconst 0, 1) := by decide +kernel
theorem dX7_stonesFor_69 : decode cX7_stonesFor 69 = .ok (.goto 14, 3) := by decide +kernel
theorem dX7_stonesFor_72 : decode cX7_stonesFor 72 = .ok (.iload 5, 2) := by decide +kernel
theorem dX7_stonesFor_74 : decode cX7_stonesFor 74 = .ok (.iload_n 2, 1) := by decide +kernel
theorem dX7_stonesFor_75 : decode cX7_stonesFor 75 = .ok (.if_icmp .le 7, 3) := by decide +kernel
theorem dX7_stonesFor_78 : decode cX7_stonesFor 78 = .ok (.iconst 1, 1) := by decide +kernel
theorem dX7_stonesFor_79 : decode cX7_stonesFor 79 = .ok (.goto 4, 3) := by decide +kernel
theorem dX7_stonesFor_82 : decode cX7_stonesFor 82 = .ok (.iconst 0, 1) := by decide +kernel
theorem dX7_stonesFor_83 : decode cX7_stonesFor 83 = .ok (.istore 6, 2) := by decide +kernel
theorem dX7_stonesFor_85 : decode cX7_stonesFor 85 = .ok (.iload_n 2, 1) := by decide +kernel
theorem dX7_stonesFor_86 : decode cX7_stonesFor 86 = .ok (.ifCond .ge 7, 3) := by decide +kernel
theorem dX7_stonesFor_89 : decode cX7_stonesFor 89 = .ok (.iconst 0, 1) := by decide +kernel
theorem dX7_stonesFor_90 : decode cX7_stonesFor 90 = .ok (.goto 15, 3) := by decide +kernel
theorem dX7_stonesFor_93 : decode cX7_stonesFor 93 = .ok (.iload 6, 2) := by decide +kernel
theorem dX7_stonesFor_95 : decode cX7_stonesFor 95 = .ok (.ifCond .eq 7, 3) := by decide +kernel
theorem dX7_stonesFor_98 : decode cX7_stonesFor 98 = .ok (.iload_n 3, 1) := by decide +kernel
theorem dX7_stonesFor_99 : decode cX7_stonesFor 99 = .ok (.goto 6, 3) := by decide +kernel
theorem dX7_stonesFor_102 : decode cX7_stonesFor 102 = .ok (.iload_n 3, 1) := by decide +kernel
theorem dX7_stonesFor_103 : decode cX7_stonesFor 103 = .ok (.iconst 1, 1) := by decide +kernel
theorem dX7_stonesFor_104 : decode cX7_stonesFor 104 = .ok (.iadd, 1) := by decide +kernel
theorem dX7_stonesFor_105 : decode cX7_stonesFor 105 = .ok (.istore 7, 2) := by decide +kernel
theorem dX7_stonesFor_107 : decode cX7_stonesFor 107 = .ok (.iload 7, 2) := by decide +kernel
theorem dX7_stonesFor_109 : decode cX7_stonesFor 109 = .ok (.aload_n 0, 1) := by decide +kernel
theorem dX7_stonesFor_110 : decode cX7_stonesFor 110 = .ok (.getfield 19, 3) := by decide +kernel
theorem dX7_stonesFor_113 : decode cX7_stonesFor 113 = .ok (.iload 5, 2) := by decide +kernel
theorem dX7_stonesFor_115 : decode cX7_stonesFor 115 = .ok (.iaload, 1) := by decide +kernel
theorem dX7_stonesFor_116 : decode cX7_stonesFor 116 = .ok (.if_icmp .le 16, 3) := by decide +kernel
theorem dX7_stonesFor_119 : decode cX7_stonesFor 119 = .ok (.iload 7, 2) := by decide +kernel
theorem dX7_stonesFor_121 : decode cX7_stonesFor 121 = .ok (.aload_n 0, 1) := by decide +kernel
theorem dX7_stonesFor_122 : decode cX7_stonesFor 122 = .ok (.getfield 19, 3) := by decide +kernel
theorem dX7_stonesFor_125 : decode cX7_stonesFor 125 = .ok (.iload 5, 2) := by decide +kernel
theorem dX7_stonesFor_127 : decode cX7_stonesFor 127 = .ok (.iaload, 1) := by decide +kernel
theorem dX7_stonesFor_128 : decode cX7_stonesFor 128 = .ok (.isub, 1) := by decide +kernel
theorem dX7_stonesFor_129 : decode cX7_stonesFor 129 = .ok (.goto 4, 3) := by decide +kernel
theorem dX7_stonesFor_132 : decode cX7_stonesFor 132 = .ok (.iconst 0, 1) := by decide +kernel
theorem dX7_stonesFor_133 : decode cX7_stonesFor 133 = .ok (.istore 8, 2) := by decide +kernel
theorem dX7_stonesFor_135 : decode cX7_stonesFor 135 = .ok (.iload 8, 2) := by decide +kernel
theorem dX7_stonesFor_137 : decode cX7_stonesFor 137 = .ok (.bipush 9, 2) := by decide +kernel
theorem dX7_stonesFor_139 : decode cX7_stonesFor 139 = .ok (.if_icmp .le 7, 3) := by decide +kernel
theorem dX7_stonesFor_142 : decode cX7_stonesFor 142 = .ok (.ldc_w 262, 3) := by decide +kernel
theorem dX7_stonesFor_145 : decode cX7_stonesFor 145 = .ok (.ireturn, 1) := by decide +kernel
theorem dX7_stonesFor_146 : decode cX7_stonesFor 146 = .ok (.iload_n 1, 1) := by decide +kernel
theorem dX7_stonesFor_147 : decode cX7_stonesFor 147 = .ok (.iload 8, 2) := by decide +kernel
theorem dX7_stonesFor_149 : decode cX7_stonesFor 149 = .ok (.iadd, 1) := by decide +kernel
theorem dX7_stonesFor_150 : decode cX7_stonesFor 150 = .ok (.istore_n 1, 1) := by decide +kernel
theorem dX7_stonesFor_151 : decode cX7_stonesFor 151 = .ok (.iload 5, 2) := by decide +kernel
theorem dX7_stonesFor_153 : decode cX7_stonesFor 153 = .ok (.istore_n 2, 1) := by decide +kernel
theorem dX7_stonesFor_154 : decode cX7_stonesFor 154 = .ok (.aload_n 0, 1) := by decide +kernel
theorem dX7_stonesFor_155 : decode cX7_stonesFor 155 = .ok (.getfield 19, 3) := by decide +kernel
theorem dX7_stonesFor_158 : decode cX7_stonesFor 158 = .ok (.iload 5, 2) := by decide +kernel
theorem dX7_stonesFor_160 : decode cX7_stonesFor 160 = .ok (.iaload, 1) := by decide +kernel
theorem dX7_stonesFor_161 : decode cX7_stonesFor 161 = .ok (.iload 8, 2) := by decide +kernel
theorem dX7_stonesFor_163 : decode cX7_stonesFor 163 = .ok (.iadd, 1) := by decide +kernel
theorem dX7_stonesFor_164 : decode cX7_stonesFor 164 = .ok (.istore_n 3, 1) := by decide +kernel
theorem dX7_stonesFor_165 : decode cX7_stonesFor 165 = .ok (.iinc 4 1, 3) := by decide +kernel
theorem dX7_stonesFor_168 : decode cX7_stonesFor 168 = .ok (.goto (-159), 3) := by decide +kernel
theorem dX7_stonesFor_171 : decode cX7_stonesFor 171 = .ok (.iload_n 1, 1) := by decide +kernel
theorem dX7_stonesFor_172 : decode cX7_stonesFor 172 = .ok (.ireturn, 1) := by decide +kernel
theorem dX7_areInTime_0 : decode cX7_areInTime 0 = .ok (.iconst 1, 1) := by decide +kernel
theorem dX7_areInTime_1 : decode cX7_areInTime 1 = .ok (.istore_n 1, 1) := by decide +kernel
theorem dX7_areInTime_2 : decode cX7_areInTime 2 = .ok (.iconst 0, 1) := by decide +kernel
theorem dX7_areInTime_3 : decode cX7_areInTime 3 = .ok (.istore_n 2, 1) := by decide +kernel
theorem dX7_areInTime_4 : decode cX7_areInTime 4 = .ok (.iload_n 2, 1) := by decide +kernel
theorem dX7_areInTime_5 : decode cX7_areInTime 5 = .ok (.aload_n 0, 1) := by decide +kernel
theorem dX7_areInTime_6 : decode cX7_areInTime 6 = .ok (.getfield 97, 3) := by decide +kernel
theorem dX7_areInTime_9 : decode cX7_areInTime 9 = .ok (.if_icmp .ge 34, 3) := by decide +kernel
theorem dX7_areInTime_12 : decode cX7_areInTime 12 = .ok (.iload_n 1, 1) := by decide +kernel
theorem dX7_areInTime_13 : decode cX7_areInTime 13 = .ok (.ifCond .eq 22, 3) := by decide +kernel
theorem dX7_areInTime_16 : decode cX7_areInTime 16 = .ok (.aload_n 0, 1) := by decide +kernel
theorem dX7_areInTime_17 : decode cX7_areInTime 17 = .ok (.getfield 65, 3) := by decide +kernel
theorem dX7_areInTime_20 : decode cX7_areInTime 20 = .ok (.iload_n 2, 1) := by decide +kernel
theorem dX7_areInTime_21 : decode cX7_areInTime 21 = .ok (.iaload, 1) := by decide +kernel
theorem dX7_areInTime_22 : decode cX7_areInTime 22 = .ok (.aload_n 0, 1) := by decide +kernel
theorem dX7_areInTime_23 : decode cX7_areInTime 23 = .ok (.getfield 22, 3) := by decide +kernel
theorem dX7_areInTime_26 : decode cX7_areInTime 26 = .ok (.iload_n 2, 1) := by decide +kernel
theorem dX7_areInTime_27 : decode cX7_areInTime 27 = .ok (.iaload, 1) := by decide +kernel
theorem dX7_areInTime_28 : decode cX7_areInTime 28 = .ok (.if_icmp .gt 7, 3) := by decide +kernel
theorem dX7_areInTime_31 : decode cX7_areInTime 31 = .ok (.iconst 1, 1) := by decide +kernel
theorem dX7_areInTime_32 : decode cX7_areInTime 32 = .ok (.goto 4, 3) := by decide +kernel
theorem dX7_areInTime_35 : decode cX7_areInTime 35 = .ok (.iconst 0, 1) := by decide +kernel
theorem dX7_areInTime_36 : decode cX7_areInTime 36 = .ok (.istore_n 1, 1) := by decide +kernel
theorem dX7_areInTime_37 : decode cX7_areInTime 37 = .ok (.iinc 2 1, 3) := by decide +kernel
theorem dX7_areInTime_40 : decode cX7_areInTime 40 = .ok (.goto (-36), 3) := by decide +kernel
theorem dX7_areInTime_43 : decode cX7_areInTime 43 = .ok (.iload_n 1, 1) := by decide +kernel
theorem dX7_areInTime_44 : decode cX7_areInTime 44 = .ok (.ireturn, 1) := by decide +kernel
theorem dX7_findOrder_0 : decode cX7_findOrder 0 = .ok (.iconst 1, 1) := by decide +kernel
theorem dX7_findOrder_1 : decode cX7_findOrder 1 = .ok (.istore_n 2, 1) := by decide +kernel
theorem dX7_findOrder_2 : decode cX7_findOrder 2 = .ok (.iconst 0, 1) := by decide +kernel
theorem dX7_findOrder_3 : decode cX7_findOrder 3 = .ok (.istore_n 3, 1) := by decide +kernel
theorem dX7_findOrder_4 : decode cX7_findOrder 4 = .ok (.iload_n 3, 1) := by decide +kernel
theorem dX7_findOrder_5 : decode cX7_findOrder 5 = .ok (.aload_n 0, 1) := by decide +kernel
theorem dX7_findOrder_6 : decode cX7_findOrder 6 = .ok (.getfield 97, 3) := by decide +kernel
theorem dX7_findOrder_9 : decode cX7_findOrder 9 = .ok (.if_icmp .ge 16, 3) := by decide +kernel
theorem dX7_findOrder_12 : decode cX7_findOrder 12 = .ok (.iload_n 2, 1) := by decide +kernel
theorem dX7_findOrder_13 : decode cX7_findOrder 13 = .ok (.aload_n 0, 1) := by decide +kernel
theorem dX7_findOrder_14 : decode cX7_findOrder 14 = .ok (.getfield 97, 3) := by decide +kernel
theorem dX7_findOrder_17 : decode cX7_findOrder 17 = .ok (.imul, 1) := by decide +kernel
theorem dX7_findOrder_18 : decode cX7_findOrder 18 = .ok (.istore_n 2, 1) := by decide +kernel
theorem dX7_findOrder_19 : decode cX7_findOrder 19 = .ok (.iinc 3 1, 3) := by decide +kernel
theorem dX7_findOrder_22 : decode cX7_findOrder 22 = .ok (.goto (-18), 3) := by decide +kernel
theorem dX7_findOrder_25 : decode cX7_findOrder 25 = .ok (.aload_n 0, 1) := by decide +kernel
theorem dX7_findOrder_26 : decode cX7_findOrder 26 = .ok (.ldc_w 262, 3) := by decide +kernel
theorem dX7_findOrder_29 : decode cX7_findOrder 29 = .ok (.putfield 263, 3) := by decide +kernel
theorem dX7_findOrder_32 : decode cX7_findOrder 32 = .ok (.aload_n 0, 1) := by decide +kernel
theorem dX7_findOrder_33 : decode cX7_findOrder 33 = .ok (.ldc_w 262, 3) := by decide +kernel
theorem dX7_findOrder_36 : decode cX7_findOrder 36 = .ok (.putfield 266, 3) := by decide +kernel
theorem dX7_findOrder_39 : decode cX7_findOrder 39 = .ok (.iconst 0, 1) := by decide +kernel
theorem dX7_findOrder_40 : decode cX7_findOrder 40 = .ok (.istore_n 3, 1) := by decide +kernel
theorem dX7_findOrder_41 : decode cX7_findOrder 41 = .ok (.iconst 0, 1) := by decide +kernel
theorem dX7_findOrder_42 : decode cX7_findOrder 42 = .ok (.istore 4, 2) := by decide +kernel
theorem dX7_findOrder_44 : decode cX7_findOrder 44 = .ok (.iload 4, 2) := by decide +kernel
theorem dX7_findOrder_46 : decode cX7_findOrder 46 = .ok (.iload_n 2, 1) := by decide +kernel
theorem dX7_findOrder_47 : decode cX7_findOrder 47 = .ok (.if_icmp .ge 190, 3) := by decide +kernel
theorem dX7_findOrder_50 : decode cX7_findOrder 50 = .ok (.aload_n 0, 1) := by decide +kernel
theorem dX7_findOrder_51 : decode cX7_findOrder 51 = .ok (.iload 4, 2) := by decide +kernel
theorem dX7_findOrder_53 : decode cX7_findOrder 53 = .ok (.invokevirtual 269, 3) := by decide +kernel
theorem dX7_findOrder_56 : decode cX7_findOrder 56 = .ok (.ifCond .eq 175, 3) := by decide +kernel
theorem dX7_findOrder_59 : decode cX7_findOrder 59 = .ok (.aload_n 0, 1) := by decide +kernel
theorem dX7_findOrder_60 : decode cX7_findOrder 60 = .ok (.invokevirtual 272, 3) := by decide +kernel
theorem dX7_findOrder_63 : decode cX7_findOrder 63 = .ok (.istore 5, 2) := by decide +kernel
theorem dX7_findOrder_65 : decode cX7_findOrder 65 = .ok (.aload_n 0, 1) := by decide +kernel
theorem dX7_findOrder_66 : decode cX7_findOrder 66 = .ok (.iconst 0, 1) := by decide +kernel
theorem dX7_findOrder_67 : decode cX7_findOrder 67 = .ok (.aload_n 0, 1) := by decide +kernel
theorem dX7_findOrder_68 : decode cX7_findOrder 68 = .ok (.getfield 97, 3) := by decide +kernel
theorem dX7_findOrder_71 : decode cX7_findOrder 71 = .ok (.invokevirtual 213, 3) := by decide +kernel
theorem dX7_findOrder_74 : decode cX7_findOrder 74 = .ok (.istore 6, 2) := by decide +kernel
theorem dX7_findOrder_76 : decode cX7_findOrder 76 = .ok (.iload 5, 2) := by decide +kernel
theorem dX7_findOrder_78 : decode cX7_findOrder 78 = .ok (.ldc_w 262, 3) := by decide +kernel
theorem dX7_findOrder_81 : decode cX7_findOrder 81 = .ok (.if_icmp .ge 18, 3) := by decide +kernel
theorem dX7_findOrder_84 : decode cX7_findOrder 84 = .ok (.iload_n 1, 1) := by decide +kernel
theorem dX7_findOrder_85 : decode cX7_findOrder 85 = .ok (.ifCond .eq 10, 3) := by decide +kernel
theorem dX7_findOrder_88 : decode cX7_findOrder 88 = .ok (.aload_n 0, 1) := by decide +kernel
theorem dX7_findOrder_89 : decode cX7_findOrder 89 = .ok (.invokevirtual 275, 3) := by decide +kernel
theorem dX7_findOrder_92 : decode cX7_findOrder 92 = .ok (.ifCond .eq 7, 3) := by decide +kernel
theorem dX7_findOrder_95 : decode cX7_findOrder 95 = .ok (.iconst 1, 1) := by decide +kernel
theorem dX7_findOrder_96 : decode cX7_findOrder 96 = .ok (.goto 4, 3) := by decide +kernel
theorem dX7_findOrder_99 : decode cX7_findOrder 99 = .ok (.iconst 0, 1) := by decide +kernel
theorem dX7_findOrder_100 : decode cX7_findOrder 100 = .ok (.istore 7, 2) := by decide +kernel
theorem dX7_findOrder_102 : decode cX7_findOrder 102 = .ok (.iload_n 1, 1) := by decide +kernel
theorem dX7_findOrder_103 : decode cX7_findOrder 103 = .ok (.ifCond .eq 38, 3) := by decide +kernel
theorem dX7_findOrder_106 : decode cX7_findOrder 106 = .ok (.iload 5, 2) := by decide +kernel
theorem dX7_findOrder_108 : decode cX7_findOrder 108 = .ok (.aload_n 0, 1) := by decide +kernel
theorem dX7_findOrder_109 : decode cX7_findOrder 109 = .ok (.getfield 266, 3) := by decide +kernel
theorem dX7_findOrder_112 : decode cX7_findOrder 112 = .ok (.if_icmp .lt 21, 3) := by decide +kernel
theorem dX7_findOrder_115 : decode cX7_findOrder 115 = .ok (.iload 5, 2) := by decide +kernel
theorem dX7_findOrder_117 : decode cX7_findOrder 117 = .ok (.aload_n 0, 1) := by decide +kernel
theorem dX7_findOrder_118 : decode cX7_findOrder 118 = .ok (.getfield 266, 3) := by decide +kernel
theorem dX7_findOrder_121 : decode cX7_findOrder 121 = .ok (.if_icmp .ne 16, 3) := by decide +kernel
theorem dX7_findOrder_124 : decode cX7_findOrder 124 = .ok (.iload 6, 2) := by decide +kernel
theorem dX7_findOrder_126 : decode cX7_findOrder 126 = .ok (.aload_n 0, 1) := by decide +kernel
theorem dX7_findOrder_127 : decode cX7_findOrder 127 = .ok (.getfield 263, 3) := by decide +kernel
theorem dX7_findOrder_130 : decode cX7_findOrder 130 = .ok (.if_icmp .ge 7, 3) := by decide +kernel
theorem dX7_findOrder_133 : decode cX7_findOrder 133 = .ok (.iconst 1, 1) := by decide +kernel
theorem dX7_findOrder_134 : decode cX7_findOrder 134 = .ok (.goto 39, 3) := by decide +kernel
theorem dX7_findOrder_137 : decode cX7_findOrder 137 = .ok (.iconst 0, 1) := by decide +kernel
theorem dX7_findOrder_138 : decode cX7_findOrder 138 = .ok (.goto 35, 3) := by decide +kernel
theorem dX7_findOrder_141 : decode cX7_findOrder 141 = .ok (.iload 6, 2) := by decide +kernel
theorem dX7_findOrder_143 : decode cX7_findOrder 143 = .ok (.aload_n 0, 1) := by decide +kernel
theorem dX7_findOrder_144 : decode cX7_findOrder 144 = .ok (.getfield 263, 3) := by decide +kernel
theorem dX7_findOrder_147 : decode cX7_findOrder 147 = .ok (.if_icmp .lt 21, 3) := by decide +kernel
theorem dX7_findOrder_150 : decode cX7_findOrder 150 = .ok (.iload 6, 2) := by decide +kernel
theorem dX7_findOrder_152 : decode cX7_findOrder 152 = .ok (.aload_n 0, 1) := by decide +kernel
theorem dX7_findOrder_153 : decode cX7_findOrder 153 = .ok (.getfield 263, 3) := by decide +kernel
theorem dX7_findOrder_156 : decode cX7_findOrder 156 = .ok (.if_icmp .ne 16, 3) := by decide +kernel
theorem dX7_findOrder_159 : decode cX7_findOrder 159 = .ok (.iload 5, 2) := by decide +kernel
theorem dX7_findOrder_161 : decode cX7_findOrder 161 = .ok (.aload_n 0, 1) := by decide +kernel
theorem dX7_findOrder_162 : decode cX7_findOrder 162 = .ok (.getfield 266, 3) := by decide +kernel
theorem dX7_findOrder_165 : decode cX7_findOrder 165 = .ok (.if_icmp .ge 7, 3) := by decide +kernel
theorem dX7_findOrder_168 : decode cX7_findOrder 168 = .ok (.iconst 1, 1) := by decide +kernel
theorem dX7_findOrder_169 : decode cX7_findOrder 169 = .ok (.goto 4, 3) := by decide +kernel
theorem dX7_findOrder_172 : decode cX7_findOrder 172 = .ok (.iconst 0, 1) := by decide +kernel
theorem dX7_findOrder_173 : decode cX7_findOrder 173 = .ok (.istore 8, 2) := by decide +kernel
theorem dX7_findOrder_175 : decode cX7_findOrder 175 = .ok (.iload 7, 2) := by decide +kernel
theorem dX7_findOrder_177 : decode cX7_findOrder 177 = .ok (.ifCond .eq 54, 3) := by decide +kernel
theorem dX7_findOrder_180 : decode cX7_findOrder 180 = .ok (.iload 8, 2) := by decide +kernel
theorem dX7_findOrder_182 : decode cX7_findOrder 182 = .ok (.ifCond .eq 49, 3) := by decide +kernel
theorem dX7_findOrder_185 : decode cX7_findOrder 185 = .ok (.iconst 1, 1) := by decide +kernel
theorem dX7_findOrder_186 : decode cX7_findOrder 186 = .ok (.istore_n 3, 1) := by decide +kernel
theorem dX7_findOrder_187 : decode cX7_findOrder 187 = .ok (.aload_n 0, 1) := by decide +kernel
theorem dX7_findOrder_188 : decode cX7_findOrder 188 = .ok (.iload 6, 2) := by decide +kernel
theorem dX7_findOrder_190 : decode cX7_findOrder 190 = .ok (.putfield 263, 3) := by decide +kernel
theorem dX7_findOrder_193 : decode cX7_findOrder 193 = .ok (.aload_n 0, 1) := by decide +kernel
theorem dX7_findOrder_194 : decode cX7_findOrder 194 = .ok (.iload 5, 2) := by decide +kernel
theorem dX7_findOrder_196 : decode cX7_findOrder 196 = .ok (.putfield 266, 3) := by decide +kernel
theorem dX7_findOrder_199 : decode cX7_findOrder 199 = .ok (.iconst 0, 1) := by decide +kernel
theorem dX7_findOrder_200 : decode cX7_findOrder 200 = .ok (.istore 9, 2) := by decide +kernel
theorem dX7_findOrder_202 : decode cX7_findOrder 202 = .ok (.iload 9, 2) := by decide +kernel
theorem dX7_findOrder_204 : decode cX7_findOrder 204 = .ok (.aload_n 0, 1) := by decide +kernel
theorem dX7_findOrder_205 : decode cX7_findOrder 205 = .ok (.getfield 97, 3) := by decide +kernel
theorem dX7_findOrder_208 : decode cX7_findOrder 208 = .ok (.if_icmp .ge 23, 3) := by decide +kernel
theorem dX7_findOrder_211 : decode cX7_findOrder 211 = .ok (.aload_n 0, 1) := by decide +kernel
theorem dX7_findOrder_212 : decode cX7_findOrder 212 = .ok (.getfield 68, 3) := by decide +kernel
theorem dX7_findOrder_215 : decode cX7_findOrder 215 = .ok (.iload 9, 2) := by decide +kernel
theorem dX7_findOrder_217 : decode cX7_findOrder 217 = .ok (.aload_n 0, 1) := by decide +kernel
theorem dX7_findOrder_218 : decode cX7_findOrder 218 = .ok (.getfield 59, 3) := by decide +kernel
theorem dX7_findOrder_221 : decode cX7_findOrder 221 = .ok (.iload 9, 2) := by decide +kernel
theorem dX7_findOrder_223 : decode cX7_findOrder 223 = .ok (.iaload, 1) := by decide +kernel
theorem dX7_findOrder_224 : decode cX7_findOrder 224 = .ok (.iastore, 1) := by decide +kernel
theorem dX7_findOrder_225 : decode cX7_findOrder 225 = .ok (.iinc 9 1, 3) := by decide +kernel
theorem dX7_findOrder_228 : decode cX7_findOrder 228 = .ok (.goto (-26), 3) := by decide +kernel
theorem dX7_findOrder_231 : decode cX7_findOrder 231 = .ok (.iinc 4 1, 3) := by decide +kernel
theorem dX7_findOrder_234 : decode cX7_findOrder 234 = .ok (.goto (-190), 3) := by decide +kernel
theorem dX7_findOrder_237 : decode cX7_findOrder 237 = .ok (.iload_n 3, 1) := by decide +kernel
theorem dX7_findOrder_238 : decode cX7_findOrder 238 = .ok (.ireturn, 1) := by decide +kernel
theorem dX7_shortest_0 : decode cX7_shortest 0 = .ok (.aload_n 0, 1) := by decide +kernel
theorem dX7_shortest_1 : decode cX7_shortest 1 = .ok (.getfield 197, 3) := by decide +kernel
theorem dX7_shortest_4 : decode cX7_shortest 4 = .ok (.iconst 2, 1) := by decide +kernel
theorem dX7_shortest_5 : decode cX7_shortest 5 = .ok (.if_icmp .eq 10, 3) := by decide +kernel
theorem dX7_shortest_8 : decode cX7_shortest 8 = .ok (.aload_n 0, 1) := by decide +kernel
theorem dX7_shortest_9 : decode cX7_shortest 9 = .ok (.getfield 97, 3) := by decide +kernel
theorem dX7_shortest_12 : decode cX7_shortest 12 = .ok (.ifCond .ne 7, 3) := by decide +kernel
theorem dX7_shortest_15 : decode cX7_shortest 15 = .ok (.ldc_w 258, 3) := by decide +kernel
theorem dX7_shortest_18 : decode cX7_shortest 18 = .ok (.ireturn, 1) := by decide +kernel
theorem dX7_shortest_19 : decode cX7_shortest 19 = .ok (.aload_n 0, 1) := by decide +kernel
theorem dX7_shortest_20 : decode cX7_shortest 20 = .ok (.iconst 0, 1) := by decide +kernel
theorem dX7_shortest_21 : decode cX7_shortest 21 = .ok (.invokevirtual 279, 3) := by decide +kernel
theorem dX7_shortest_24 : decode cX7_shortest 24 = .ok (.istore_n 2, 1) := by decide +kernel
theorem dX7_shortest_25 : decode cX7_shortest 25 = .ok (.iload_n 2, 1) := by decide +kernel
theorem dX7_shortest_26 : decode cX7_shortest 26 = .ok (.ifCond .ne 7, 3) := by decide +kernel
theorem dX7_shortest_29 : decode cX7_shortest 29 = .ok (.iconst (-1), 1) := by decide +kernel
theorem dX7_shortest_30 : decode cX7_shortest 30 = .ok (.goto 54, 3) := by decide +kernel
theorem dX7_shortest_33 : decode cX7_shortest 33 = .ok (.iload_n 1, 1) := by decide +kernel
theorem dX7_shortest_34 : decode cX7_shortest 34 = .ok (.iconst (-1), 1) := by decide +kernel
theorem dX7_shortest_35 : decode cX7_shortest 35 = .ok (.if_icmp .ne 10, 3) := by decide +kernel
theorem dX7_shortest_38 : decode cX7_shortest 38 = .ok (.aload_n 0, 1) := by decide +kernel
theorem dX7_shortest_39 : decode cX7_shortest 39 = .ok (.getfield 263, 3) := by decide +kernel
theorem dX7_shortest_42 : decode cX7_shortest 42 = .ok (.goto 42, 3) := by decide +kernel
theorem dX7_shortest_45 : decode cX7_shortest 45 = .ok (.iload_n 1, 1) := by decide +kernel
theorem dX7_shortest_46 : decode cX7_shortest 46 = .ok (.bipush (-2), 2) := by decide +kernel
theorem dX7_shortest_48 : decode cX7_shortest 48 = .ok (.if_icmp .ne 10, 3) := by decide +kernel
theorem dX7_shortest_51 : decode cX7_shortest 51 = .ok (.aload_n 0, 1) := by decide +kernel
theorem dX7_shortest_52 : decode cX7_shortest 52 = .ok (.getfield 266, 3) := by decide +kernel
theorem dX7_shortest_55 : decode cX7_shortest 55 = .ok (.goto 29, 3) := by decide +kernel
theorem dX7_shortest_58 : decode cX7_shortest 58 = .ok (.iload_n 1, 1) := by decide +kernel
theorem dX7_shortest_59 : decode cX7_shortest 59 = .ok (.i2l, 1) := by decide +kernel
theorem dX7_shortest_60 : decode cX7_shortest 60 = .ok (.lconst 0, 1) := by decide +kernel
theorem dX7_shortest_61 : decode cX7_shortest 61 = .ok (.aload_n 0, 1) := by decide +kernel
theorem dX7_shortest_62 : decode cX7_shortest 62 = .ok (.getfield 97, 3) := by decide +kernel
theorem dX7_shortest_65 : decode cX7_shortest 65 = .ok (.iconst 1, 1) := by decide +kernel
theorem dX7_shortest_66 : decode cX7_shortest 66 = .ok (.isub, 1) := by decide +kernel
theorem dX7_shortest_67 : decode cX7_shortest 67 = .ok (.i2l, 1) := by decide +kernel
theorem dX7_shortest_68 : decode cX7_shortest 68 = .ok (.invokestatic 93, 3) := by decide +kernel
theorem dX7_shortest_71 : decode cX7_shortest 71 = .ok (.ifCond .eq 12, 3) := by decide +kernel
theorem dX7_shortest_74 : decode cX7_shortest 74 = .ok (.aload_n 0, 1) := by decide +kernel
theorem dX7_shortest_75 : decode cX7_shortest 75 = .ok (.getfield 68, 3) := by decide +kernel
theorem dX7_shortest_78 : decode cX7_shortest 78 = .ok (.iload_n 1, 1) := by decide +kernel
theorem dX7_shortest_79 : decode cX7_shortest 79 = .ok (.iaload, 1) := by decide +kernel
theorem dX7_shortest_80 : decode cX7_shortest 80 = .ok (.goto 4, 3) := by decide +kernel
theorem dX7_shortest_83 : decode cX7_shortest 83 = .ok (.iconst (-1), 1) := by decide +kernel
theorem dX7_shortest_84 : decode cX7_shortest 84 = .ok (.ireturn, 1) := by decide +kernel
theorem dX7_inTime_0 : decode cX7_inTime 0 = .ok (.aload_n 0, 1) := by decide +kernel
theorem dX7_inTime_1 : decode cX7_inTime 1 = .ok (.getfield 197, 3) := by decide +kernel
theorem dX7_inTime_4 : decode cX7_inTime 4 = .ok (.iconst 2, 1) := by decide +kernel
theorem dX7_inTime_5 : decode cX7_inTime 5 = .ok (.if_icmp .eq 10, 3) := by decide +kernel
theorem dX7_inTime_8 : decode cX7_inTime 8 = .ok (.aload_n 0, 1) := by decide +kernel
theorem dX7_inTime_9 : decode cX7_inTime 9 = .ok (.getfield 97, 3) := by decide +kernel
theorem dX7_inTime_12 : decode cX7_inTime 12 = .ok (.ifCond .ne 7, 3) := by decide +kernel
theorem dX7_inTime_15 : decode cX7_inTime 15 = .ok (.ldc_w 258, 3) := by decide +kernel
theorem dX7_inTime_18 : decode cX7_inTime 18 = .ok (.ireturn, 1) := by decide +kernel
theorem dX7_inTime_19 : decode cX7_inTime 19 = .ok (.aload_n 0, 1) := by decide +kernel
theorem dX7_inTime_20 : decode cX7_inTime 20 = .ok (.iconst 1, 1) := by decide +kernel
theorem dX7_inTime_21 : decode cX7_inTime 21 = .ok (.invokevirtual 279, 3) := by decide +kernel
theorem dX7_inTime_24 : decode cX7_inTime 24 = .ok (.istore_n 2, 1) := by decide +kernel
theorem dX7_inTime_25 : decode cX7_inTime 25 = .ok (.iload_n 2, 1) := by decide +kernel
theorem dX7_inTime_26 : decode cX7_inTime 26 = .ok (.ifCond .ne 7, 3) := by decide +kernel
theorem dX7_inTime_29 : decode cX7_inTime 29 = .ok (.iconst (-1), 1) := by decide +kernel
theorem dX7_inTime_30 : decode cX7_inTime 30 = .ok (.goto 54, 3) := by decide +kernel
theorem dX7_inTime_33 : decode cX7_inTime 33 = .ok (.iload_n 1, 1) := by decide +kernel
theorem dX7_inTime_34 : decode cX7_inTime 34 = .ok (.iconst (-1), 1) := by decide +kernel
theorem dX7_inTime_35 : decode cX7_inTime 35 = .ok (.if_icmp .ne 10, 3) := by decide +kernel
theorem dX7_inTime_38 : decode cX7_inTime 38 = .ok (.aload_n 0, 1) := by decide +kernel
theorem dX7_inTime_39 : decode cX7_inTime 39 = .ok (.getfield 266, 3) := by decide +kernel
theorem dX7_inTime_42 : decode cX7_inTime 42 = .ok (.goto 42, 3) := by decide +kernel
theorem dX7_inTime_45 : decode cX7_inTime 45 = .ok (.iload_n 1, 1) := by decide +kernel
theorem dX7_inTime_46 : decode cX7_inTime 46 = .ok (.bipush (-2), 2) := by decide +kernel
theorem dX7_inTime_48 : decode cX7_inTime 48 = .ok (.if_icmp .ne 10, 3) := by decide +kernel
theorem dX7_inTime_51 : decode cX7_inTime 51 = .ok (.aload_n 0, 1) := by decide +kernel
theorem dX7_inTime_52 : decode cX7_inTime 52 = .ok (.getfield 263, 3) := by decide +kernel
theorem dX7_inTime_55 : decode cX7_inTime 55 = .ok (.goto 29, 3) := by decide +kernel
theorem dX7_inTime_58 : decode cX7_inTime 58 = .ok (.iload_n 1, 1) := by decide +kernel
theorem dX7_inTime_59 : decode cX7_inTime 59 = .ok (.i2l, 1) := by decide +kernel
theorem dX7_inTime_60 : decode cX7_inTime 60 = .ok (.lconst 0, 1) := by decide +kernel
theorem dX7_inTime_61 : decode cX7_inTime 61 = .ok (.aload_n 0, 1) := by decide +kernel
theorem dX7_inTime_62 : decode cX7_inTime 62 = .ok (.getfield 97, 3) := by decide +kernel
theorem dX7_inTime_65 : decode cX7_inTime 65 = .ok (.iconst 1, 1) := by decide +kernel
theorem dX7_inTime_66 : decode cX7_inTime 66 = .ok (.isub, 1) := by decide +kernel
theorem dX7_inTime_67 : decode cX7_inTime 67 = .ok (.i2l, 1) := by decide +kernel
theorem dX7_inTime_68 : decode cX7_inTime 68 = .ok (.invokestatic 93, 3) := by decide +kernel
theorem dX7_inTime_71 : decode cX7_inTime 71 = .ok (.ifCond .eq 12, 3) := by decide +kernel
theorem dX7_inTime_74 : decode cX7_inTime 74 = .ok (.aload_n 0, 1) := by decide +kernel
theorem dX7_inTime_75 : decode cX7_inTime 75 = .ok (.getfield 68, 3) := by decide +kernel
theorem dX7_inTime_78 : decode cX7_inTime 78 = .ok (.iload_n 1, 1) := by decide +kernel
theorem dX7_inTime_79 : decode cX7_inTime 79 = .ok (.iaload, 1) := by decide +kernel
theorem dX7_inTime_80 : decode cX7_inTime 80 = .ok (.goto 4, 3) := by decide +kernel
theorem dX7_inTime_83 : decode cX7_inTime 83 = .ok (.iconst (-1), 1) := by decide +kernel
theorem dX7_inTime_84 : decode cX7_inTime 84 = .ok (.ireturn, 1) := by decide +kernel
theorem dX7_answerOf_0 : decode cX7_answerOf 0 = .ok (.aload_n 0, 1) := by decide +kernel
theorem dX7_answerOf_1 : decode cX7_answerOf 1 = .ok (.getfield 28, 3) := by decide +kernel
theorem dX7_answerOf_4 : decode cX7_answerOf 4 = .ok (.iload_n 1, 1) := by decide +kernel
theorem dX7_answerOf_5 : decode cX7_answerOf 5 = .ok (.iaload, 1) := by decide +kernel
theorem dX7_answerOf_6 : decode cX7_answerOf 6 = .ok (.istore_n 2, 1) := by decide +kernel
theorem dX7_answerOf_7 : decode cX7_answerOf 7 = .ok (.iconst 0, 1) := by decide +kernel
theorem dX7_answerOf_8 : decode cX7_answerOf 8 = .ok (.istore_n 3, 1) := by decide +kernel
theorem dX7_answerOf_9 : decode cX7_answerOf 9 = .ok (.ldc_w 283, 3) := by decide +kernel
theorem dX7_answerOf_12 : decode cX7_answerOf 12 = .ok (.istore 4, 2) := by decide +kernel
theorem dX7_answerOf_14 : decode cX7_answerOf 14 = .ok (.iconst 0, 1) := by decide +kernel
theorem dX7_answerOf_15 : decode cX7_answerOf 15 = .ok (.istore 5, 2) := by decide +kernel
theorem dX7_answerOf_17 : decode cX7_answerOf 17 = .ok (.iload 5, 2) := by decide +kernel
theorem dX7_answerOf_19 : decode cX7_answerOf 19 = .ok (.bipush 9, 2) := by decide +kernel
theorem dX7_answerOf_21 : decode cX7_answerOf 21 = .ok (.if_icmp .gt 60, 3) := by decide +kernel
theorem dX7_answerOf_24 : decode cX7_answerOf 24 = .ok (.aload_n 0, 1) := by decide +kernel
theorem dX7_answerOf_25 : decode cX7_answerOf 25 = .ok (.getfield 28, 3) := by decide +kernel
theorem dX7_answerOf_28 : decode cX7_answerOf 28 = .ok (.iload_n 1, 1) := by decide +kernel
theorem dX7_answerOf_29 : decode cX7_answerOf 29 = .ok (.iload 5, 2) := by decide +kernel
theorem dX7_answerOf_31 : decode cX7_answerOf 31 = .ok (.iastore, 1) := by decide +kernel
theorem dX7_answerOf_32 : decode cX7_answerOf 32 = .ok (.aload_n 0, 1) := by decide +kernel
theorem dX7_answerOf_33 : decode cX7_answerOf 33 = .ok (.invokevirtual 216, 3) := by decide +kernel
theorem dX7_answerOf_36 : decode cX7_answerOf 36 = .ok (.istore 6, 2) := by decide +kernel
theorem dX7_answerOf_38 : decode cX7_answerOf 38 = .ok (.aload_n 0, 1) := by decide +kernel
theorem dX7_answerOf_39 : decode cX7_answerOf 39 = .ok (.iload_n 1, 1) := by decide +kernel
theorem dX7_answerOf_40 : decode cX7_answerOf 40 = .ok (.invokevirtual 219, 3) := by decide +kernel
theorem dX7_answerOf_43 : decode cX7_answerOf 43 = .ok (.istore 7, 2) := by decide +kernel
theorem dX7_answerOf_45 : decode cX7_answerOf 45 = .ok (.iload 7, 2) := by decide +kernel
theorem dX7_answerOf_47 : decode cX7_answerOf 47 = .ok (.iload 4, 2) := by decide +kernel
theorem dX7_answerOf_49 : decode cX7_answerOf 49 = .ok (.if_icmp .le 8, 3) := by decide +kernel
theorem dX7_answerOf_52 : decode cX7_answerOf 52 = .ok (.iload 5, 2) := by decide +kernel
theorem dX7_answerOf_54 : decode cX7_answerOf 54 = .ok (.goto 4, 3) := by decide +kernel
theorem dX7_answerOf_57 : decode cX7_answerOf 57 = .ok (.iload_n 3, 1) := by decide +kernel
theorem dX7_answerOf_58 : decode cX7_answerOf 58 = .ok (.istore_n 3, 1) := by decide +kernel
theorem dX7_answerOf_59 : decode cX7_answerOf 59 = .ok (.iload 7, 2) := by decide +kernel
theorem dX7_answerOf_61 : decode cX7_answerOf 61 = .ok (.iload 4, 2) := by decide +kernel
theorem dX7_answerOf_63 : decode cX7_answerOf 63 = .ok (.if_icmp .le 8, 3) := by decide +kernel
theorem dX7_answerOf_66 : decode cX7_answerOf 66 = .ok (.iload 7, 2) := by decide +kernel
theorem dX7_answerOf_68 : decode cX7_answerOf 68 = .ok (.goto 5, 3) := by decide +kernel
theorem dX7_answerOf_71 : decode cX7_answerOf 71 = .ok (.iload 4, 2) := by decide +kernel
theorem dX7_answerOf_73 : decode cX7_answerOf 73 = .ok (.istore 4, 2) := by decide +kernel
theorem dX7_answerOf_75 : decode cX7_answerOf 75 = .ok (.iinc 5 1, 3) := by decide +kernel
theorem dX7_answerOf_78 : decode cX7_answerOf 78 = .ok (.goto (-61), 3) := by decide +kernel
theorem dX7_answerOf_81 : decode cX7_answerOf 81 = .ok (.aload_n 0, 1) := by decide +kernel
theorem dX7_answerOf_82 : decode cX7_answerOf 82 = .ok (.getfield 28, 3) := by decide +kernel
theorem dX7_answerOf_85 : decode cX7_answerOf 85 = .ok (.iload_n 1, 1) := by decide +kernel
theorem dX7_answerOf_86 : decode cX7_answerOf 86 = .ok (.iload_n 2, 1) := by decide +kernel
theorem dX7_answerOf_87 : decode cX7_answerOf 87 = .ok (.iastore, 1) := by decide +kernel
theorem dX7_answerOf_88 : decode cX7_answerOf 88 = .ok (.iload_n 3, 1) := by decide +kernel
theorem dX7_answerOf_89 : decode cX7_answerOf 89 = .ok (.ireturn, 1) := by decide +kernel
theorem dX7_answer_0 : decode cX7_answer 0 = .ok (.aload_n 0, 1) := by decide +kernel
theorem dX7_answer_1 : decode cX7_answer 1 = .ok (.iload_n 1, 1) := by decide +kernel
theorem dX7_answer_2 : decode cX7_answer 2 = .ok (.invokevirtual 236, 3) := by decide +kernel
theorem dX7_answer_5 : decode cX7_answer 5 = .ok (.ifCond .eq 11, 3) := by decide +kernel
theorem dX7_answer_8 : decode cX7_answer 8 = .ok (.aload_n 0, 1) := by decide +kernel
theorem dX7_answer_9 : decode cX7_answer 9 = .ok (.iload_n 1, 1) := by decide +kernel
theorem dX7_answer_10 : decode cX7_answer 10 = .ok (.invokevirtual 284, 3) := by decide +kernel
theorem dX7_answer_13 : decode cX7_answer 13 = .ok (.goto 5, 3) := by decide +kernel
theorem dX7_answer_16 : decode cX7_answer 16 = .ok (.ldc 235, 2) := by decide +kernel
theorem dX7_answer_18 : decode cX7_answer 18 = .ok (.ireturn, 1) := by decide +kernel
theorem dX7_roundChanges_0 : decode cX7_roundChanges 0 = .ok (.iconst 0, 1) := by decide +kernel
theorem dX7_roundChanges_1 : decode cX7_roundChanges 1 = .ok (.istore_n 1, 1) := by decide +kernel
theorem dX7_roundChanges_2 : decode cX7_roundChanges 2 = .ok (.iconst 0, 1) := by decide +kernel
theorem dX7_roundChanges_3 : decode cX7_roundChanges 3 = .ok (.istore_n 2, 1) := by decide +kernel
theorem dX7_roundChanges_4 : decode cX7_roundChanges 4 = .ok (.iload_n 2, 1) := by decide +kernel
theorem dX7_roundChanges_5 : decode cX7_roundChanges 5 = .ok (.aload_n 0, 1) := by decide +kernel
theorem dX7_roundChanges_6 : decode cX7_roundChanges 6 = .ok (.getfield 97, 3) := by decide +kernel
theorem dX7_roundChanges_9 : decode cX7_roundChanges 9 = .ok (.if_icmp .ge 42, 3) := by decide +kernel
theorem dX7_roundChanges_12 : decode cX7_roundChanges 12 = .ok (.aload_n 0, 1) := by decide +kernel
theorem dX7_roundChanges_13 : decode cX7_roundChanges 13 = .ok (.iload_n 2, 1) := by decide +kernel
theorem dX7_roundChanges_14 : decode cX7_roundChanges 14 = .ok (.invokevirtual 284, 3) := by decide +kernel
theorem dX7_roundChanges_17 : decode cX7_roundChanges 17 = .ok (.istore_n 3, 1) := by decide +kernel
theorem dX7_roundChanges_18 : decode cX7_roundChanges 18 = .ok (.iload_n 1, 1) := by decide +kernel
theorem dX7_roundChanges_19 : decode cX7_roundChanges 19 = .ok (.ifCond .ne 13, 3) := by decide +kernel
theorem dX7_roundChanges_22 : decode cX7_roundChanges 22 = .ok (.iload_n 3, 1) := by decide +kernel
theorem dX7_roundChanges_23 : decode cX7_roundChanges 23 = .ok (.aload_n 0, 1) := by decide +kernel
theorem dX7_roundChanges_24 : decode cX7_roundChanges 24 = .ok (.getfield 28, 3) := by decide +kernel
theorem dX7_roundChanges_27 : decode cX7_roundChanges 27 = .ok (.iload_n 2, 1) := by decide +kernel
theorem dX7_roundChanges_28 : decode cX7_roundChanges 28 = .ok (.iaload, 1) := by decide +kernel
theorem dX7_roundChanges_29 : decode cX7_roundChanges 29 = .ok (.if_icmp .eq 7, 3) := by decide +kernel
theorem dX7_roundChanges_32 : decode cX7_roundChanges 32 = .ok (.iconst 1, 1) := by decide +kernel
theorem dX7_roundChanges_33 : decode cX7_roundChanges 33 = .ok (.goto 4, 3) := by decide +kernel
theorem dX7_roundChanges_36 : decode cX7_roundChanges 36 = .ok (.iconst 0, 1) := by decide +kernel
theorem dX7_roundChanges_37 : decode cX7_roundChanges 37 = .ok (.istore_n 1, 1) := by decide +kernel
theorem dX7_roundChanges_38 : decode cX7_roundChanges 38 = .ok (.aload_n 0, 1) := by decide +kernel
theorem dX7_roundChanges_39 : decode cX7_roundChanges 39 = .ok (.getfield 28, 3) := by decide +kernel
theorem dX7_roundChanges_42 : decode cX7_roundChanges 42 = .ok (.iload_n 2, 1) := by decide +kernel
theorem dX7_roundChanges_43 : decode cX7_roundChanges 43 = .ok (.iload_n 3, 1) := by decide +kernel
theorem dX7_roundChanges_44 : decode cX7_roundChanges 44 = .ok (.iastore, 1) := by decide +kernel
theorem dX7_roundChanges_45 : decode cX7_roundChanges 45 = .ok (.iinc 2 1, 3) := by decide +kernel
theorem dX7_roundChanges_48 : decode cX7_roundChanges 48 = .ok (.goto (-44), 3) := by decide +kernel
theorem dX7_roundChanges_51 : decode cX7_roundChanges 51 = .ok (.iload_n 1, 1) := by decide +kernel
theorem dX7_roundChanges_52 : decode cX7_roundChanges 52 = .ok (.ireturn, 1) := by decide +kernel
theorem dX7_goToRest_0 : decode cX7_goToRest 0 = .ok (.iconst 0, 1) := by decide +kernel
theorem dX7_goToRest_1 : decode cX7_goToRest 1 = .ok (.istore_n 1, 1) := by decide +kernel
theorem dX7_goToRest_2 : decode cX7_goToRest 2 = .ok (.iload_n 1, 1) := by decide +kernel
theorem dX7_goToRest_3 : decode cX7_goToRest 3 = .ok (.aload_n 0, 1) := by decide +kernel
theorem dX7_goToRest_4 : decode cX7_goToRest 4 = .ok (.getfield 97, 3) := by decide +kernel
theorem dX7_goToRest_7 : decode cX7_goToRest 7 = .ok (.if_icmp .ge 21, 3) := by decide +kernel
theorem dX7_goToRest_10 : decode cX7_goToRest 10 = .ok (.aload_n 0, 1) := by decide +kernel
theorem dX7_goToRest_11 : decode cX7_goToRest 11 = .ok (.getfield 71, 3) := by decide +kernel
theorem dX7_goToRest_14 : decode cX7_goToRest 14 = .ok (.iload_n 1, 1) := by decide +kernel
theorem dX7_goToRest_15 : decode cX7_goToRest 15 = .ok (.aload_n 0, 1) := by decide +kernel
theorem dX7_goToRest_16 : decode cX7_goToRest 16 = .ok (.getfield 28, 3) := by decide +kernel
theorem dX7_goToRest_19 : decode cX7_goToRest 19 = .ok (.iload_n 1, 1) := by decide +kernel
theorem dX7_goToRest_20 : decode cX7_goToRest 20 = .ok (.iaload, 1) := by decide +kernel
theorem dX7_goToRest_21 : decode cX7_goToRest 21 = .ok (.iastore, 1) := by decide +kernel
theorem dX7_goToRest_22 : decode cX7_goToRest 22 = .ok (.iinc 1 1, 3) := by decide +kernel
theorem dX7_goToRest_25 : decode cX7_goToRest 25 = .ok (.goto (-23), 3) := by decide +kernel
theorem dX7_goToRest_28 : decode cX7_goToRest 28 = .ok (.iconst 0, 1) := by decide +kernel
theorem dX7_goToRest_29 : decode cX7_goToRest 29 = .ok (.istore_n 1, 1) := by decide +kernel
theorem dX7_goToRest_30 : decode cX7_goToRest 30 = .ok (.iload_n 1, 1) := by decide +kernel
theorem dX7_goToRest_31 : decode cX7_goToRest 31 = .ok (.bipush 30, 2) := by decide +kernel
theorem dX7_goToRest_33 : decode cX7_goToRest 33 = .ok (.if_icmp .ge 16, 3) := by decide +kernel
theorem dX7_goToRest_36 : decode cX7_goToRest 36 = .ok (.aload_n 0, 1) := by decide +kernel
theorem dX7_goToRest_37 : decode cX7_goToRest 37 = .ok (.invokevirtual 287, 3) := by decide +kernel
theorem dX7_goToRest_40 : decode cX7_goToRest 40 = .ok (.ifCond .eq 9, 3) := by decide +kernel
theorem dX7_goToRest_43 : decode cX7_goToRest 43 = .ok (.iinc 1 1, 3) := by decide +kernel
theorem dX7_goToRest_46 : decode cX7_goToRest 46 = .ok (.goto (-16), 3) := by decide +kernel
theorem dX7_goToRest_49 : decode cX7_goToRest 49 = .ok (.iload_n 1, 1) := by decide +kernel
theorem dX7_goToRest_50 : decode cX7_goToRest 50 = .ok (.bipush 30, 2) := by decide +kernel
theorem dX7_goToRest_52 : decode cX7_goToRest 52 = .ok (.if_icmp .ne 7, 3) := by decide +kernel
theorem dX7_goToRest_55 : decode cX7_goToRest 55 = .ok (.iconst (-1), 1) := by decide +kernel
theorem dX7_goToRest_56 : decode cX7_goToRest 56 = .ok (.goto 4, 3) := by decide +kernel
theorem dX7_goToRest_59 : decode cX7_goToRest 59 = .ok (.iload_n 1, 1) := by decide +kernel
theorem dX7_goToRest_60 : decode cX7_goToRest 60 = .ok (.ireturn, 1) := by decide +kernel
theorem dX7_goBackFromRest_0 : decode cX7_goBackFromRest 0 = .ok (.iconst 0, 1) := by decide +kernel
theorem dX7_goBackFromRest_1 : decode cX7_goBackFromRest 1 = .ok (.istore_n 1, 1) := by decide +kernel
theorem dX7_goBackFromRest_2 : decode cX7_goBackFromRest 2 = .ok (.iload_n 1, 1) := by decide +kernel
theorem dX7_goBackFromRest_3 : decode cX7_goBackFromRest 3 = .ok (.aload_n 0, 1) := by decide +kernel
theorem dX7_goBackFromRest_4 : decode cX7_goBackFromRest 4 = .ok (.getfield 97, 3) := by decide +kernel
theorem dX7_goBackFromRest_7 : decode cX7_goBackFromRest 7 = .ok (.if_icmp .ge 21, 3) := by decide +kernel
theorem dX7_goBackFromRest_10 : decode cX7_goBackFromRest 10 = .ok (.aload_n 0, 1) := by decide +kernel
theorem dX7_goBackFromRest_11 : decode cX7_goBackFromRest 11 = .ok (.getfield 28, 3) := by decide +kernel
theorem dX7_goBackFromRest_14 : decode cX7_goBackFromRest 14 = .ok (.iload_n 1, 1) := by decide +kernel
theorem dX7_goBackFromRest_15 : decode cX7_goBackFromRest 15 = .ok (.aload_n 0, 1) := by decide +kernel
theorem dX7_goBackFromRest_16 : decode cX7_goBackFromRest 16 = .ok (.getfield 71, 3) := by decide +kernel
theorem dX7_goBackFromRest_19 : decode cX7_goBackFromRest 19 = .ok (.iload_n 1, 1) := by decide +kernel
theorem dX7_goBackFromRest_20 : decode cX7_goBackFromRest 20 = .ok (.iaload, 1) := by decide +kernel
theorem dX7_goBackFromRest_21 : decode cX7_goBackFromRest 21 = .ok (.iastore, 1) := by decide +kernel
theorem dX7_goBackFromRest_22 : decode cX7_goBackFromRest 22 = .ok (.iinc 1 1, 3) := by decide +kernel
theorem dX7_goBackFromRest_25 : decode cX7_goBackFromRest 25 = .ok (.goto (-23), 3) := by decide +kernel
theorem dX7_goBackFromRest_28 : decode cX7_goBackFromRest 28 = .ok (.return_, 1) := by decide +kernel
theorem dX7_rests_0 : decode cX7_rests 0 = .ok (.iload_n 1, 1) := by decide +kernel
theorem dX7_rests_1 : decode cX7_rests 1 = .ok (.i2l, 1) := by decide +kernel
theorem dX7_rests_2 : decode cX7_rests 2 = .ok (.ldc2_w 290, 3) := by decide +kernel
theorem dX7_rests_5 : decode cX7_rests 5 = .ok (.ldc2_w 292, 3) := by decide +kernel
theorem dX7_rests_8 : decode cX7_rests 8 = .ok (.invokestatic 93, 3) := by decide +kernel
theorem dX7_rests_11 : decode cX7_rests 11 = .ok (.ifCond .ne 14, 3) := by decide +kernel
theorem dX7_rests_14 : decode cX7_rests 14 = .ok (.aload_n 0, 1) := by decide +kernel
theorem dX7_rests_15 : decode cX7_rests 15 = .ok (.iload_n 1, 1) := by decide +kernel
theorem dX7_rests_16 : decode cX7_rests 16 = .ok (.invokevirtual 236, 3) := by decide +kernel
theorem dX7_rests_19 : decode cX7_rests 19 = .ok (.ifCond .ne 6, 3) := by decide +kernel
theorem dX7_rests_22 : decode cX7_rests 22 = .ok (.ldc 235, 2) := by decide +kernel
theorem dX7_rests_24 : decode cX7_rests 24 = .ok (.ireturn, 1) := by decide +kernel
theorem dX7_rests_25 : decode cX7_rests 25 = .ok (.aload_n 0, 1) := by decide +kernel
theorem dX7_rests_26 : decode cX7_rests 26 = .ok (.invokevirtual 294, 3) := by decide +kernel
theorem dX7_rests_29 : decode cX7_rests 29 = .ok (.istore_n 2, 1) := by decide +kernel
theorem dX7_rests_30 : decode cX7_rests 30 = .ok (.iload_n 1, 1) := by decide +kernel
theorem dX7_rests_31 : decode cX7_rests 31 = .ok (.iconst (-1), 1) := by decide +kernel
theorem dX7_rests_32 : decode cX7_rests 32 = .ok (.if_icmp .ne 7, 3) := by decide +kernel
theorem dX7_rests_35 : decode cX7_rests 35 = .ok (.iload_n 2, 1) := by decide +kernel
theorem dX7_rests_36 : decode cX7_rests 36 = .ok (.goto 35, 3) := by decide +kernel
theorem dX7_rests_39 : decode cX7_rests 39 = .ok (.iload_n 1, 1) := by decide +kernel
theorem dX7_rests_40 : decode cX7_rests 40 = .ok (.bipush (-2), 2) := by decide +kernel
theorem dX7_rests_42 : decode cX7_rests 42 = .ok (.if_icmp .ne 10, 3) := by decide +kernel
theorem dX7_rests_45 : decode cX7_rests 45 = .ok (.aload_n 0, 1) := by decide +kernel
theorem dX7_rests_46 : decode cX7_rests 46 = .ok (.invokevirtual 228, 3) := by decide +kernel
theorem dX7_rests_49 : decode cX7_rests 49 = .ok (.goto 22, 3) := by decide +kernel
theorem dX7_rests_52 : decode cX7_rests 52 = .ok (.iload_n 1, 1) := by decide +kernel
theorem dX7_rests_53 : decode cX7_rests 53 = .ok (.bipush (-3), 2) := by decide +kernel
theorem dX7_rests_55 : decode cX7_rests 55 = .ok (.if_icmp .ne 10, 3) := by decide +kernel
theorem dX7_rests_58 : decode cX7_rests 58 = .ok (.aload_n 0, 1) := by decide +kernel
theorem dX7_rests_59 : decode cX7_rests 59 = .ok (.invokevirtual 216, 3) := by decide +kernel
theorem dX7_rests_62 : decode cX7_rests 62 = .ok (.goto 9, 3) := by decide +kernel
theorem dX7_rests_65 : decode cX7_rests 65 = .ok (.aload_n 0, 1) := by decide +kernel
theorem dX7_rests_66 : decode cX7_rests 66 = .ok (.getfield 28, 3) := by decide +kernel
theorem dX7_rests_69 : decode cX7_rests 69 = .ok (.iload_n 1, 1) := by decide +kernel
theorem dX7_rests_70 : decode cX7_rests 70 = .ok (.iaload, 1) := by decide +kernel
theorem dX7_rests_71 : decode cX7_rests 71 = .ok (.istore_n 3, 1) := by decide +kernel
theorem dX7_rests_72 : decode cX7_rests 72 = .ok (.aload_n 0, 1) := by decide +kernel
theorem dX7_rests_73 : decode cX7_rests 73 = .ok (.invokevirtual 297, 3) := by decide +kernel
theorem dX7_rests_76 : decode cX7_rests 76 = .ok (.iload_n 2, 1) := by decide +kernel
theorem dX7_rests_77 : decode cX7_rests 77 = .ok (.ifCond .ge 7, 3) := by decide +kernel
theorem dX7_rests_80 : decode cX7_rests 80 = .ok (.iconst (-1), 1) := by decide +kernel
theorem dX7_rests_81 : decode cX7_rests 81 = .ok (.goto 4, 3) := by decide +kernel
theorem dX7_rests_84 : decode cX7_rests 84 = .ok (.iload_n 3, 1) := by decide +kernel
theorem dX7_rests_85 : decode cX7_rests 85 = .ok (.ireturn, 1) := by decide +kernel
theorem dX7_best_0 : decode cX7_best 0 = .ok (.aload_n 0, 1) := by decide +kernel
theorem dX7_best_1 : decode cX7_best 1 = .ok (.getfield 31, 3) := by decide +kernel
theorem dX7_best_4 : decode cX7_best 4 = .ok (.istore_n 1, 1) := by decide +kernel
theorem dX7_best_5 : decode cX7_best 5 = .ok (.iconst (-1), 1) := by decide +kernel
theorem dX7_best_6 : decode cX7_best 6 = .ok (.istore_n 2, 1) := by decide +kernel
theorem dX7_best_7 : decode cX7_best 7 = .ok (.iconst 0, 1) := by decide +kernel
theorem dX7_best_8 : decode cX7_best 8 = .ok (.istore_n 3, 1) := by decide +kernel
theorem dX7_best_9 : decode cX7_best 9 = .ok (.iconst 0, 1) := by decide +kernel
theorem dX7_best_10 : decode cX7_best 10 = .ok (.istore 4, 2) := by decide +kernel
theorem dX7_best_12 : decode cX7_best 12 = .ok (.iload 4, 2) := by decide +kernel
theorem dX7_best_14 : decode cX7_best 14 = .ok (.bipush 20, 2) := by decide +kernel
theorem dX7_best_16 : decode cX7_best 16 = .ok (.if_icmp .gt 77, 3) := by decide +kernel
theorem dX7_best_19 : decode cX7_best 19 = .ok (.aload_n 0, 1) := by decide +kernel
theorem dX7_best_20 : decode cX7_best 20 = .ok (.iload 4, 2) := by decide +kernel
theorem dX7_best_22 : decode cX7_best 22 = .ok (.putfield 31, 3) := by decide +kernel
theorem dX7_best_25 : decode cX7_best 25 = .ok (.aload_n 0, 1) := by decide +kernel
theorem dX7_best_26 : decode cX7_best 26 = .ok (.invokevirtual 294, 3) := by decide +kernel
theorem dX7_best_29 : decode cX7_best 29 = .ok (.istore 5, 2) := by decide +kernel
theorem dX7_best_31 : decode cX7_best 31 = .ok (.aload_n 0, 1) := by decide +kernel
theorem dX7_best_32 : decode cX7_best 32 = .ok (.invokevirtual 216, 3) := by decide +kernel
theorem dX7_best_35 : decode cX7_best 35 = .ok (.istore 6, 2) := by decide +kernel
theorem dX7_best_37 : decode cX7_best 37 = .ok (.aload_n 0, 1) := by decide +kernel
theorem dX7_best_38 : decode cX7_best 38 = .ok (.invokevirtual 297, 3) := by decide +kernel
theorem dX7_best_41 : decode cX7_best 41 = .ok (.iload 5, 2) := by decide +kernel
theorem dX7_best_43 : decode cX7_best 43 = .ok (.ifCond .lt 17, 3) := by decide +kernel
theorem dX7_best_46 : decode cX7_best 46 = .ok (.iload_n 2, 1) := by decide +kernel
theorem dX7_best_47 : decode cX7_best 47 = .ok (.ifCond .lt 9, 3) := by decide +kernel
theorem dX7_best_50 : decode cX7_best 50 = .ok (.iload 6, 2) := by decide +kernel
theorem dX7_best_52 : decode cX7_best 52 = .ok (.iload_n 3, 1) := by decide +kernel
theorem dX7_best_53 : decode cX7_best 53 = .ok (.if_icmp .ge 7, 3) := by decide +kernel
theorem dX7_best_56 : decode cX7_best 56 = .ok (.iconst 1, 1) := by decide +kernel
theorem dX7_best_57 : decode cX7_best 57 = .ok (.goto 4, 3) := by decide +kernel
theorem dX7_best_60 : decode cX7_best 60 = .ok (.iconst 0, 1) := by decide +kernel
theorem dX7_best_61 : decode cX7_best 61 = .ok (.istore 7, 2) := by decide +kernel
theorem dX7_best_63 : decode cX7_best 63 = .ok (.iload 7, 2) := by decide +kernel
theorem dX7_best_65 : decode cX7_best 65 = .ok (.ifCond .eq 8, 3) := by decide +kernel
theorem dX7_best_68 : decode cX7_best 68 = .ok (.iload 4, 2) := by decide +kernel
theorem dX7_best_70 : decode cX7_best 70 = .ok (.goto 4, 3) := by decide +kernel
theorem dX7_best_73 : decode cX7_best 73 = .ok (.iload_n 2, 1) := by decide +kernel
theorem dX7_best_74 : decode cX7_best 74 = .ok (.istore_n 2, 1) := by decide +kernel
theorem dX7_best_75 : decode cX7_best 75 = .ok (.iload 7, 2) := by decide +kernel
theorem dX7_best_77 : decode cX7_best 77 = .ok (.ifCond .eq 8, 3) := by decide +kernel
theorem dX7_best_80 : decode cX7_best 80 = .ok (.iload 6, 2) := by decide +kernel
theorem dX7_best_82 : decode cX7_best 82 = .ok (.goto 4, 3) := by decide +kernel
theorem dX7_best_85 : decode cX7_best 85 = .ok (.iload_n 3, 1) := by decide +kernel
theorem dX7_best_86 : decode cX7_best 86 = .ok (.istore_n 3, 1) := by decide +kernel
theorem dX7_best_87 : decode cX7_best 87 = .ok (.iinc 4 1, 3) := by decide +kernel
theorem dX7_best_90 : decode cX7_best 90 = .ok (.goto (-78), 3) := by decide +kernel
theorem dX7_best_93 : decode cX7_best 93 = .ok (.aload_n 0, 1) := by decide +kernel
theorem dX7_best_94 : decode cX7_best 94 = .ok (.iload_n 1, 1) := by decide +kernel
theorem dX7_best_95 : decode cX7_best 95 = .ok (.putfield 31, 3) := by decide +kernel
theorem dX7_best_98 : decode cX7_best 98 = .ok (.iload_n 2, 1) := by decide +kernel
theorem dX7_best_99 : decode cX7_best 99 = .ok (.ireturn, 1) := by decide +kernel
theorem dX7_agreed_0 : decode cX7_agreed 0 = .ok (.iload_n 1, 1) := by decide +kernel
theorem dX7_agreed_1 : decode cX7_agreed 1 = .ok (.i2l, 1) := by decide +kernel
theorem dX7_agreed_2 : decode cX7_agreed 2 = .ok (.lconst 1, 1) := by decide +kernel
theorem dX7_agreed_3 : decode cX7_agreed 3 = .ok (.iconst 1, 1) := by decide +kernel
theorem dX7_agreed_4 : decode cX7_agreed 4 = .ok (.aload_n 0, 1) := by decide +kernel
theorem dX7_agreed_5 : decode cX7_agreed 5 = .ok (.getfield 97, 3) := by decide +kernel
theorem dX7_agreed_8 : decode cX7_agreed 8 = .ok (.ishl, 1) := by decide +kernel
theorem dX7_agreed_9 : decode cX7_agreed 9 = .ok (.iconst 1, 1) := by decide +kernel
theorem dX7_agreed_10 : decode cX7_agreed 10 = .ok (.isub, 1) := by decide +kernel
theorem dX7_agreed_11 : decode cX7_agreed 11 = .ok (.i2l, 1) := by decide +kernel
theorem dX7_agreed_12 : decode cX7_agreed 12 = .ok (.invokestatic 93, 3) := by decide +kernel
theorem dX7_agreed_15 : decode cX7_agreed 15 = .ok (.ifCond .ne 6, 3) := by decide +kernel
theorem dX7_agreed_18 : decode cX7_agreed 18 = .ok (.ldc 235, 2) := by decide +kernel
theorem dX7_agreed_20 : decode cX7_agreed 20 = .ok (.ireturn, 1) := by decide +kernel
theorem dX7_agreed_21 : decode cX7_agreed 21 = .ok (.iload_n 2, 1) := by decide +kernel
theorem dX7_agreed_22 : decode cX7_agreed 22 = .ok (.i2l, 1) := by decide +kernel
theorem dX7_agreed_23 : decode cX7_agreed 23 = .ok (.lconst 0, 1) := by decide +kernel
theorem dX7_agreed_24 : decode cX7_agreed 24 = .ok (.lconst 1, 1) := by decide +kernel
theorem dX7_agreed_25 : decode cX7_agreed 25 = .ok (.invokestatic 93, 3) := by decide +kernel
theorem dX7_agreed_28 : decode cX7_agreed 28 = .ok (.ifCond .ne 6, 3) := by decide +kernel
theorem dX7_agreed_31 : decode cX7_agreed 31 = .ok (.ldc 102, 2) := by decide +kernel
theorem dX7_agreed_33 : decode cX7_agreed 33 = .ok (.ireturn, 1) := by decide +kernel
theorem dX7_agreed_34 : decode cX7_agreed 34 = .ok (.aload_n 0, 1) := by decide +kernel
theorem dX7_agreed_35 : decode cX7_agreed 35 = .ok (.invokevirtual 216, 3) := by decide +kernel
theorem dX7_agreed_38 : decode cX7_agreed 38 = .ok (.istore_n 3, 1) := by decide +kernel
theorem dX7_agreed_39 : decode cX7_agreed 39 = .ok (.iconst 0, 1) := by decide +kernel
theorem dX7_agreed_40 : decode cX7_agreed 40 = .ok (.istore 4, 2) := by decide +kernel
theorem dX7_agreed_42 : decode cX7_agreed 42 = .ok (.iconst 0, 1) := by decide +kernel
theorem dX7_agreed_43 : decode cX7_agreed 43 = .ok (.istore 5, 2) := by decide +kernel
theorem dX7_agreed_45 : decode cX7_agreed 45 = .ok (.iload 5, 2) := by decide +kernel
theorem dX7_agreed_47 : decode cX7_agreed 47 = .ok (.aload_n 0, 1) := by decide +kernel
theorem dX7_agreed_48 : decode cX7_agreed 48 = .ok (.getfield 97, 3) := by decide +kernel
theorem dX7_agreed_51 : decode cX7_agreed 51 = .ok (.if_icmp .ge 44, 3) := by decide +kernel
theorem dX7_agreed_54 : decode cX7_agreed 54 = .ok (.iload_n 1, 1) := by decide +kernel
theorem dX7_agreed_55 : decode cX7_agreed 55 = .ok (.iload 5, 2) := by decide +kernel
theorem dX7_agreed_57 : decode cX7_agreed 57 = .ok (.invokestatic 193, 3) := by decide +kernel
theorem dX7_agreed_60 : decode cX7_agreed 60 = .ok (.ifCond .eq 25, 3) := by decide +kernel
theorem dX7_agreed_63 : decode cX7_agreed 63 = .ok (.aload_n 0, 1) := by decide +kernel
theorem dX7_agreed_64 : decode cX7_agreed 64 = .ok (.getfield 62, 3) := by decide +kernel
theorem dX7_agreed_67 : decode cX7_agreed 67 = .ok (.iload 5, 2) := by decide +kernel
theorem dX7_agreed_69 : decode cX7_agreed 69 = .ok (.iaload, 1) := by decide +kernel
theorem dX7_agreed_70 : decode cX7_agreed 70 = .ok (.iload 4, 2) := by decide +kernel
theorem dX7_agreed_72 : decode cX7_agreed 72 = .ok (.if_icmp .le 13, 3) := by decide +kernel
theorem dX7_agreed_75 : decode cX7_agreed 75 = .ok (.aload_n 0, 1) := by decide +kernel
theorem dX7_agreed_76 : decode cX7_agreed 76 = .ok (.getfield 62, 3) := by decide +kernel
theorem dX7_agreed_79 : decode cX7_agreed 79 = .ok (.iload 5, 2) := by decide +kernel
theorem dX7_agreed_81 : decode cX7_agreed 81 = .ok (.iaload, 1) := by decide +kernel
theorem dX7_agreed_82 : decode cX7_agreed 82 = .ok (.goto 5, 3) := by decide +kernel
theorem dX7_agreed_85 : decode cX7_agreed 85 = .ok (.iload 4, 2) := by decide +kernel
theorem dX7_agreed_87 : decode cX7_agreed 87 = .ok (.istore 4, 2) := by decide +kernel
theorem dX7_agreed_89 : decode cX7_agreed 89 = .ok (.iinc 5 1, 3) := by decide +kernel
theorem dX7_agreed_92 : decode cX7_agreed 92 = .ok (.goto (-47), 3) := by decide +kernel
theorem dX7_agreed_95 : decode cX7_agreed 95 = .ok (.iconst 0, 1) := by decide +kernel
theorem dX7_agreed_96 : decode cX7_agreed 96 = .ok (.istore 5, 2) := by decide +kernel
theorem dX7_agreed_98 : decode cX7_agreed 98 = .ok (.iload 5, 2) := by decide +kernel
theorem dX7_agreed_100 : decode cX7_agreed 100 = .ok (.aload_n 0, 1) := by decide +kernel
theorem dX7_agreed_101 : decode cX7_agreed 101 = .ok (.getfield 97, 3) := by decide +kernel
theorem dX7_agreed_104 : decode cX7_agreed 104 = .ok (.if_icmp .ge 37, 3) := by decide +kernel
theorem dX7_agreed_107 : decode cX7_agreed 107 = .ok (.iload_n 1, 1) := by decide +kernel
theorem dX7_agreed_108 : decode cX7_agreed 108 = .ok (.iload 5, 2) := by decide +kernel
theorem dX7_agreed_110 : decode cX7_agreed 110 = .ok (.invokestatic 193, 3) := by decide +kernel
theorem dX7_agreed_113 : decode cX7_agreed 113 = .ok (.ifCond .eq 22, 3) := by decide +kernel
theorem dX7_agreed_116 : decode cX7_agreed 116 = .ok (.iload 4, 2) := by decide +kernel
theorem dX7_agreed_118 : decode cX7_agreed 118 = .ok (.aload_n 0, 1) := by decide +kernel
theorem dX7_agreed_119 : decode cX7_agreed 119 = .ok (.getfield 19, 3) := by decide +kernel
theorem dX7_agreed_122 : decode cX7_agreed 122 = .ok (.iload 5, 2) := by decide +kernel
theorem dX7_agreed_124 : decode cX7_agreed 124 = .ok (.iaload, 1) := by decide +kernel
theorem dX7_agreed_125 : decode cX7_agreed 125 = .ok (.isub, 1) := by decide +kernel
theorem dX7_agreed_126 : decode cX7_agreed 126 = .ok (.bipush 9, 2) := by decide +kernel
theorem dX7_agreed_128 : decode cX7_agreed 128 = .ok (.if_icmp .le 7, 3) := by decide +kernel
theorem dX7_agreed_131 : decode cX7_agreed 131 = .ok (.ldc_w 258, 3) := by decide +kernel
theorem dX7_agreed_134 : decode cX7_agreed 134 = .ok (.ireturn, 1) := by decide +kernel
theorem dX7_agreed_135 : decode cX7_agreed 135 = .ok (.iinc 5 1, 3) := by decide +kernel
theorem dX7_agreed_138 : decode cX7_agreed 138 = .ok (.goto (-40), 3) := by decide +kernel
theorem dX7_agreed_141 : decode cX7_agreed 141 = .ok (.iconst 0, 1) := by decide +kernel
theorem dX7_agreed_142 : decode cX7_agreed 142 = .ok (.istore 5, 2) := by decide +kernel
theorem dX7_agreed_144 : decode cX7_agreed 144 = .ok (.iconst 0, 1) := by decide +kernel
theorem dX7_agreed_145 : decode cX7_agreed 145 = .ok (.istore 6, 2) := by decide +kernel
theorem dX7_agreed_147 : decode cX7_agreed 147 = .ok (.iload 6, 2) := by decide +kernel
theorem dX7_agreed_149 : decode cX7_agreed 149 = .ok (.aload_n 0, 1) := by decide +kernel
theorem dX7_agreed_150 : decode cX7_agreed 150 = .ok (.getfield 97, 3) := by decide +kernel
theorem dX7_agreed_153 : decode cX7_agreed 153 = .ok (.if_icmp .ge 72, 3) := by decide +kernel
theorem dX7_agreed_156 : decode cX7_agreed 156 = .ok (.aload_n 0, 1) := by decide +kernel
theorem dX7_agreed_157 : decode cX7_agreed 157 = .ok (.getfield 71, 3) := by decide +kernel
theorem dX7_agreed_160 : decode cX7_agreed 160 = .ok (.iload 6, 2) := by decide +kernel
theorem dX7_agreed_162 : decode cX7_agreed 162 = .ok (.aload_n 0, 1) := by decide +kernel
theorem dX7_agreed_163 : decode cX7_agreed 163 = .ok (.getfield 28, 3) := by decide +kernel
theorem dX7_agreed_166 : decode cX7_agreed 166 = .ok (.iload 6, 2) := by decide +kernel
theorem dX7_agreed_168 : decode cX7_agreed 168 = .ok (.iaload, 1) := by decide +kernel
theorem dX7_agreed_169 : decode cX7_agreed 169 = .ok (.iastore, 1) := by decide +kernel
theorem dX7_agreed_170 : decode cX7_agreed 170 = .ok (.iload_n 1, 1) := by decide +kernel
theorem dX7_agreed_171 : decode cX7_agreed 171 = .ok (.iload 6, 2) := by decide +kernel
theorem dX7_agreed_173 : decode cX7_agreed 173 = .ok (.invokestatic 193, 3) := by decide +kernel
theorem dX7_agreed_176 : decode cX7_agreed 176 = .ok (.ifCond .eq 43, 3) := by decide +kernel
theorem dX7_agreed_179 : decode cX7_agreed 179 = .ok (.iload 5, 2) := by decide +kernel
theorem dX7_agreed_181 : decode cX7_agreed 181 = .ok (.iload 4, 2) := by decide +kernel
theorem dX7_agreed_183 : decode cX7_agreed 183 = .ok (.aload_n 0, 1) := by decide +kernel
theorem dX7_agreed_184 : decode cX7_agreed 184 = .ok (.getfield 19, 3) := by decide +kernel
theorem dX7_agreed_187 : decode cX7_agreed 187 = .ok (.iload 6, 2) := by decide +kernel
theorem dX7_agreed_189 : decode cX7_agreed 189 = .ok (.iaload, 1) := by decide +kernel
theorem dX7_agreed_190 : decode cX7_agreed 190 = .ok (.isub, 1) := by decide +kernel
theorem dX7_agreed_191 : decode cX7_agreed 191 = .ok (.aload_n 0, 1) := by decide +kernel
theorem dX7_agreed_192 : decode cX7_agreed 192 = .ok (.getfield 28, 3) := by decide +kernel
theorem dX7_agreed_195 : decode cX7_agreed 195 = .ok (.iload 6, 2) := by decide +kernel
theorem dX7_agreed_197 : decode cX7_agreed 197 = .ok (.iaload, 1) := by decide +kernel
theorem dX7_agreed_198 : decode cX7_agreed 198 = .ok (.isub, 1) := by decide +kernel
theorem dX7_agreed_199 : decode cX7_agreed 199 = .ok (.iadd, 1) := by decide +kernel
theorem dX7_agreed_200 : decode cX7_agreed 200 = .ok (.istore 5, 2) := by decide +kernel
theorem dX7_agreed_202 : decode cX7_agreed 202 = .ok (.aload_n 0, 1) := by decide +kernel
theorem dX7_agreed_203 : decode cX7_agreed 203 = .ok (.getfield 28, 3) := by decide +kernel
theorem dX7_agreed_206 : decode cX7_agreed 206 = .ok (.iload 6, 2) := by decide +kernel
theorem dX7_agreed_208 : decode cX7_agreed 208 = .ok (.iload 4, 2) := by decide +kernel
theorem dX7_agreed_210 : decode cX7_agreed 210 = .ok (.aload_n 0, 1) := by decide +kernel
theorem dX7_agreed_211 : decode cX7_agreed 211 = .ok (.getfield 19, 3) := by decide +kernel
theorem dX7_agreed_214 : decode cX7_agreed 214 = .ok (.iload 6, 2) := by decide +kernel
theorem dX7_agreed_216 : decode cX7_agreed 216 = .ok (.iaload, 1) := by decide +kernel
theorem dX7_agreed_217 : decode cX7_agreed 217 = .ok (.isub, 1) := by decide +kernel
theorem dX7_agreed_218 : decode cX7_agreed 218 = .ok (.iastore, 1) := by decide +kernel
theorem dX7_agreed_219 : decode cX7_agreed 219 = .ok (.iinc 6 1, 3) := by decide +kernel
theorem dX7_agreed_222 : decode cX7_agreed 222 = .ok (.goto (-75), 3) := by decide +kernel
theorem dX7_agreed_225 : decode cX7_agreed 225 = .ok (.aload_n 0, 1) := by decide +kernel
theorem dX7_agreed_226 : decode cX7_agreed 226 = .ok (.invokevirtual 216, 3) := by decide +kernel
theorem dX7_agreed_229 : decode cX7_agreed 229 = .ok (.istore 6, 2) := by decide +kernel
theorem dX7_agreed_231 : decode cX7_agreed 231 = .ok (.aload_n 0, 1) := by decide +kernel
theorem dX7_agreed_232 : decode cX7_agreed 232 = .ok (.invokevirtual 297, 3) := by decide +kernel
theorem dX7_agreed_235 : decode cX7_agreed 235 = .ok (.iload_n 2, 1) := by decide +kernel
theorem dX7_agreed_236 : decode cX7_agreed 236 = .ok (.ifCond .ne 10, 3) := by decide +kernel
theorem dX7_agreed_239 : decode cX7_agreed 239 = .ok (.iload_n 3, 1) := by decide +kernel
theorem dX7_agreed_240 : decode cX7_agreed 240 = .ok (.iload 6, 2) := by decide +kernel
theorem dX7_agreed_242 : decode cX7_agreed 242 = .ok (.isub, 1) := by decide +kernel
theorem dX7_agreed_243 : decode cX7_agreed 243 = .ok (.goto 10, 3) := by decide +kernel
theorem dX7_agreed_246 : decode cX7_agreed 246 = .ok (.iload 5, 2) := by decide +kernel
theorem dX7_agreed_248 : decode cX7_agreed 248 = .ok (.aload_n 0, 1) := by decide +kernel
theorem dX7_agreed_249 : decode cX7_agreed 249 = .ok (.getfield 31, 3) := by decide +kernel
theorem dX7_agreed_252 : decode cX7_agreed 252 = .ok (.imul, 1) := by decide +kernel
theorem dX7_agreed_253 : decode cX7_agreed 253 = .ok (.ireturn, 1) := by decide +kernel
theorem dX7_two_0 : decode cX7_two 0 = .ok (.iload_n 1, 1) := by decide +kernel
theorem dX7_two_1 : decode cX7_two 1 = .ok (.i2l, 1) := by decide +kernel
theorem dX7_two_2 : decode cX7_two 2 = .ok (.lconst 0, 1) := by decide +kernel
theorem dX7_two_3 : decode cX7_two 3 = .ok (.lconst 1, 1) := by decide +kernel
theorem dX7_two_4 : decode cX7_two 4 = .ok (.invokestatic 93, 3) := by decide +kernel
theorem dX7_two_7 : decode cX7_two 7 = .ok (.ifCond .ne 6, 3) := by decide +kernel
theorem dX7_two_10 : decode cX7_two 10 = .ok (.ldc 102, 2) := by decide +kernel
theorem dX7_two_12 : decode cX7_two 12 = .ok (.ireturn, 1) := by decide +kernel
theorem dX7_two_13 : decode cX7_two 13 = .ok (.aload_n 0, 1) := by decide +kernel
theorem dX7_two_14 : decode cX7_two 14 = .ok (.invokevirtual 216, 3) := by decide +kernel
theorem dX7_two_17 : decode cX7_two 17 = .ok (.istore_n 2, 1) := by decide +kernel
theorem dX7_two_18 : decode cX7_two 18 = .ok (.iconst 0, 1) := by decide +kernel
theorem dX7_two_19 : decode cX7_two 19 = .ok (.istore_n 3, 1) := by decide +kernel
theorem dX7_two_20 : decode cX7_two 20 = .ok (.ldc_w 262, 3) := by decide +kernel
theorem dX7_two_23 : decode cX7_two 23 = .ok (.istore 4, 2) := by decide +kernel
theorem dX7_two_25 : decode cX7_two 25 = .ok (.iconst 0, 1) := by decide +kernel
theorem dX7_two_26 : decode cX7_two 26 = .ok (.istore 5, 2) := by decide +kernel
theorem dX7_two_28 : decode cX7_two 28 = .ok (.iload 5, 2) := by decide +kernel
theorem dX7_two_30 : decode cX7_two 30 = .ok (.aload_n 0, 1) := by decide +kernel
theorem dX7_two_31 : decode cX7_two 31 = .ok (.getfield 97, 3) := by decide +kernel
theorem dX7_two_34 : decode cX7_two 34 = .ok (.if_icmp .gt 76, 3) := by decide +kernel
theorem dX7_two_37 : decode cX7_two 37 = .ok (.aload_n 0, 1) := by decide +kernel
theorem dX7_two_38 : decode cX7_two 38 = .ok (.iconst 0, 1) := by decide +kernel
theorem dX7_two_39 : decode cX7_two 39 = .ok (.iload 5, 2) := by decide +kernel
theorem dX7_two_41 : decode cX7_two 41 = .ok (.invokevirtual 213, 3) := by decide +kernel
theorem dX7_two_44 : decode cX7_two 44 = .ok (.istore 6, 2) := by decide +kernel
theorem dX7_two_46 : decode cX7_two 46 = .ok (.aload_n 0, 1) := by decide +kernel
theorem dX7_two_47 : decode cX7_two 47 = .ok (.iload 5, 2) := by decide +kernel
theorem dX7_two_49 : decode cX7_two 49 = .ok (.aload_n 0, 1) := by decide +kernel
theorem dX7_two_50 : decode cX7_two 50 = .ok (.getfield 97, 3) := by decide +kernel
theorem dX7_two_53 : decode cX7_two 53 = .ok (.invokevirtual 213, 3) := by decide +kernel
theorem dX7_two_56 : decode cX7_two 56 = .ok (.istore 7, 2) := by decide +kernel
theorem dX7_two_58 : decode cX7_two 58 = .ok (.iload 6, 2) := by decide +kernel
theorem dX7_two_60 : decode cX7_two 60 = .ok (.iload 7, 2) := by decide +kernel
theorem dX7_two_62 : decode cX7_two 62 = .ok (.if_icmp .le 8, 3) := by decide +kernel
theorem dX7_two_65 : decode cX7_two 65 = .ok (.iload 6, 2) := by decide +kernel
theorem dX7_two_67 : decode cX7_two 67 = .ok (.goto 5, 3) := by decide +kernel
theorem dX7_two_70 : decode cX7_two 70 = .ok (.iload 7, 2) := by decide +kernel
theorem dX7_two_72 : decode cX7_two 72 = .ok (.istore 8, 2) := by decide +kernel
theorem dX7_two_74 : decode cX7_two 74 = .ok (.iload 8, 2) := by decide +kernel
theorem dX7_two_76 : decode cX7_two 76 = .ok (.iload 4, 2) := by decide +kernel
theorem dX7_two_78 : decode cX7_two 78 = .ok (.if_icmp .ge 8, 3) := by decide +kernel
theorem dX7_two_81 : decode cX7_two 81 = .ok (.iload 5, 2) := by decide +kernel
theorem dX7_two_83 : decode cX7_two 83 = .ok (.goto 4, 3) := by decide +kernel
theorem dX7_two_86 : decode cX7_two 86 = .ok (.iload_n 3, 1) := by decide +kernel
theorem dX7_two_87 : decode cX7_two 87 = .ok (.istore_n 3, 1) := by decide +kernel
theorem dX7_two_88 : decode cX7_two 88 = .ok (.iload 8, 2) := by decide +kernel
theorem dX7_two_90 : decode cX7_two 90 = .ok (.iload 4, 2) := by decide +kernel
theorem dX7_two_92 : decode cX7_two 92 = .ok (.if_icmp .ge 8, 3) := by decide +kernel
theorem dX7_two_95 : decode cX7_two 95 = .ok (.iload 8, 2) := by decide +kernel
theorem dX7_two_97 : decode cX7_two 97 = .ok (.goto 5, 3) := by decide +kernel
theorem dX7_two_100 : decode cX7_two 100 = .ok (.iload 4, 2) := by decide +kernel
theorem dX7_two_102 : decode cX7_two 102 = .ok (.istore 4, 2) := by decide +kernel
theorem dX7_two_104 : decode cX7_two 104 = .ok (.iinc 5 1, 3) := by decide +kernel
theorem dX7_two_107 : decode cX7_two 107 = .ok (.goto (-79), 3) := by decide +kernel
theorem dX7_two_110 : decode cX7_two 110 = .ok (.iload_n 1, 1) := by decide +kernel
theorem dX7_two_111 : decode cX7_two 111 = .ok (.ifCond .ne 7, 3) := by decide +kernel
theorem dX7_two_114 : decode cX7_two 114 = .ok (.iload_n 3, 1) := by decide +kernel
theorem dX7_two_115 : decode cX7_two 115 = .ok (.goto 5, 3) := by decide +kernel
theorem dX7_two_118 : decode cX7_two 118 = .ok (.iload 4, 2) := by decide +kernel
theorem dX7_two_120 : decode cX7_two 120 = .ok (.ireturn, 1) := by decide +kernel
theorem dX7_came_0 : decode cX7_came 0 = .ok (.aload_n 0, 1) := by decide +kernel
theorem dX7_came_1 : decode cX7_came 1 = .ok (.iload_n 1, 1) := by decide +kernel
theorem dX7_came_2 : decode cX7_came 2 = .ok (.invokevirtual 236, 3) := by decide +kernel
theorem dX7_came_5 : decode cX7_came 5 = .ok (.ifCond .ne 6, 3) := by decide +kernel
theorem dX7_came_8 : decode cX7_came 8 = .ok (.ldc 235, 2) := by decide +kernel
theorem dX7_came_10 : decode cX7_came 10 = .ok (.ireturn, 1) := by decide +kernel
theorem dX7_came_11 : decode cX7_came 11 = .ok (.iconst 0, 1) := by decide +kernel
theorem dX7_came_12 : decode cX7_came 12 = .ok (.istore_n 2, 1) := by decide +kernel
theorem dX7_came_13 : decode cX7_came 13 = .ok (.iload_n 2, 1) := by decide +kernel
theorem dX7_came_14 : decode cX7_came 14 = .ok (.aload_n 0, 1) := by decide +kernel
theorem dX7_came_15 : decode cX7_came 15 = .ok (.getfield 183, 3) := by decide +kernel
theorem dX7_came_18 : decode cX7_came 18 = .ok (.if_icmp .ge 23, 3) := by decide +kernel
theorem dX7_came_21 : decode cX7_came 21 = .ok (.aload_n 0, 1) := by decide +kernel
theorem dX7_came_22 : decode cX7_came 22 = .ok (.getfield 74, 3) := by decide +kernel
theorem dX7_came_25 : decode cX7_came 25 = .ok (.iload_n 2, 1) := by decide +kernel
theorem dX7_came_26 : decode cX7_came 26 = .ok (.iaload, 1) := by decide +kernel
theorem dX7_came_27 : decode cX7_came 27 = .ok (.iload_n 1, 1) := by decide +kernel
theorem dX7_came_28 : decode cX7_came 28 = .ok (.if_icmp .ne 7, 3) := by decide +kernel
theorem dX7_came_31 : decode cX7_came 31 = .ok (.ldc_w 258, 3) := by decide +kernel
theorem dX7_came_34 : decode cX7_came 34 = .ok (.ireturn, 1) := by decide +kernel
theorem dX7_came_35 : decode cX7_came 35 = .ok (.iinc 2 1, 3) := by decide +kernel
theorem dX7_came_38 : decode cX7_came 38 = .ok (.goto (-25), 3) := by decide +kernel
theorem dX7_came_41 : decode cX7_came 41 = .ok (.aload_n 0, 1) := by decide +kernel
theorem dX7_came_42 : decode cX7_came 42 = .ok (.getfield 74, 3) := by decide +kernel
theorem dX7_came_45 : decode cX7_came 45 = .ok (.aload_n 0, 1) := by decide +kernel
theorem dX7_came_46 : decode cX7_came 46 = .ok (.getfield 183, 3) := by decide +kernel
theorem dX7_came_49 : decode cX7_came 49 = .ok (.iload_n 1, 1) := by decide +kernel
theorem dX7_came_50 : decode cX7_came 50 = .ok (.iastore, 1) := by decide +kernel
theorem dX7_came_51 : decode cX7_came 51 = .ok (.aload_n 0, 1) := by decide +kernel
theorem dX7_came_52 : decode cX7_came 52 = .ok (.dup, 1) := by decide +kernel
theorem dX7_came_53 : decode cX7_came 53 = .ok (.getfield 183, 3) := by decide +kernel
theorem dX7_came_56 : decode cX7_came 56 = .ok (.iconst 1, 1) := by decide +kernel
theorem dX7_came_57 : decode cX7_came 57 = .ok (.iadd, 1) := by decide +kernel
theorem dX7_came_58 : decode cX7_came 58 = .ok (.putfield 183, 3) := by decide +kernel
theorem dX7_came_61 : decode cX7_came 61 = .ok (.aload_n 0, 1) := by decide +kernel
theorem dX7_came_62 : decode cX7_came 62 = .ok (.getfield 183, 3) := by decide +kernel
theorem dX7_came_65 : decode cX7_came 65 = .ok (.ireturn, 1) := by decide +kernel
theorem dX7_isTold_0 : decode cX7_isTold 0 = .ok (.aload_n 0, 1) := by decide +kernel
theorem dX7_isTold_1 : decode cX7_isTold 1 = .ok (.invokevirtual 207, 3) := by decide +kernel
theorem dX7_isTold_4 : decode cX7_isTold 4 = .ok (.aload_n 0, 1) := by decide +kernel
theorem dX7_isTold_5 : decode cX7_isTold 5 = .ok (.getfield 62, 3) := by decide +kernel
theorem dX7_isTold_8 : decode cX7_isTold 8 = .ok (.iload_n 1, 1) := by decide +kernel
theorem dX7_isTold_9 : decode cX7_isTold 9 = .ok (.iload_n 2, 1) := by decide +kernel
theorem dX7_isTold_10 : decode cX7_isTold 10 = .ok (.iastore, 1) := by decide +kernel
theorem dX7_isTold_11 : decode cX7_isTold 11 = .ok (.aload_n 0, 1) := by decide +kernel
theorem dX7_isTold_12 : decode cX7_isTold 12 = .ok (.invokevirtual 210, 3) := by decide +kernel
theorem dX7_isTold_15 : decode cX7_isTold 15 = .ok (.aload_n 0, 1) := by decide +kernel
theorem dX7_isTold_16 : decode cX7_isTold 16 = .ok (.getfield 183, 3) := by decide +kernel
theorem dX7_isTold_19 : decode cX7_isTold 19 = .ok (.aload_n 0, 1) := by decide +kernel
theorem dX7_isTold_20 : decode cX7_isTold 20 = .ok (.getfield 97, 3) := by decide +kernel
theorem dX7_isTold_23 : decode cX7_isTold 23 = .ok (.if_icmp .ne 7, 3) := by decide +kernel
theorem dX7_isTold_26 : decode cX7_isTold 26 = .ok (.iconst 1, 1) := by decide +kernel
theorem dX7_isTold_27 : decode cX7_isTold 27 = .ok (.goto 4, 3) := by decide +kernel
theorem dX7_isTold_30 : decode cX7_isTold 30 = .ok (.iconst 0, 1) := by decide +kernel
theorem dX7_isTold_31 : decode cX7_isTold 31 = .ok (.istore_n 3, 1) := by decide +kernel
theorem dX7_isTold_32 : decode cX7_isTold 32 = .ok (.iconst 0, 1) := by decide +kernel
theorem dX7_isTold_33 : decode cX7_isTold 33 = .ok (.istore 4, 2) := by decide +kernel
theorem dX7_isTold_35 : decode cX7_isTold 35 = .ok (.iload 4, 2) := by decide +kernel
theorem dX7_isTold_37 : decode cX7_isTold 37 = .ok (.aload_n 0, 1) := by decide +kernel
theorem dX7_isTold_38 : decode cX7_isTold 38 = .ok (.getfield 183, 3) := by decide +kernel
theorem dX7_isTold_41 : decode cX7_isTold 41 = .ok (.if_icmp .ge 36, 3) := by decide +kernel
theorem dX7_isTold_44 : decode cX7_isTold 44 = .ok (.iload_n 3, 1) := by decide +kernel
theorem dX7_isTold_45 : decode cX7_isTold 45 = .ok (.ifCond .eq 24, 3) := by decide +kernel
theorem dX7_isTold_48 : decode cX7_isTold 48 = .ok (.aload_n 0, 1) := by decide +kernel
theorem dX7_isTold_49 : decode cX7_isTold 49 = .ok (.getfield 59, 3) := by decide +kernel
theorem dX7_isTold_52 : decode cX7_isTold 52 = .ok (.iload 4, 2) := by decide +kernel
theorem dX7_isTold_54 : decode cX7_isTold 54 = .ok (.iaload, 1) := by decide +kernel
theorem dX7_isTold_55 : decode cX7_isTold 55 = .ok (.aload_n 0, 1) := by decide +kernel
theorem dX7_isTold_56 : decode cX7_isTold 56 = .ok (.getfield 74, 3) := by decide +kernel
theorem dX7_isTold_59 : decode cX7_isTold 59 = .ok (.iload 4, 2) := by decide +kernel
theorem dX7_isTold_61 : decode cX7_isTold 61 = .ok (.iaload, 1) := by decide +kernel
theorem dX7_isTold_62 : decode cX7_isTold 62 = .ok (.if_icmp .ne 7, 3) := by decide +kernel
theorem dX7_isTold_65 : decode cX7_isTold 65 = .ok (.iconst 1, 1) := by decide +kernel
theorem dX7_isTold_66 : decode cX7_isTold 66 = .ok (.goto 4, 3) := by decide +kernel
theorem dX7_isTold_69 : decode cX7_isTold 69 = .ok (.iconst 0, 1) := by decide +kernel
theorem dX7_isTold_70 : decode cX7_isTold 70 = .ok (.istore_n 3, 1) := by decide +kernel
theorem dX7_isTold_71 : decode cX7_isTold 71 = .ok (.iinc 4 1, 3) := by decide +kernel
theorem dX7_isTold_74 : decode cX7_isTold 74 = .ok (.goto (-39), 3) := by decide +kernel
theorem dX7_isTold_77 : decode cX7_isTold 77 = .ok (.iload_n 3, 1) := by decide +kernel
theorem dX7_isTold_78 : decode cX7_isTold 78 = .ok (.ireturn, 1) := by decide +kernel
theorem dX7_ends_0 : decode cX7_ends 0 = .ok (.aload_n 0, 1) := by decide +kernel
theorem dX7_ends_1 : decode cX7_ends 1 = .ok (.iload_n 1, 1) := by decide +kernel
theorem dX7_ends_2 : decode cX7_ends 2 = .ok (.invokevirtual 236, 3) := by decide +kernel
theorem dX7_ends_5 : decode cX7_ends 5 = .ok (.ifCond .ne 6, 3) := by decide +kernel
theorem dX7_ends_8 : decode cX7_ends 8 = .ok (.ldc 235, 2) := by decide +kernel
theorem dX7_ends_10 : decode cX7_ends 10 = .ok (.ireturn, 1) := by decide +kernel
theorem dX7_ends_11 : decode cX7_ends 11 = .ok (.iload_n 2, 1) := by decide +kernel
theorem dX7_ends_12 : decode cX7_ends 12 = .ok (.i2l, 1) := by decide +kernel
theorem dX7_ends_13 : decode cX7_ends 13 = .ok (.lconst 0, 1) := by decide +kernel
theorem dX7_ends_14 : decode cX7_ends 14 = .ok (.lconst 1, 1) := by decide +kernel
theorem dX7_ends_15 : decode cX7_ends 15 = .ok (.invokestatic 93, 3) := by decide +kernel
theorem dX7_ends_18 : decode cX7_ends 18 = .ok (.ifCond .ne 6, 3) := by decide +kernel
theorem dX7_ends_21 : decode cX7_ends 21 = .ok (.ldc 102, 2) := by decide +kernel
theorem dX7_ends_23 : decode cX7_ends 23 = .ok (.ireturn, 1) := by decide +kernel
theorem dX7_ends_24 : decode cX7_ends 24 = .ok (.aload_n 0, 1) := by decide +kernel
theorem dX7_ends_25 : decode cX7_ends 25 = .ok (.getfield 197, 3) := by decide +kernel
theorem dX7_ends_28 : decode cX7_ends 28 = .ok (.iconst 2, 1) := by decide +kernel
theorem dX7_ends_29 : decode cX7_ends 29 = .ok (.if_icmp .ne 7, 3) := by decide +kernel
theorem dX7_ends_32 : decode cX7_ends 32 = .ok (.ldc_w 258, 3) := by decide +kernel
theorem dX7_ends_35 : decode cX7_ends 35 = .ok (.ireturn, 1) := by decide +kernel
theorem dX7_ends_36 : decode cX7_ends 36 = .ok (.iconst (-1), 1) := by decide +kernel
theorem dX7_ends_37 : decode cX7_ends 37 = .ok (.istore_n 3, 1) := by decide +kernel
theorem dX7_ends_38 : decode cX7_ends 38 = .ok (.iconst (-1), 1) := by decide +kernel
theorem dX7_ends_39 : decode cX7_ends 39 = .ok (.istore 4, 2) := by decide +kernel
theorem dX7_ends_41 : decode cX7_ends 41 = .ok (.iconst 1, 1) := by decide +kernel
theorem dX7_ends_42 : decode cX7_ends 42 = .ok (.istore 5, 2) := by decide +kernel
theorem dX7_ends_44 : decode cX7_ends 44 = .ok (.iload 5, 2) := by decide +kernel
theorem dX7_ends_46 : decode cX7_ends 46 = .ok (.bipush 108, 2) := by decide +kernel
theorem dX7_ends_48 : decode cX7_ends 48 = .ok (.if_icmp .gt 34, 3) := by decide +kernel
theorem dX7_ends_51 : decode cX7_ends 51 = .ok (.aload_n 0, 1) := by decide +kernel
theorem dX7_ends_52 : decode cX7_ends 52 = .ok (.iload_n 1, 1) := by decide +kernel
theorem dX7_ends_53 : decode cX7_ends 53 = .ok (.iload 5, 2) := by decide +kernel
theorem dX7_ends_55 : decode cX7_ends 55 = .ok (.invokevirtual 300, 3) := by decide +kernel
theorem dX7_ends_58 : decode cX7_ends 58 = .ok (.ifCond .eq 18, 3) := by decide +kernel
theorem dX7_ends_61 : decode cX7_ends 61 = .ok (.iload_n 3, 1) := by decide +kernel
theorem dX7_ends_62 : decode cX7_ends 62 = .ok (.ifCond .ge 8, 3) := by decide +kernel
theorem dX7_ends_65 : decode cX7_ends 65 = .ok (.iload 5, 2) := by decide +kernel
theorem dX7_ends_67 : decode cX7_ends 67 = .ok (.goto 4, 3) := by decide +kernel
theorem dX7_ends_70 : decode cX7_ends 70 = .ok (.iload_n 3, 1) := by decide +kernel
theorem dX7_ends_71 : decode cX7_ends 71 = .ok (.istore_n 3, 1) := by decide +kernel
theorem dX7_ends_72 : decode cX7_ends 72 = .ok (.iload 5, 2) := by decide +kernel
theorem dX7_ends_74 : decode cX7_ends 74 = .ok (.istore 4, 2) := by decide +kernel
theorem dX7_ends_76 : decode cX7_ends 76 = .ok (.iinc 5 1, 3) := by decide +kernel
theorem dX7_ends_79 : decode cX7_ends 79 = .ok (.goto (-35), 3) := by decide +kernel
theorem dX7_ends_82 : decode cX7_ends 82 = .ok (.iload_n 2, 1) := by decide +kernel
theorem dX7_ends_83 : decode cX7_ends 83 = .ok (.ifCond .ne 7, 3) := by decide +kernel
theorem dX7_ends_86 : decode cX7_ends 86 = .ok (.iload_n 3, 1) := by decide +kernel
theorem dX7_ends_87 : decode cX7_ends 87 = .ok (.goto 5, 3) := by decide +kernel
theorem dX7_ends_90 : decode cX7_ends 90 = .ok (.iload 4, 2) := by decide +kernel
theorem dX7_ends_92 : decode cX7_ends 92 = .ok (.ireturn, 1) := by decide +kernel
theorem dX7_write_0 : decode cX7_write 0 = .ok (.aload_n 0, 1) := by decide +kernel
theorem dX7_write_1 : decode cX7_write 1 = .ok (.iload_n 1, 1) := by decide +kernel
theorem dX7_write_2 : decode cX7_write 2 = .ok (.invokevirtual 236, 3) := by decide +kernel
theorem dX7_write_5 : decode cX7_write 5 = .ok (.ifCond .ne 6, 3) := by decide +kernel
theorem dX7_write_8 : decode cX7_write 8 = .ok (.ldc 235, 2) := by decide +kernel
theorem dX7_write_10 : decode cX7_write 10 = .ok (.ireturn, 1) := by decide +kernel
theorem dX7_write_11 : decode cX7_write 11 = .ok (.iload_n 2, 1) := by decide +kernel
theorem dX7_write_12 : decode cX7_write 12 = .ok (.i2l, 1) := by decide +kernel
theorem dX7_write_13 : decode cX7_write 13 = .ok (.lconst 0, 1) := by decide +kernel
theorem dX7_write_14 : decode cX7_write 14 = .ok (.ldc2_w 303, 3) := by decide +kernel
theorem dX7_write_17 : decode cX7_write 17 = .ok (.invokestatic 93, 3) := by decide +kernel
theorem dX7_write_20 : decode cX7_write 20 = .ok (.ifCond .ne 6, 3) := by decide +kernel
theorem dX7_write_23 : decode cX7_write 23 = .ok (.ldc 102, 2) := by decide +kernel
theorem dX7_write_25 : decode cX7_write 25 = .ok (.ireturn, 1) := by decide +kernel
theorem dX7_write_26 : decode cX7_write 26 = .ok (.aload_n 0, 1) := by decide +kernel
theorem dX7_write_27 : decode cX7_write 27 = .ok (.getfield 186, 3) := by decide +kernel
theorem dX7_write_30 : decode cX7_write 30 = .ok (.bipush 30, 2) := by decide +kernel
theorem dX7_write_32 : decode cX7_write 32 = .ok (.if_icmp .ne 6, 3) := by decide +kernel
theorem dX7_write_35 : decode cX7_write 35 = .ok (.ldc 106, 2) := by decide +kernel
theorem dX7_write_37 : decode cX7_write 37 = .ok (.ireturn, 1) := by decide +kernel
theorem dX7_write_38 : decode cX7_write 38 = .ok (.aload_n 0, 1) := by decide +kernel
theorem dX7_write_39 : decode cX7_write 39 = .ok (.getfield 77, 3) := by decide +kernel
theorem dX7_write_42 : decode cX7_write 42 = .ok (.aload_n 0, 1) := by decide +kernel
theorem dX7_write_43 : decode cX7_write 43 = .ok (.getfield 186, 3) := by decide +kernel
theorem dX7_write_46 : decode cX7_write 46 = .ok (.iload_n 1, 1) := by decide +kernel
theorem dX7_write_47 : decode cX7_write 47 = .ok (.iastore, 1) := by decide +kernel
theorem dX7_write_48 : decode cX7_write 48 = .ok (.aload_n 0, 1) := by decide +kernel
theorem dX7_write_49 : decode cX7_write 49 = .ok (.getfield 80, 3) := by decide +kernel
theorem dX7_write_52 : decode cX7_write 52 = .ok (.aload_n 0, 1) := by decide +kernel
theorem dX7_write_53 : decode cX7_write 53 = .ok (.getfield 186, 3) := by decide +kernel
theorem dX7_write_56 : decode cX7_write 56 = .ok (.iload_n 2, 1) := by decide +kernel
theorem dX7_write_57 : decode cX7_write 57 = .ok (.iastore, 1) := by decide +kernel
theorem dX7_write_58 : decode cX7_write 58 = .ok (.aload_n 0, 1) := by decide +kernel
theorem dX7_write_59 : decode cX7_write 59 = .ok (.dup, 1) := by decide +kernel
theorem dX7_write_60 : decode cX7_write 60 = .ok (.getfield 186, 3) := by decide +kernel
theorem dX7_write_63 : decode cX7_write 63 = .ok (.iconst 1, 1) := by decide +kernel
theorem dX7_write_64 : decode cX7_write 64 = .ok (.iadd, 1) := by decide +kernel
theorem dX7_write_65 : decode cX7_write 65 = .ok (.putfield 186, 3) := by decide +kernel
theorem dX7_write_68 : decode cX7_write 68 = .ok (.aload_n 0, 1) := by decide +kernel
theorem dX7_write_69 : decode cX7_write 69 = .ok (.getfield 186, 3) := by decide +kernel
theorem dX7_write_72 : decode cX7_write 72 = .ok (.ireturn, 1) := by decide +kernel
theorem dX7_tear_0 : decode cX7_tear 0 = .ok (.aload_n 0, 1) := by decide +kernel
theorem dX7_tear_1 : decode cX7_tear 1 = .ok (.getfield 186, 3) := by decide +kernel
theorem dX7_tear_4 : decode cX7_tear 4 = .ok (.aload_n 0, 1) := by decide +kernel
theorem dX7_tear_5 : decode cX7_tear 5 = .ok (.getfield 183, 3) := by decide +kernel
theorem dX7_tear_8 : decode cX7_tear 8 = .ok (.iadd, 1) := by decide +kernel
theorem dX7_tear_9 : decode cX7_tear 9 = .ok (.istore_n 1, 1) := by decide +kernel
theorem dX7_tear_10 : decode cX7_tear 10 = .ok (.aload_n 0, 1) := by decide +kernel
theorem dX7_tear_11 : decode cX7_tear 11 = .ok (.iconst 0, 1) := by decide +kernel
theorem dX7_tear_12 : decode cX7_tear 12 = .ok (.putfield 186, 3) := by decide +kernel
theorem dX7_tear_15 : decode cX7_tear 15 = .ok (.aload_n 0, 1) := by decide +kernel
theorem dX7_tear_16 : decode cX7_tear 16 = .ok (.iconst 0, 1) := by decide +kernel
theorem dX7_tear_17 : decode cX7_tear 17 = .ok (.putfield 183, 3) := by decide +kernel
theorem dX7_tear_20 : decode cX7_tear 20 = .ok (.iload_n 1, 1) := by decide +kernel
theorem dX7_tear_21 : decode cX7_tear 21 = .ok (.ireturn, 1) := by decide +kernel
theorem dX7_judge_0 : decode cX7_judge 0 = .ok (.aload_n 0, 1) := by decide +kernel
theorem dX7_judge_1 : decode cX7_judge 1 = .ok (.invokevirtual 216, 3) := by decide +kernel
theorem dX7_judge_4 : decode cX7_judge 4 = .ok (.istore_n 1, 1) := by decide +kernel
theorem dX7_judge_5 : decode cX7_judge 5 = .ok (.iconst 0, 1) := by decide +kernel
theorem dX7_judge_6 : decode cX7_judge 6 = .ok (.istore_n 2, 1) := by decide +kernel
theorem dX7_judge_7 : decode cX7_judge 7 = .ok (.iload_n 2, 1) := by decide +kernel
theorem dX7_judge_8 : decode cX7_judge 8 = .ok (.aload_n 0, 1) := by decide +kernel
theorem dX7_judge_9 : decode cX7_judge 9 = .ok (.getfield 186, 3) := by decide +kernel
theorem dX7_judge_12 : decode cX7_judge 12 = .ok (.if_icmp .ge 31, 3) := by decide +kernel
theorem dX7_judge_15 : decode cX7_judge 15 = .ok (.aload_n 0, 1) := by decide +kernel
theorem dX7_judge_16 : decode cX7_judge 16 = .ok (.getfield 65, 3) := by decide +kernel
theorem dX7_judge_19 : decode cX7_judge 19 = .ok (.aload_n 0, 1) := by decide +kernel
theorem dX7_judge_20 : decode cX7_judge 20 = .ok (.getfield 77, 3) := by decide +kernel
theorem dX7_judge_23 : decode cX7_judge 23 = .ok (.iload_n 2, 1) := by decide +kernel
theorem dX7_judge_24 : decode cX7_judge 24 = .ok (.iaload, 1) := by decide +kernel
theorem dX7_judge_25 : decode cX7_judge 25 = .ok (.iaload, 1) := by decide +kernel
theorem dX7_judge_26 : decode cX7_judge 26 = .ok (.aload_n 0, 1) := by decide +kernel
theorem dX7_judge_27 : decode cX7_judge 27 = .ok (.getfield 80, 3) := by decide +kernel
theorem dX7_judge_30 : decode cX7_judge 30 = .ok (.iload_n 2, 1) := by decide +kernel
theorem dX7_judge_31 : decode cX7_judge 31 = .ok (.iaload, 1) := by decide +kernel
theorem dX7_judge_32 : decode cX7_judge 32 = .ok (.if_icmp .eq 5, 3) := by decide +kernel
theorem dX7_judge_35 : decode cX7_judge 35 = .ok (.iload_n 2, 1) := by decide +kernel
theorem dX7_judge_36 : decode cX7_judge 36 = .ok (.ireturn, 1) := by decide +kernel
theorem dX7_judge_37 : decode cX7_judge 37 = .ok (.iinc 2 1, 3) := by decide +kernel
theorem dX7_judge_40 : decode cX7_judge 40 = .ok (.goto (-33), 3) := by decide +kernel
theorem dX7_judge_43 : decode cX7_judge 43 = .ok (.iconst (-1), 1) := by decide +kernel
theorem dX7_judge_44 : decode cX7_judge 44 = .ok (.ireturn, 1) := by decide +kernel
theorem dX7_seed_0 : decode cX7_seed 0 = .ok (.iload_n 1, 1) := by decide +kernel
theorem dX7_seed_1 : decode cX7_seed 1 = .ok (.ifCond .ge 6, 3) := by decide +kernel
theorem dX7_seed_4 : decode cX7_seed 4 = .ok (.ldc 102, 2) := by decide +kernel
theorem dX7_seed_6 : decode cX7_seed 6 = .ok (.ireturn, 1) := by decide +kernel
theorem dX7_seed_7 : decode cX7_seed 7 = .ok (.aload_n 0, 1) := by decide +kernel
theorem dX7_seed_8 : decode cX7_seed 8 = .ok (.getfield 248, 3) := by decide +kernel
theorem dX7_seed_11 : decode cX7_seed 11 = .ok (.istore_n 2, 1) := by decide +kernel
theorem dX7_seed_12 : decode cX7_seed 12 = .ok (.aload_n 0, 1) := by decide +kernel
theorem dX7_seed_13 : decode cX7_seed 13 = .ok (.iload_n 1, 1) := by decide +kernel
theorem dX7_seed_14 : decode cX7_seed 14 = .ok (.putfield 248, 3) := by decide +kernel
theorem dX7_seed_17 : decode cX7_seed 17 = .ok (.iload_n 2, 1) := by decide +kernel
theorem dX7_seed_18 : decode cX7_seed 18 = .ok (.ireturn, 1) := by decide +kernel
theorem dX7_keep_0 : decode cX7_keep 0 = .ok (.iload_n 1, 1) := by decide +kernel
theorem dX7_keep_1 : decode cX7_keep 1 = .ok (.i2l, 1) := by decide +kernel
theorem dX7_keep_2 : decode cX7_keep 2 = .ok (.lconst 0, 1) := by decide +kernel
theorem dX7_keep_3 : decode cX7_keep 3 = .ok (.lconst 1, 1) := by decide +kernel
theorem dX7_keep_4 : decode cX7_keep 4 = .ok (.invokestatic 93, 3) := by decide +kernel
theorem dX7_keep_7 : decode cX7_keep 7 = .ok (.ifCond .ne 6, 3) := by decide +kernel
theorem dX7_keep_10 : decode cX7_keep 10 = .ok (.ldc 235, 2) := by decide +kernel
theorem dX7_keep_12 : decode cX7_keep 12 = .ok (.ireturn, 1) := by decide +kernel
theorem dX7_keep_13 : decode cX7_keep 13 = .ok (.bipush 30, 2) := by decide +kernel
theorem dX7_keep_15 : decode cX7_keep 15 = .ok (.iload_n 1, 1) := by decide +kernel
theorem dX7_keep_16 : decode cX7_keep 16 = .ok (.imul, 1) := by decide +kernel
theorem dX7_keep_17 : decode cX7_keep 17 = .ok (.istore_n 2, 1) := by decide +kernel
theorem dX7_keep_18 : decode cX7_keep 18 = .ok (.iconst 0, 1) := by decide +kernel
theorem dX7_keep_19 : decode cX7_keep 19 = .ok (.istore_n 3, 1) := by decide +kernel
theorem dX7_keep_20 : decode cX7_keep 20 = .ok (.iload_n 3, 1) := by decide +kernel
theorem dX7_keep_21 : decode cX7_keep 21 = .ok (.bipush 7, 2) := by decide +kernel
theorem dX7_keep_23 : decode cX7_keep 23 = .ok (.if_icmp .ge 57, 3) := by decide +kernel
theorem dX7_keep_26 : decode cX7_keep 26 = .ok (.aload_n 0, 1) := by decide +kernel
theorem dX7_keep_27 : decode cX7_keep 27 = .ok (.getfield 83, 3) := by decide +kernel
theorem dX7_keep_30 : decode cX7_keep 30 = .ok (.iload_n 2, 1) := by decide +kernel
theorem dX7_keep_31 : decode cX7_keep 31 = .ok (.iload_n 3, 1) := by decide +kernel
theorem dX7_keep_32 : decode cX7_keep 32 = .ok (.iadd, 1) := by decide +kernel
theorem dX7_keep_33 : decode cX7_keep 33 = .ok (.aload_n 0, 1) := by decide +kernel
theorem dX7_keep_34 : decode cX7_keep 34 = .ok (.getfield 19, 3) := by decide +kernel
theorem dX7_keep_37 : decode cX7_keep 37 = .ok (.iload_n 3, 1) := by decide +kernel
theorem dX7_keep_38 : decode cX7_keep 38 = .ok (.iaload, 1) := by decide +kernel
theorem dX7_keep_39 : decode cX7_keep 39 = .ok (.iastore, 1) := by decide +kernel
theorem dX7_keep_40 : decode cX7_keep 40 = .ok (.aload_n 0, 1) := by decide +kernel
theorem dX7_keep_41 : decode cX7_keep 41 = .ok (.getfield 83, 3) := by decide +kernel
theorem dX7_keep_44 : decode cX7_keep 44 = .ok (.iload_n 2, 1) := by decide +kernel
theorem dX7_keep_45 : decode cX7_keep 45 = .ok (.bipush 7, 2) := by decide +kernel
theorem dX7_keep_47 : decode cX7_keep 47 = .ok (.iadd, 1) := by decide +kernel
theorem dX7_keep_48 : decode cX7_keep 48 = .ok (.iload_n 3, 1) := by decide +kernel
theorem dX7_keep_49 : decode cX7_keep 49 = .ok (.iadd, 1) := by decide +kernel
theorem dX7_keep_50 : decode cX7_keep 50 = .ok (.aload_n 0, 1) := by decide +kernel
theorem dX7_keep_51 : decode cX7_keep 51 = .ok (.getfield 16, 3) := by decide +kernel
theorem dX7_keep_54 : decode cX7_keep 54 = .ok (.iload_n 3, 1) := by decide +kernel
theorem dX7_keep_55 : decode cX7_keep 55 = .ok (.iaload, 1) := by decide +kernel
theorem dX7_keep_56 : decode cX7_keep 56 = .ok (.iastore, 1) := by decide +kernel
theorem dX7_keep_57 : decode cX7_keep 57 = .ok (.aload_n 0, 1) := by decide +kernel
theorem dX7_keep_58 : decode cX7_keep 58 = .ok (.getfield 83, 3) := by decide +kernel
theorem dX7_keep_61 : decode cX7_keep 61 = .ok (.iload_n 2, 1) := by decide +kernel
theorem dX7_keep_62 : decode cX7_keep 62 = .ok (.bipush 14, 2) := by decide +kernel
theorem dX7_keep_64 : decode cX7_keep 64 = .ok (.iadd, 1) := by decide +kernel
theorem dX7_keep_65 : decode cX7_keep 65 = .ok (.iload_n 3, 1) := by decide +kernel
theorem dX7_keep_66 : decode cX7_keep 66 = .ok (.iadd, 1) := by decide +kernel
theorem dX7_keep_67 : decode cX7_keep 67 = .ok (.aload_n 0, 1) := by decide +kernel
theorem dX7_keep_68 : decode cX7_keep 68 = .ok (.getfield 28, 3) := by decide +kernel
theorem dX7_keep_71 : decode cX7_keep 71 = .ok (.iload_n 3, 1) := by decide +kernel
theorem dX7_keep_72 : decode cX7_keep 72 = .ok (.iaload, 1) := by decide +kernel
theorem dX7_keep_73 : decode cX7_keep 73 = .ok (.iastore, 1) := by decide +kernel
theorem dX7_keep_74 : decode cX7_keep 74 = .ok (.iinc 3 1, 3) := by decide +kernel
theorem dX7_keep_77 : decode cX7_keep 77 = .ok (.goto (-57), 3) := by decide +kernel
theorem dX7_keep_80 : decode cX7_keep 80 = .ok (.aload_n 0, 1) := by decide +kernel
theorem dX7_keep_81 : decode cX7_keep 81 = .ok (.getfield 83, 3) := by decide +kernel
theorem dX7_keep_84 : decode cX7_keep 84 = .ok (.iload_n 2, 1) := by decide +kernel
theorem dX7_keep_85 : decode cX7_keep 85 = .ok (.bipush 21, 2) := by decide +kernel
theorem dX7_keep_87 : decode cX7_keep 87 = .ok (.iadd, 1) := by decide +kernel
theorem dX7_keep_88 : decode cX7_keep 88 = .ok (.aload_n 0, 1) := by decide +kernel
theorem dX7_keep_89 : decode cX7_keep 89 = .ok (.getfield 197, 3) := by decide +kernel
theorem dX7_keep_92 : decode cX7_keep 92 = .ok (.iastore, 1) := by decide +kernel
theorem dX7_keep_93 : decode cX7_keep 93 = .ok (.aload_n 0, 1) := by decide +kernel
theorem dX7_keep_94 : decode cX7_keep 94 = .ok (.getfield 83, 3) := by decide +kernel
theorem dX7_keep_97 : decode cX7_keep 97 = .ok (.iload_n 2, 1) := by decide +kernel
theorem dX7_keep_98 : decode cX7_keep 98 = .ok (.bipush 22, 2) := by decide +kernel
theorem dX7_keep_100 : decode cX7_keep 100 = .ok (.iadd, 1) := by decide +kernel
theorem dX7_keep_101 : decode cX7_keep 101 = .ok (.aload_n 0, 1) := by decide +kernel
theorem dX7_keep_102 : decode cX7_keep 102 = .ok (.getfield 31, 3) := by decide +kernel
theorem dX7_keep_105 : decode cX7_keep 105 = .ok (.iastore, 1) := by decide +kernel
theorem dX7_keep_106 : decode cX7_keep 106 = .ok (.aload_n 0, 1) := by decide +kernel
theorem dX7_keep_107 : decode cX7_keep 107 = .ok (.getfield 83, 3) := by decide +kernel
theorem dX7_keep_110 : decode cX7_keep 110 = .ok (.iload_n 2, 1) := by decide +kernel
theorem dX7_keep_111 : decode cX7_keep 111 = .ok (.bipush 23, 2) := by decide +kernel
theorem dX7_keep_113 : decode cX7_keep 113 = .ok (.iadd, 1) := by decide +kernel
theorem dX7_keep_114 : decode cX7_keep 114 = .ok (.aload_n 0, 1) := by decide +kernel
theorem dX7_keep_115 : decode cX7_keep 115 = .ok (.getfield 248, 3) := by decide +kernel
theorem dX7_keep_118 : decode cX7_keep 118 = .ok (.iastore, 1) := by decide +kernel
theorem dX7_keep_119 : decode cX7_keep 119 = .ok (.aload_n 0, 1) := by decide +kernel
theorem dX7_keep_120 : decode cX7_keep 120 = .ok (.getfield 86, 3) := by decide +kernel
theorem dX7_keep_123 : decode cX7_keep 123 = .ok (.iload_n 1, 1) := by decide +kernel
theorem dX7_keep_124 : decode cX7_keep 124 = .ok (.iconst 1, 1) := by decide +kernel
theorem dX7_keep_125 : decode cX7_keep 125 = .ok (.bastore, 1) := by decide +kernel
theorem dX7_keep_126 : decode cX7_keep 126 = .ok (.iconst 1, 1) := by decide +kernel
theorem dX7_keep_127 : decode cX7_keep 127 = .ok (.ireturn, 1) := by decide +kernel
theorem dX7_goBack_0 : decode cX7_goBack 0 = .ok (.iload_n 1, 1) := by decide +kernel
theorem dX7_goBack_1 : decode cX7_goBack 1 = .ok (.i2l, 1) := by decide +kernel
theorem dX7_goBack_2 : decode cX7_goBack 2 = .ok (.lconst 0, 1) := by decide +kernel
theorem dX7_goBack_3 : decode cX7_goBack 3 = .ok (.lconst 1, 1) := by decide +kernel
theorem dX7_goBack_4 : decode cX7_goBack 4 = .ok (.invokestatic 93, 3) := by decide +kernel
theorem dX7_goBack_7 : decode cX7_goBack 7 = .ok (.ifCond .ne 6, 3) := by decide +kernel
theorem dX7_goBack_10 : decode cX7_goBack 10 = .ok (.ldc 235, 2) := by decide +kernel
theorem dX7_goBack_12 : decode cX7_goBack 12 = .ok (.ireturn, 1) := by decide +kernel
theorem dX7_goBack_13 : decode cX7_goBack 13 = .ok (.aload_n 0, 1) := by decide +kernel
theorem dX7_goBack_14 : decode cX7_goBack 14 = .ok (.getfield 86, 3) := by decide +kernel
theorem dX7_goBack_17 : decode cX7_goBack 17 = .ok (.iload_n 1, 1) := by decide +kernel
theorem dX7_goBack_18 : decode cX7_goBack 18 = .ok (.baload, 1) := by decide +kernel
theorem dX7_goBack_19 : decode cX7_goBack 19 = .ok (.ifCond .ne 7, 3) := by decide +kernel
theorem dX7_goBack_22 : decode cX7_goBack 22 = .ok (.ldc_w 258, 3) := by decide +kernel
theorem dX7_goBack_25 : decode cX7_goBack 25 = .ok (.ireturn, 1) := by decide +kernel
theorem dX7_goBack_26 : decode cX7_goBack 26 = .ok (.bipush 30, 2) := by decide +kernel
theorem dX7_goBack_28 : decode cX7_goBack 28 = .ok (.iload_n 1, 1) := by decide +kernel
theorem dX7_goBack_29 : decode cX7_goBack 29 = .ok (.imul, 1) := by decide +kernel
theorem dX7_goBack_30 : decode cX7_goBack 30 = .ok (.istore_n 2, 1) := by decide +kernel
theorem dX7_goBack_31 : decode cX7_goBack 31 = .ok (.iconst 0, 1) := by decide +kernel
theorem dX7_goBack_32 : decode cX7_goBack 32 = .ok (.istore_n 3, 1) := by decide +kernel
theorem dX7_goBack_33 : decode cX7_goBack 33 = .ok (.iload_n 3, 1) := by decide +kernel
theorem dX7_goBack_34 : decode cX7_goBack 34 = .ok (.bipush 7, 2) := by decide +kernel
theorem dX7_goBack_36 : decode cX7_goBack 36 = .ok (.if_icmp .ge 57, 3) := by decide +kernel
theorem dX7_goBack_39 : decode cX7_goBack 39 = .ok (.aload_n 0, 1) := by decide +kernel
theorem dX7_goBack_40 : decode cX7_goBack 40 = .ok (.getfield 19, 3) := by decide +kernel
theorem dX7_goBack_43 : decode cX7_goBack 43 = .ok (.iload_n 3, 1) := by decide +kernel
theorem dX7_goBack_44 : decode cX7_goBack 44 = .ok (.aload_n 0, 1) := by decide +kernel
theorem dX7_goBack_45 : decode cX7_goBack 45 = .ok (.getfield 83, 3) := by decide +kernel
theorem dX7_goBack_48 : decode cX7_goBack 48 = .ok (.iload_n 2, 1) := by decide +kernel
theorem dX7_goBack_49 : decode cX7_goBack 49 = .ok (.iload_n 3, 1) := by decide +kernel
theorem dX7_goBack_50 : decode cX7_goBack 50 = .ok (.iadd, 1) := by decide +kernel
theorem dX7_goBack_51 : decode cX7_goBack 51 = .ok (.iaload, 1) := by decide +kernel
theorem dX7_goBack_52 : decode cX7_goBack 52 = .ok (.iastore, 1) := by decide +kernel
theorem dX7_goBack_53 : decode cX7_goBack 53 = .ok (.aload_n 0, 1) := by decide +kernel
theorem dX7_goBack_54 : decode cX7_goBack 54 = .ok (.getfield 16, 3) := by decide +kernel
theorem dX7_goBack_57 : decode cX7_goBack 57 = .ok (.iload_n 3, 1) := by decide +kernel
theorem dX7_goBack_58 : decode cX7_goBack 58 = .ok (.aload_n 0, 1) := by decide +kernel
theorem dX7_goBack_59 : decode cX7_goBack 59 = .ok (.getfield 83, 3) := by decide +kernel
theorem dX7_goBack_62 : decode cX7_goBack 62 = .ok (.iload_n 2, 1) := by decide +kernel
theorem dX7_goBack_63 : decode cX7_goBack 63 = .ok (.bipush 7, 2) := by decide +kernel
theorem dX7_goBack_65 : decode cX7_goBack 65 = .ok (.iadd, 1) := by decide +kernel
theorem dX7_goBack_66 : decode cX7_goBack 66 = .ok (.iload_n 3, 1) := by decide +kernel
theorem dX7_goBack_67 : decode cX7_goBack 67 = .ok (.iadd, 1) := by decide +kernel
theorem dX7_goBack_68 : decode cX7_goBack 68 = .ok (.iaload, 1) := by decide +kernel
theorem dX7_goBack_69 : decode cX7_goBack 69 = .ok (.iastore, 1) := by decide +kernel
theorem dX7_goBack_70 : decode cX7_goBack 70 = .ok (.aload_n 0, 1) := by decide +kernel
theorem dX7_goBack_71 : decode cX7_goBack 71 = .ok (.getfield 28, 3) := by decide +kernel
theorem dX7_goBack_74 : decode cX7_goBack 74 = .ok (.iload_n 3, 1) := by decide +kernel
theorem dX7_goBack_75 : decode cX7_goBack 75 = .ok (.aload_n 0, 1) := by decide +kernel
theorem dX7_goBack_76 : decode cX7_goBack 76 = .ok (.getfield 83, 3) := by decide +kernel
theorem dX7_goBack_79 : decode cX7_goBack 79 = .ok (.iload_n 2, 1) := by decide +kernel
theorem dX7_goBack_80 : decode cX7_goBack 80 = .ok (.bipush 14, 2) := by decide +kernel
theorem dX7_goBack_82 : decode cX7_goBack 82 = .ok (.iadd, 1) := by decide +kernel
theorem dX7_goBack_83 : decode cX7_goBack 83 = .ok (.iload_n 3, 1) := by decide +kernel
theorem dX7_goBack_84 : decode cX7_goBack 84 = .ok (.iadd, 1) := by decide +kernel
theorem dX7_goBack_85 : decode cX7_goBack 85 = .ok (.iaload, 1) := by decide +kernel
theorem dX7_goBack_86 : decode cX7_goBack 86 = .ok (.iastore, 1) := by decide +kernel
theorem dX7_goBack_87 : decode cX7_goBack 87 = .ok (.iinc 3 1, 3) := by decide +kernel
theorem dX7_goBack_90 : decode cX7_goBack 90 = .ok (.goto (-57), 3) := by decide +kernel
theorem dX7_goBack_93 : decode cX7_goBack 93 = .ok (.aload_n 0, 1) := by decide +kernel
theorem dX7_goBack_94 : decode cX7_goBack 94 = .ok (.aload_n 0, 1) := by decide +kernel
theorem dX7_goBack_95 : decode cX7_goBack 95 = .ok (.getfield 83, 3) := by decide +kernel
theorem dX7_goBack_98 : decode cX7_goBack 98 = .ok (.iload_n 2, 1) := by decide +kernel
theorem dX7_goBack_99 : decode cX7_goBack 99 = .ok (.bipush 21, 2) := by decide +kernel
theorem dX7_goBack_101 : decode cX7_goBack 101 = .ok (.iadd, 1) := by decide +kernel
theorem dX7_goBack_102 : decode cX7_goBack 102 = .ok (.iaload, 1) := by decide +kernel
theorem dX7_goBack_103 : decode cX7_goBack 103 = .ok (.putfield 197, 3) := by decide +kernel
theorem dX7_goBack_106 : decode cX7_goBack 106 = .ok (.aload_n 0, 1) := by decide +kernel
theorem dX7_goBack_107 : decode cX7_goBack 107 = .ok (.aload_n 0, 1) := by decide +kernel
theorem dX7_goBack_108 : decode cX7_goBack 108 = .ok (.getfield 83, 3) := by decide +kernel
theorem dX7_goBack_111 : decode cX7_goBack 111 = .ok (.iload_n 2, 1) := by decide +kernel
theorem dX7_goBack_112 : decode cX7_goBack 112 = .ok (.bipush 22, 2) := by decide +kernel
theorem dX7_goBack_114 : decode cX7_goBack 114 = .ok (.iadd, 1) := by decide +kernel
theorem dX7_goBack_115 : decode cX7_goBack 115 = .ok (.iaload, 1) := by decide +kernel
theorem dX7_goBack_116 : decode cX7_goBack 116 = .ok (.putfield 31, 3) := by decide +kernel
theorem dX7_goBack_119 : decode cX7_goBack 119 = .ok (.aload_n 0, 1) := by decide +kernel
theorem dX7_goBack_120 : decode cX7_goBack 120 = .ok (.aload_n 0, 1) := by decide +kernel
theorem dX7_goBack_121 : decode cX7_goBack 121 = .ok (.getfield 83, 3) := by decide +kernel
theorem dX7_goBack_124 : decode cX7_goBack 124 = .ok (.iload_n 2, 1) := by decide +kernel
theorem dX7_goBack_125 : decode cX7_goBack 125 = .ok (.bipush 23, 2) := by decide +kernel
theorem dX7_goBack_127 : decode cX7_goBack 127 = .ok (.iadd, 1) := by decide +kernel
theorem dX7_goBack_128 : decode cX7_goBack 128 = .ok (.iaload, 1) := by decide +kernel
theorem dX7_goBack_129 : decode cX7_goBack 129 = .ok (.putfield 248, 3) := by decide +kernel
theorem dX7_goBack_132 : decode cX7_goBack 132 = .ok (.iconst 1, 1) := by decide +kernel
theorem dX7_goBack_133 : decode cX7_goBack 133 = .ok (.ireturn, 1) := by decide +kernel
theorem dJ9_abs_0f7a4_0 : decode cJ9_abs_0f7a4 0 = .ok (.iload_n 0, 1) := by decide +kernel
theorem dJ9_abs_0f7a4_1 : decode cJ9_abs_0f7a4 1 = .ok (.ifCond .ge 8, 3) := by decide +kernel
theorem dJ9_abs_0f7a4_4 : decode cJ9_abs_0f7a4 4 = .ok (.iload_n 0, 1) := by decide +kernel
theorem dJ9_abs_0f7a4_5 : decode cJ9_abs_0f7a4 5 = .ok (.ineg, 1) := by decide +kernel
theorem dJ9_abs_0f7a4_6 : decode cJ9_abs_0f7a4 6 = .ok (.goto 4, 3) := by decide +kernel
theorem dJ9_abs_0f7a4_9 : decode cJ9_abs_0f7a4 9 = .ok (.iload_n 0, 1) := by decide +kernel
theorem dJ9_abs_0f7a4_10 : decode cJ9_abs_0f7a4 10 = .ok (.ireturn, 1) := by decide +kernel
theorem dJ9_max_7cf53_0 : decode cJ9_max_7cf53 0 = .ok (.iload_n 0, 1) := by decide +kernel
theorem dJ9_max_7cf53_1 : decode cJ9_max_7cf53 1 = .ok (.iload_n 1, 1) := by decide +kernel
theorem dJ9_max_7cf53_2 : decode cJ9_max_7cf53 2 = .ok (.if_icmp .lt 7, 3) := by decide +kernel
theorem dJ9_max_7cf53_5 : decode cJ9_max_7cf53 5 = .ok (.iload_n 0, 1) := by decide +kernel
theorem dJ9_max_7cf53_6 : decode cJ9_max_7cf53 6 = .ok (.goto 4, 3) := by decide +kernel
theorem dJ9_max_7cf53_9 : decode cJ9_max_7cf53 9 = .ok (.iload_n 1, 1) := by decide +kernel
theorem dJ9_max_7cf53_10 : decode cJ9_max_7cf53 10 = .ok (.ireturn, 1) := by decide +kernel
theorem dJ0_length_8abf5_0 : decode cJ0_length_8abf5 0 = .ok (.aload_n 0, 1) := by decide +kernel
theorem dJ0_length_8abf5_1 : decode cJ0_length_8abf5 1 = .ok (.getfield 9, 3) := by decide +kernel
theorem dJ0_length_8abf5_4 : decode cJ0_length_8abf5 4 = .ok (.arraylength, 1) := by decide +kernel
theorem dJ0_length_8abf5_5 : decode cJ0_length_8abf5 5 = .ok (.aload_n 0, 1) := by decide +kernel
theorem dJ0_length_8abf5_6 : decode cJ0_length_8abf5 6 = .ok (.invokevirtual 335, 3) := by decide +kernel
theorem dJ0_length_8abf5_9 : decode cJ0_length_8abf5 9 = .ok (.ishr, 1) := by decide +kernel
theorem dJ0_length_8abf5_10 : decode cJ0_length_8abf5 10 = .ok (.ireturn, 1) := by decide +kernel
theorem dJ0_charAt_5068e_0 : decode cJ0_charAt_5068e 0 = .ok (.aload_n 0, 1) := by decide +kernel
theorem dJ0_charAt_5068e_1 : decode cJ0_charAt_5068e 1 = .ok (.invokevirtual 492, 3) := by decide +kernel
theorem dJ0_charAt_5068e_4 : decode cJ0_charAt_5068e 4 = .ok (.ifCond .eq 12, 3) := by decide +kernel
theorem dJ0_charAt_5068e_7 : decode cJ0_charAt_5068e 7 = .ok (.aload_n 0, 1) := by decide +kernel
theorem dJ0_charAt_5068e_8 : decode cJ0_charAt_5068e 8 = .ok (.getfield 9, 3) := by decide +kernel
theorem dJ0_charAt_5068e_11 : decode cJ0_charAt_5068e 11 = .ok (.iload_n 1, 1) := by decide +kernel
theorem dJ0_charAt_5068e_12 : decode cJ0_charAt_5068e 12 = .ok (.invokestatic 495, 3) := by decide +kernel
theorem dJ0_charAt_5068e_15 : decode cJ0_charAt_5068e 15 = .ok (.ireturn, 1) := by decide +kernel
theorem dJ0_charAt_5068e_16 : decode cJ0_charAt_5068e 16 = .ok (.aload_n 0, 1) := by decide +kernel
theorem dJ0_charAt_5068e_17 : decode cJ0_charAt_5068e 17 = .ok (.getfield 9, 3) := by decide +kernel
theorem dJ0_charAt_5068e_20 : decode cJ0_charAt_5068e 20 = .ok (.iload_n 1, 1) := by decide +kernel
theorem dJ0_charAt_5068e_21 : decode cJ0_charAt_5068e 21 = .ok (.invokestatic 498, 3) := by decide +kernel
theorem dJ0_charAt_5068e_24 : decode cJ0_charAt_5068e 24 = .ok (.ireturn, 1) := by decide +kernel
theorem dJ0_coder_7d493_0 : decode cJ0_coder_7d493 0 = .ok (.getstatic 38, 3) := by decide +kernel
theorem dJ0_coder_7d493_3 : decode cJ0_coder_7d493 3 = .ok (.ifCond .eq 10, 3) := by decide +kernel
theorem dJ0_coder_7d493_6 : decode cJ0_coder_7d493 6 = .ok (.aload_n 0, 1) := by decide +kernel
theorem dJ0_coder_7d493_7 : decode cJ0_coder_7d493 7 = .ok (.getfield 15, 3) := by decide +kernel
theorem dJ0_coder_7d493_10 : decode cJ0_coder_7d493 10 = .ok (.goto 4, 3) := by decide +kernel
theorem dJ0_coder_7d493_13 : decode cJ0_coder_7d493 13 = .ok (.iconst 1, 1) := by decide +kernel
theorem dJ0_coder_7d493_14 : decode cJ0_coder_7d493 14 = .ok (.ireturn, 1) := by decide +kernel
theorem dJ0_isLatin1_aae02_0 : decode cJ0_isLatin1_aae02 0 = .ok (.getstatic 38, 3) := by decide +kernel
theorem dJ0_isLatin1_aae02_3 : decode cJ0_isLatin1_aae02 3 = .ok (.ifCond .eq 14, 3) := by decide +kernel
theorem dJ0_isLatin1_aae02_6 : decode cJ0_isLatin1_aae02 6 = .ok (.aload_n 0, 1) := by decide +kernel
theorem dJ0_isLatin1_aae02_7 : decode cJ0_isLatin1_aae02 7 = .ok (.getfield 15, 3) := by decide +kernel
theorem dJ0_isLatin1_aae02_10 : decode cJ0_isLatin1_aae02 10 = .ok (.ifCond .ne 7, 3) := by decide +kernel
theorem dJ0_isLatin1_aae02_13 : decode cJ0_isLatin1_aae02 13 = .ok (.iconst 1, 1) := by decide +kernel
theorem dJ0_isLatin1_aae02_14 : decode cJ0_isLatin1_aae02 14 = .ok (.goto 4, 3) := by decide +kernel
theorem dJ0_isLatin1_aae02_17 : decode cJ0_isLatin1_aae02 17 = .ok (.iconst 0, 1) := by decide +kernel
theorem dJ0_isLatin1_aae02_18 : decode cJ0_isLatin1_aae02 18 = .ok (.ireturn, 1) := by decide +kernel
theorem dJ0_checkIndex_df160_0 : decode cJ0_checkIndex_df160 0 = .ok (.iload_n 0, 1) := by decide +kernel
theorem dJ0_checkIndex_df160_1 : decode cJ0_checkIndex_df160 1 = .ok (.iload_n 1, 1) := by decide +kernel
theorem dJ0_checkIndex_df160_2 : decode cJ0_checkIndex_df160 2 = .ok (.getstatic 1053, 3) := by decide +kernel
theorem dJ0_checkIndex_df160_5 : decode cJ0_checkIndex_df160 5 = .ok (.invokestatic 1059, 3) := by decide +kernel
theorem dJ0_checkIndex_df160_8 : decode cJ0_checkIndex_df160 8 = .ok (.pop, 1) := by decide +kernel
theorem dJ0_checkIndex_df160_9 : decode cJ0_checkIndex_df160 9 = .ok (.return_, 1) := by decide +kernel
theorem dJ1_charAt_3b067_0 : decode cJ1_charAt_3b067 0 = .ok (.iload_n 1, 1) := by decide +kernel
theorem dJ1_charAt_3b067_1 : decode cJ1_charAt_3b067 1 = .ok (.aload_n 0, 1) := by decide +kernel
theorem dJ1_charAt_3b067_2 : decode cJ1_charAt_3b067 2 = .ok (.arraylength, 1) := by decide +kernel
theorem dJ1_charAt_3b067_3 : decode cJ1_charAt_3b067 3 = .ok (.invokestatic 9, 3) := by decide +kernel
theorem dJ1_charAt_3b067_6 : decode cJ1_charAt_3b067 6 = .ok (.aload_n 0, 1) := by decide +kernel
theorem dJ1_charAt_3b067_7 : decode cJ1_charAt_3b067 7 = .ok (.iload_n 1, 1) := by decide +kernel
theorem dJ1_charAt_3b067_8 : decode cJ1_charAt_3b067 8 = .ok (.baload, 1) := by decide +kernel
theorem dJ1_charAt_3b067_9 : decode cJ1_charAt_3b067 9 = .ok (.sipush 255, 3) := by decide +kernel
theorem dJ1_charAt_3b067_12 : decode cJ1_charAt_3b067 12 = .ok (.iand, 1) := by decide +kernel
theorem dJ1_charAt_3b067_13 : decode cJ1_charAt_3b067 13 = .ok (.i2c, 1) := by decide +kernel
theorem dJ1_charAt_3b067_14 : decode cJ1_charAt_3b067 14 = .ok (.ireturn, 1) := by decide +kernel
theorem dJ2_getChar_3b067_0 : decode cJ2_getChar_3b067 0 = .ok (.getstatic 44, 3) := by decide +kernel
theorem dJ2_getChar_3b067_3 : decode cJ2_getChar_3b067 3 = .ok (.ifCond .ne 25, 3) := by decide +kernel
theorem dJ2_getChar_3b067_6 : decode cJ2_getChar_3b067 6 = .ok (.iload_n 1, 1) := by decide +kernel
theorem dJ2_getChar_3b067_7 : decode cJ2_getChar_3b067 7 = .ok (.ifCond .lt 11, 3) := by decide +kernel
theorem dJ2_getChar_3b067_10 : decode cJ2_getChar_3b067 10 = .ok (.iload_n 1, 1) := by decide +kernel
theorem dJ2_getChar_3b067_11 : decode cJ2_getChar_3b067 11 = .ok (.aload_n 0, 1) := by decide +kernel
theorem dJ2_getChar_3b067_12 : decode cJ2_getChar_3b067 12 = .ok (.invokestatic 48, 3) := by decide +kernel
theorem dJ2_getChar_3b067_15 : decode cJ2_getChar_3b067 15 = .ok (.if_icmp .lt 13, 3) := by decide +kernel
theorem dJ2_getChar_3b067_18 : decode cJ2_getChar_3b067 18 = .ok (.new 52, 3) := by decide +kernel
theorem dJ2_getChar_3b067_21 : decode cJ2_getChar_3b067 21 = .ok (.dup, 1) := by decide +kernel
theorem dJ2_getChar_3b067_22 : decode cJ2_getChar_3b067 22 = .ok (.ldc 54, 2) := by decide +kernel
theorem dJ2_getChar_3b067_24 : decode cJ2_getChar_3b067 24 = .ok (.invokespecial 56, 3) := by decide +kernel
theorem dJ2_getChar_3b067_27 : decode cJ2_getChar_3b067 27 = .ok (.athrow, 1) := by decide +kernel
theorem dJ2_getChar_3b067_28 : decode cJ2_getChar_3b067 28 = .ok (.iload_n 1, 1) := by decide +kernel
theorem dJ2_getChar_3b067_29 : decode cJ2_getChar_3b067 29 = .ok (.iconst 1, 1) := by decide +kernel
theorem dJ2_getChar_3b067_30 : decode cJ2_getChar_3b067 30 = .ok (.ishl, 1) := by decide +kernel
theorem dJ2_getChar_3b067_31 : decode cJ2_getChar_3b067 31 = .ok (.istore_n 1, 1) := by decide +kernel
theorem dJ2_getChar_3b067_32 : decode cJ2_getChar_3b067 32 = .ok (.aload_n 0, 1) := by decide +kernel
theorem dJ2_getChar_3b067_33 : decode cJ2_getChar_3b067 33 = .ok (.iload_n 1, 1) := by decide +kernel
theorem dJ2_getChar_3b067_34 : decode cJ2_getChar_3b067 34 = .ok (.iinc 1 1, 3) := by decide +kernel
theorem dJ2_getChar_3b067_37 : decode cJ2_getChar_3b067 37 = .ok (.baload, 1) := by decide +kernel
theorem dJ2_getChar_3b067_38 : decode cJ2_getChar_3b067 38 = .ok (.sipush 255, 3) := by decide +kernel
theorem dJ2_getChar_3b067_41 : decode cJ2_getChar_3b067 41 = .ok (.iand, 1) := by decide +kernel
theorem dJ2_getChar_3b067_42 : decode cJ2_getChar_3b067 42 = .ok (.getstatic 59, 3) := by decide +kernel
theorem dJ2_getChar_3b067_45 : decode cJ2_getChar_3b067 45 = .ok (.ishl, 1) := by decide +kernel
theorem dJ2_getChar_3b067_46 : decode cJ2_getChar_3b067 46 = .ok (.aload_n 0, 1) := by decide +kernel
theorem dJ2_getChar_3b067_47 : decode cJ2_getChar_3b067 47 = .ok (.iload_n 1, 1) := by decide +kernel
theorem dJ2_getChar_3b067_48 : decode cJ2_getChar_3b067 48 = .ok (.baload, 1) := by decide +kernel
theorem dJ2_getChar_3b067_49 : decode cJ2_getChar_3b067 49 = .ok (.sipush 255, 3) := by decide +kernel
theorem dJ2_getChar_3b067_52 : decode cJ2_getChar_3b067 52 = .ok (.iand, 1) := by decide +kernel
theorem dJ2_getChar_3b067_53 : decode cJ2_getChar_3b067 53 = .ok (.getstatic 63, 3) := by decide +kernel
theorem dJ2_getChar_3b067_56 : decode cJ2_getChar_3b067 56 = .ok (.ishl, 1) := by decide +kernel
theorem dJ2_getChar_3b067_57 : decode cJ2_getChar_3b067 57 = .ok (.ior, 1) := by decide +kernel
theorem dJ2_getChar_3b067_58 : decode cJ2_getChar_3b067 58 = .ok (.i2c, 1) := by decide +kernel
theorem dJ2_getChar_3b067_59 : decode cJ2_getChar_3b067 59 = .ok (.ireturn, 1) := by decide +kernel
theorem dJ2_length_9d52b_0 : decode cJ2_length_9d52b 0 = .ok (.aload_n 0, 1) := by decide +kernel
theorem dJ2_length_9d52b_1 : decode cJ2_length_9d52b 1 = .ok (.arraylength, 1) := by decide +kernel
theorem dJ2_length_9d52b_2 : decode cJ2_length_9d52b 2 = .ok (.iconst 1, 1) := by decide +kernel
theorem dJ2_length_9d52b_3 : decode cJ2_length_9d52b 3 = .ok (.ishr, 1) := by decide +kernel
theorem dJ2_length_9d52b_4 : decode cJ2_length_9d52b 4 = .ok (.ireturn, 1) := by decide +kernel
theorem dJ2_charAt_3b067_0 : decode cJ2_charAt_3b067 0 = .ok (.iload_n 1, 1) := by decide +kernel
theorem dJ2_charAt_3b067_1 : decode cJ2_charAt_3b067 1 = .ok (.aload_n 0, 1) := by decide +kernel
theorem dJ2_charAt_3b067_2 : decode cJ2_charAt_3b067 2 = .ok (.invokestatic 67, 3) := by decide +kernel
theorem dJ2_charAt_3b067_5 : decode cJ2_charAt_3b067 5 = .ok (.aload_n 0, 1) := by decide +kernel
theorem dJ2_charAt_3b067_6 : decode cJ2_charAt_3b067 6 = .ok (.iload_n 1, 1) := by decide +kernel
theorem dJ2_charAt_3b067_7 : decode cJ2_charAt_3b067 7 = .ok (.invokestatic 71, 3) := by decide +kernel
theorem dJ2_charAt_3b067_10 : decode cJ2_charAt_3b067 10 = .ok (.ireturn, 1) := by decide +kernel
theorem dJ2_checkIndex_2214a_0 : decode cJ2_checkIndex_2214a 0 = .ok (.iload_n 0, 1) := by decide +kernel
theorem dJ2_checkIndex_2214a_1 : decode cJ2_checkIndex_2214a 1 = .ok (.aload_n 1, 1) := by decide +kernel
theorem dJ2_checkIndex_2214a_2 : decode cJ2_checkIndex_2214a 2 = .ok (.invokestatic 48, 3) := by decide +kernel
theorem dJ2_checkIndex_2214a_5 : decode cJ2_checkIndex_2214a 5 = .ok (.invokestatic 414, 3) := by decide +kernel
theorem dJ2_checkIndex_2214a_8 : decode cJ2_checkIndex_2214a 8 = .ok (.return_, 1) := by decide +kernel
theorem dJ3_checkIndex_8e157_0 : decode cJ3_checkIndex_8e157 0 = .ok (.iload_n 0, 1) := by decide +kernel
theorem dJ3_checkIndex_8e157_1 : decode cJ3_checkIndex_8e157 1 = .ok (.ifCond .lt 8, 3) := by decide +kernel
theorem dJ3_checkIndex_8e157_4 : decode cJ3_checkIndex_8e157 4 = .ok (.iload_n 0, 1) := by decide +kernel
theorem dJ3_checkIndex_8e157_5 : decode cJ3_checkIndex_8e157 5 = .ok (.iload_n 1, 1) := by decide +kernel
theorem dJ3_checkIndex_8e157_6 : decode cJ3_checkIndex_8e157 6 = .ok (.if_icmp .lt 10, 3) := by decide +kernel
theorem dJ3_checkIndex_8e157_9 : decode cJ3_checkIndex_8e157 9 = .ok (.aload_n 2, 1) := by decide +kernel
theorem dJ3_checkIndex_8e157_10 : decode cJ3_checkIndex_8e157 10 = .ok (.iload_n 0, 1) := by decide +kernel
theorem dJ3_checkIndex_8e157_11 : decode cJ3_checkIndex_8e157 11 = .ok (.iload_n 1, 1) := by decide +kernel
theorem dJ3_checkIndex_8e157_12 : decode cJ3_checkIndex_8e157 12 = .ok (.invokestatic 95, 3) := by decide +kernel
theorem dJ3_checkIndex_8e157_15 : decode cJ3_checkIndex_8e157 15 = .ok (.athrow, 1) := by decide +kernel
theorem dJ3_checkIndex_8e157_16 : decode cJ3_checkIndex_8e157 16 = .ok (.iload_n 0, 1) := by decide +kernel
theorem dJ3_checkIndex_8e157_17 : decode cJ3_checkIndex_8e157 17 = .ok (.ireturn, 1) := by decide +kernel
theorem dL_law_0 : decode cL_law 0 = .ok (.new 7, 3) := by decide +kernel
theorem dL_law_3 : decode cL_law 3 = .ok (.dup, 1) := by decide +kernel
theorem dL_law_4 : decode cL_law 4 = .ok (.invokespecial 9, 3) := by decide +kernel
theorem dL_law_7 : decode cL_law 7 = .ok (.astore_n 1, 1) := by decide +kernel
theorem dL_law_8 : decode cL_law 8 = .ok (.new 10, 3) := by decide +kernel
theorem dL_law_11 : decode cL_law 11 = .ok (.dup, 1) := by decide +kernel
theorem dL_law_12 : decode cL_law 12 = .ok (.invokespecial 12, 3) := by decide +kernel
theorem dL_law_15 : decode cL_law 15 = .ok (.astore_n 2, 1) := by decide +kernel
theorem dL_law_16 : decode cL_law 16 = .ok (.iconst 0, 1) := by decide +kernel
theorem dL_law_17 : decode cL_law 17 = .ok (.istore_n 3, 1) := by decide +kernel
theorem dL_law_18 : decode cL_law 18 = .ok (.iload_n 3, 1) := by decide +kernel
theorem dL_law_19 : decode cL_law 19 = .ok (.aload_n 0, 1) := by decide +kernel
theorem dL_law_20 : decode cL_law 20 = .ok (.arraylength, 1) := by decide +kernel
theorem dL_law_21 : decode cL_law 21 = .ok (.iconst 4, 1) := by decide +kernel
theorem dL_law_22 : decode cL_law 22 = .ok (.isub, 1) := by decide +kernel
theorem dL_law_23 : decode cL_law 23 = .ok (.if_icmp .gt 820, 3) := by decide +kernel
theorem dL_law_26 : decode cL_law 26 = .ok (.aload_n 0, 1) := by decide +kernel
theorem dL_law_27 : decode cL_law 27 = .ok (.iload_n 3, 1) := by decide +kernel
theorem dL_law_28 : decode cL_law 28 = .ok (.iaload, 1) := by decide +kernel
theorem dL_law_29 : decode cL_law 29 = .ok (.bipush 31, 2) := by decide +kernel
theorem dL_law_31 : decode cL_law 31 = .ok (.iand, 1) := by decide +kernel
theorem dL_law_32 : decode cL_law 32 = .ok (.tableswitch 805 0 26 #[124, 187, 200, 213, 236, 269, 302, 335, 358, 391, 414, 437, 460, 483, 506, 529, 552, 565, 598, 621, 644, 677, 710, 723, 736, 759, 782], 124) := by decide +kernel
theorem dL_law_156 : decode cL_law 156 = .ok (.aload_n 1, 1) := by decide +kernel
theorem dL_law_157 : decode cL_law 157 = .ok (.aload_n 0, 1) := by decide +kernel
theorem dL_law_158 : decode cL_law 158 = .ok (.iload_n 3, 1) := by decide +kernel
theorem dL_law_159 : decode cL_law 159 = .ok (.iconst 1, 1) := by decide +kernel
theorem dL_law_160 : decode cL_law 160 = .ok (.iadd, 1) := by decide +kernel
theorem dL_law_161 : decode cL_law 161 = .ok (.iaload, 1) := by decide +kernel
theorem dL_law_162 : decode cL_law 162 = .ok (.aload_n 0, 1) := by decide +kernel
theorem dL_law_163 : decode cL_law 163 = .ok (.iload_n 3, 1) := by decide +kernel
theorem dL_law_164 : decode cL_law 164 = .ok (.iconst 2, 1) := by decide +kernel
theorem dL_law_165 : decode cL_law 165 = .ok (.iadd, 1) := by decide +kernel
theorem dL_law_166 : decode cL_law 166 = .ok (.iaload, 1) := by decide +kernel
theorem dL_law_167 : decode cL_law 167 = .ok (.i2l, 1) := by decide +kernel
theorem dL_law_168 : decode cL_law 168 = .ok (.bipush 32, 2) := by decide +kernel
theorem dL_law_170 : decode cL_law 170 = .ok (.lshl, 1) := by decide +kernel
theorem dL_law_171 : decode cL_law 171 = .ok (.aload_n 0, 1) := by decide +kernel
theorem dL_law_172 : decode cL_law 172 = .ok (.iload_n 3, 1) := by decide +kernel
theorem dL_law_173 : decode cL_law 173 = .ok (.iconst 3, 1) := by decide +kernel
theorem dL_law_174 : decode cL_law 174 = .ok (.iadd, 1) := by decide +kernel
theorem dL_law_175 : decode cL_law 175 = .ok (.iaload, 1) := by decide +kernel
theorem dL_law_176 : decode cL_law 176 = .ok (.i2l, 1) := by decide +kernel
theorem dL_law_177 : decode cL_law 177 = .ok (.ldc2_w 13, 3) := by decide +kernel
theorem dL_law_180 : decode cL_law 180 = .ok (.land, 1) := by decide +kernel
theorem dL_law_181 : decode cL_law 181 = .ok (.lor, 1) := by decide +kernel
theorem dL_law_182 : decode cL_law 182 = .ok (.invokevirtual 15, 3) := by decide +kernel
theorem dL_law_185 : decode cL_law 185 = .ok (.aload_n 2, 1) := by decide +kernel
theorem dL_law_186 : decode cL_law 186 = .ok (.aload_n 0, 1) := by decide +kernel
theorem dL_law_187 : decode cL_law 187 = .ok (.iload_n 3, 1) := by decide +kernel
theorem dL_law_188 : decode cL_law 188 = .ok (.iconst 1, 1) := by decide +kernel
theorem dL_law_189 : decode cL_law 189 = .ok (.iadd, 1) := by decide +kernel
theorem dL_law_190 : decode cL_law 190 = .ok (.iaload, 1) := by decide +kernel
theorem dL_law_191 : decode cL_law 191 = .ok (.aload_n 0, 1) := by decide +kernel
theorem dL_law_192 : decode cL_law 192 = .ok (.iload_n 3, 1) := by decide +kernel
theorem dL_law_193 : decode cL_law 193 = .ok (.iconst 2, 1) := by decide +kernel
theorem dL_law_194 : decode cL_law 194 = .ok (.iadd, 1) := by decide +kernel
theorem dL_law_195 : decode cL_law 195 = .ok (.iaload, 1) := by decide +kernel
theorem dL_law_196 : decode cL_law 196 = .ok (.i2l, 1) := by decide +kernel
theorem dL_law_197 : decode cL_law 197 = .ok (.bipush 32, 2) := by decide +kernel
theorem dL_law_199 : decode cL_law 199 = .ok (.lshl, 1) := by decide +kernel
theorem dL_law_200 : decode cL_law 200 = .ok (.aload_n 0, 1) := by decide +kernel
theorem dL_law_201 : decode cL_law 201 = .ok (.iload_n 3, 1) := by decide +kernel
theorem dL_law_202 : decode cL_law 202 = .ok (.iconst 3, 1) := by decide +kernel
theorem dL_law_203 : decode cL_law 203 = .ok (.iadd, 1) := by decide +kernel
theorem dL_law_204 : decode cL_law 204 = .ok (.iaload, 1) := by decide +kernel
theorem dL_law_205 : decode cL_law 205 = .ok (.i2l, 1) := by decide +kernel
theorem dL_law_206 : decode cL_law 206 = .ok (.ldc2_w 13, 3) := by decide +kernel
theorem dL_law_209 : decode cL_law 209 = .ok (.land, 1) := by decide +kernel
theorem dL_law_210 : decode cL_law 210 = .ok (.lor, 1) := by decide +kernel
theorem dL_law_211 : decode cL_law 211 = .ok (.invokevirtual 19, 3) := by decide +kernel
theorem dL_law_214 : decode cL_law 214 = .ok (.if_icmp .eq 623, 3) := by decide +kernel
theorem dL_law_217 : decode cL_law 217 = .ok (.iconst 0, 1) := by decide +kernel
theorem dL_law_218 : decode cL_law 218 = .ok (.ireturn, 1) := by decide +kernel
theorem dL_law_219 : decode cL_law 219 = .ok (.aload_n 1, 1) := by decide +kernel
theorem dL_law_220 : decode cL_law 220 = .ok (.invokevirtual 20, 3) := by decide +kernel
theorem dL_law_223 : decode cL_law 223 = .ok (.aload_n 2, 1) := by decide +kernel
theorem dL_law_224 : decode cL_law 224 = .ok (.invokevirtual 24, 3) := by decide +kernel
theorem dL_law_227 : decode cL_law 227 = .ok (.if_icmp .eq 610, 3) := by decide +kernel
theorem dL_law_230 : decode cL_law 230 = .ok (.iconst 0, 1) := by decide +kernel
theorem dL_law_231 : decode cL_law 231 = .ok (.ireturn, 1) := by decide +kernel
theorem dL_law_232 : decode cL_law 232 = .ok (.aload_n 1, 1) := by decide +kernel
theorem dL_law_233 : decode cL_law 233 = .ok (.invokevirtual 25, 3) := by decide +kernel
theorem dL_law_236 : decode cL_law 236 = .ok (.aload_n 2, 1) := by decide +kernel
theorem dL_law_237 : decode cL_law 237 = .ok (.invokevirtual 28, 3) := by decide +kernel
theorem dL_law_240 : decode cL_law 240 = .ok (.if_icmp .eq 597, 3) := by decide +kernel
theorem dL_law_243 : decode cL_law 243 = .ok (.iconst 0, 1) := by decide +kernel
theorem dL_law_244 : decode cL_law 244 = .ok (.ireturn, 1) := by decide +kernel
theorem dL_law_245 : decode cL_law 245 = .ok (.aload_n 1, 1) := by decide +kernel
theorem dL_law_246 : decode cL_law 246 = .ok (.aload_n 0, 1) := by decide +kernel
theorem dL_law_247 : decode cL_law 247 = .ok (.iload_n 3, 1) := by decide +kernel
theorem dL_law_248 : decode cL_law 248 = .ok (.iconst 1, 1) := by decide +kernel
theorem dL_law_249 : decode cL_law 249 = .ok (.iadd, 1) := by decide +kernel
theorem dL_law_250 : decode cL_law 250 = .ok (.iaload, 1) := by decide +kernel
theorem dL_law_251 : decode cL_law 251 = .ok (.invokevirtual 29, 3) := by decide +kernel
theorem dL_law_254 : decode cL_law 254 = .ok (.aload_n 2, 1) := by decide +kernel
theorem dL_law_255 : decode cL_law 255 = .ok (.aload_n 0, 1) := by decide +kernel
theorem dL_law_256 : decode cL_law 256 = .ok (.iload_n 3, 1) := by decide +kernel
theorem dL_law_257 : decode cL_law 257 = .ok (.iconst 1, 1) := by decide +kernel
theorem dL_law_258 : decode cL_law 258 = .ok (.iadd, 1) := by decide +kernel
theorem dL_law_259 : decode cL_law 259 = .ok (.iaload, 1) := by decide +kernel
theorem dL_law_260 : decode cL_law 260 = .ok (.invokevirtual 33, 3) := by decide +kernel
theorem dL_law_263 : decode cL_law 263 = .ok (.if_icmp .eq 574, 3) := by decide +kernel
theorem dL_law_266 : decode cL_law 266 = .ok (.iconst 0, 1) := by decide +kernel
theorem dL_law_267 : decode cL_law 267 = .ok (.ireturn, 1) := by decide +kernel
theorem dL_law_268 : decode cL_law 268 = .ok (.aload_n 1, 1) := by decide +kernel
theorem dL_law_269 : decode cL_law 269 = .ok (.aload_n 0, 1) := by decide +kernel
theorem dL_law_270 : decode cL_law 270 = .ok (.iload_n 3, 1) := by decide +kernel
theorem dL_law_271 : decode cL_law 271 = .ok (.iconst 1, 1) := by decide +kernel
theorem dL_law_272 : decode cL_law 272 = .ok (.iadd, 1) := by decide +kernel
theorem dL_law_273 : decode cL_law 273 = .ok (.iaload, 1) := by decide +kernel
theorem dL_law_274 : decode cL_law 274 = .ok (.aload_n 0, 1) := by decide +kernel
theorem dL_law_275 : decode cL_law 275 = .ok (.iload_n 3, 1) := by decide +kernel
theorem dL_law_276 : decode cL_law 276 = .ok (.iconst 2, 1) := by decide +kernel
theorem dL_law_277 : decode cL_law 277 = .ok (.iadd, 1) := by decide +kernel
theorem dL_law_278 : decode cL_law 278 = .ok (.iaload, 1) := by decide +kernel
theorem dL_law_279 : decode cL_law 279 = .ok (.invokevirtual 34, 3) := by decide +kernel
theorem dL_law_282 : decode cL_law 282 = .ok (.aload_n 2, 1) := by decide +kernel
theorem dL_law_283 : decode cL_law 283 = .ok (.aload_n 0, 1) := by decide +kernel
theorem dL_law_284 : decode cL_law 284 = .ok (.iload_n 3, 1) := by decide +kernel
theorem dL_law_285 : decode cL_law 285 = .ok (.iconst 1, 1) := by decide +kernel
theorem dL_law_286 : decode cL_law 286 = .ok (.iadd, 1) := by decide +kernel
theorem dL_law_287 : decode cL_law 287 = .ok (.iaload, 1) := by decide +kernel
theorem dL_law_288 : decode cL_law 288 = .ok (.aload_n 0, 1) := by decide +kernel
theorem dL_law_289 : decode cL_law 289 = .ok (.iload_n 3, 1) := by decide +kernel
theorem dL_law_290 : decode cL_law 290 = .ok (.iconst 2, 1) := by decide +kernel
theorem dL_law_291 : decode cL_law 291 = .ok (.iadd, 1) := by decide +kernel
theorem dL_law_292 : decode cL_law 292 = .ok (.iaload, 1) := by decide +kernel
theorem dL_law_293 : decode cL_law 293 = .ok (.invokevirtual 38, 3) := by decide +kernel
theorem dL_law_296 : decode cL_law 296 = .ok (.if_icmp .eq 541, 3) := by decide +kernel
theorem dL_law_299 : decode cL_law 299 = .ok (.iconst 0, 1) := by decide +kernel
theorem dL_law_300 : decode cL_law 300 = .ok (.ireturn, 1) := by decide +kernel
theorem dL_law_301 : decode cL_law 301 = .ok (.aload_n 1, 1) := by decide +kernel
theorem dL_law_302 : decode cL_law 302 = .ok (.aload_n 0, 1) := by decide +kernel
theorem dL_law_303 : decode cL_law 303 = .ok (.iload_n 3, 1) := by decide +kernel
theorem dL_law_304 : decode cL_law 304 = .ok (.iconst 1, 1) := by decide +kernel
theorem dL_law_305 : decode cL_law 305 = .ok (.iadd, 1) := by decide +kernel
theorem dL_law_306 : decode cL_law 306 = .ok (.iaload, 1) := by decide +kernel
theorem dL_law_307 : decode cL_law 307 = .ok (.aload_n 0, 1) := by decide +kernel
theorem dL_law_308 : decode cL_law 308 = .ok (.iload_n 3, 1) := by decide +kernel
theorem dL_law_309 : decode cL_law 309 = .ok (.iconst 2, 1) := by decide +kernel
theorem dL_law_310 : decode cL_law 310 = .ok (.iadd, 1) := by decide +kernel
theorem dL_law_311 : decode cL_law 311 = .ok (.iaload, 1) := by decide +kernel
theorem dL_law_312 : decode cL_law 312 = .ok (.invokevirtual 39, 3) := by decide +kernel
theorem dL_law_315 : decode cL_law 315 = .ok (.aload_n 2, 1) := by decide +kernel
theorem dL_law_316 : decode cL_law 316 = .ok (.aload_n 0, 1) := by decide +kernel
theorem dL_law_317 : decode cL_law 317 = .ok (.iload_n 3, 1) := by decide +kernel
theorem dL_law_318 : decode cL_law 318 = .ok (.iconst 1, 1) := by decide +kernel
theorem dL_law_319 : decode cL_law 319 = .ok (.iadd, 1) := by decide +kernel
theorem dL_law_320 : decode cL_law 320 = .ok (.iaload, 1) := by decide +kernel
theorem dL_law_321 : decode cL_law 321 = .ok (.aload_n 0, 1) := by decide +kernel
theorem dL_law_322 : decode cL_law 322 = .ok (.iload_n 3, 1) := by decide +kernel
theorem dL_law_323 : decode cL_law 323 = .ok (.iconst 2, 1) := by decide +kernel
theorem dL_law_324 : decode cL_law 324 = .ok (.iadd, 1) := by decide +kernel
theorem dL_law_325 : decode cL_law 325 = .ok (.iaload, 1) := by decide +kernel
theorem dL_law_326 : decode cL_law 326 = .ok (.invokevirtual 42, 3) := by decide +kernel
theorem dL_law_329 : decode cL_law 329 = .ok (.if_icmp .eq 508, 3) := by decide +kernel
theorem dL_law_332 : decode cL_law 332 = .ok (.iconst 0, 1) := by decide +kernel
theorem dL_law_333 : decode cL_law 333 = .ok (.ireturn, 1) := by decide +kernel
theorem dL_law_334 : decode cL_law 334 = .ok (.aload_n 1, 1) := by decide +kernel
theorem dL_law_335 : decode cL_law 335 = .ok (.aload_n 0, 1) := by decide +kernel
theorem dL_law_336 : decode cL_law 336 = .ok (.iload_n 3, 1) := by decide +kernel
theorem dL_law_337 : decode cL_law 337 = .ok (.iconst 1, 1) := by decide +kernel
theorem dL_law_338 : decode cL_law 338 = .ok (.iadd, 1) := by decide +kernel
theorem dL_law_339 : decode cL_law 339 = .ok (.iaload, 1) := by decide +kernel
theorem dL_law_340 : decode cL_law 340 = .ok (.aload_n 0, 1) := by decide +kernel
theorem dL_law_341 : decode cL_law 341 = .ok (.iload_n 3, 1) := by decide +kernel
theorem dL_law_342 : decode cL_law 342 = .ok (.iconst 2, 1) := by decide +kernel
theorem dL_law_343 : decode cL_law 343 = .ok (.iadd, 1) := by decide +kernel
theorem dL_law_344 : decode cL_law 344 = .ok (.iaload, 1) := by decide +kernel
theorem dL_law_345 : decode cL_law 345 = .ok (.invokevirtual 43, 3) := by decide +kernel
theorem dL_law_348 : decode cL_law 348 = .ok (.aload_n 2, 1) := by decide +kernel
theorem dL_law_349 : decode cL_law 349 = .ok (.aload_n 0, 1) := by decide +kernel
theorem dL_law_350 : decode cL_law 350 = .ok (.iload_n 3, 1) := by decide +kernel
theorem dL_law_351 : decode cL_law 351 = .ok (.iconst 1, 1) := by decide +kernel
theorem dL_law_352 : decode cL_law 352 = .ok (.iadd, 1) := by decide +kernel
theorem dL_law_353 : decode cL_law 353 = .ok (.iaload, 1) := by decide +kernel
theorem dL_law_354 : decode cL_law 354 = .ok (.aload_n 0, 1) := by decide +kernel
theorem dL_law_355 : decode cL_law 355 = .ok (.iload_n 3, 1) := by decide +kernel
theorem dL_law_356 : decode cL_law 356 = .ok (.iconst 2, 1) := by decide +kernel
theorem dL_law_357 : decode cL_law 357 = .ok (.iadd, 1) := by decide +kernel
theorem dL_law_358 : decode cL_law 358 = .ok (.iaload, 1) := by decide +kernel
theorem dL_law_359 : decode cL_law 359 = .ok (.invokevirtual 46, 3) := by decide +kernel
theorem dL_law_362 : decode cL_law 362 = .ok (.if_icmp .eq 475, 3) := by decide +kernel
theorem dL_law_365 : decode cL_law 365 = .ok (.iconst 0, 1) := by decide +kernel
theorem dL_law_366 : decode cL_law 366 = .ok (.ireturn, 1) := by decide +kernel
theorem dL_law_367 : decode cL_law 367 = .ok (.aload_n 1, 1) := by decide +kernel
theorem dL_law_368 : decode cL_law 368 = .ok (.aload_n 0, 1) := by decide +kernel
theorem dL_law_369 : decode cL_law 369 = .ok (.iload_n 3, 1) := by decide +kernel
theorem dL_law_370 : decode cL_law 370 = .ok (.iconst 1, 1) := by decide +kernel
theorem dL_law_371 : decode cL_law 371 = .ok (.iadd, 1) := by decide +kernel
theorem dL_law_372 : decode cL_law 372 = .ok (.iaload, 1) := by decide +kernel
theorem dL_law_373 : decode cL_law 373 = .ok (.invokevirtual 47, 3) := by decide +kernel
theorem dL_law_376 : decode cL_law 376 = .ok (.aload_n 2, 1) := by decide +kernel
theorem dL_law_377 : decode cL_law 377 = .ok (.aload_n 0, 1) := by decide +kernel
theorem dL_law_378 : decode cL_law 378 = .ok (.iload_n 3, 1) := by decide +kernel
theorem dL_law_379 : decode cL_law 379 = .ok (.iconst 1, 1) := by decide +kernel
theorem dL_law_380 : decode cL_law 380 = .ok (.iadd, 1) := by decide +kernel
theorem dL_law_381 : decode cL_law 381 = .ok (.iaload, 1) := by decide +kernel
theorem dL_law_382 : decode cL_law 382 = .ok (.invokevirtual 50, 3) := by decide +kernel
theorem dL_law_385 : decode cL_law 385 = .ok (.if_icmp .eq 452, 3) := by decide +kernel
theorem dL_law_388 : decode cL_law 388 = .ok (.iconst 0, 1) := by decide +kernel
theorem dL_law_389 : decode cL_law 389 = .ok (.ireturn, 1) := by decide +kernel
theorem dL_law_390 : decode cL_law 390 = .ok (.aload_n 1, 1) := by decide +kernel
theorem dL_law_391 : decode cL_law 391 = .ok (.aload_n 0, 1) := by decide +kernel
theorem dL_law_392 : decode cL_law 392 = .ok (.iload_n 3, 1) := by decide +kernel
theorem dL_law_393 : decode cL_law 393 = .ok (.iconst 1, 1) := by decide +kernel
theorem dL_law_394 : decode cL_law 394 = .ok (.iadd, 1) := by decide +kernel
theorem dL_law_395 : decode cL_law 395 = .ok (.iaload, 1) := by decide +kernel
theorem dL_law_396 : decode cL_law 396 = .ok (.aload_n 0, 1) := by decide +kernel
theorem dL_law_397 : decode cL_law 397 = .ok (.iload_n 3, 1) := by decide +kernel
theorem dL_law_398 : decode cL_law 398 = .ok (.iconst 2, 1) := by decide +kernel
theorem dL_law_399 : decode cL_law 399 = .ok (.iadd, 1) := by decide +kernel
theorem dL_law_400 : decode cL_law 400 = .ok (.iaload, 1) := by decide +kernel
theorem dL_law_401 : decode cL_law 401 = .ok (.invokevirtual 51, 3) := by decide +kernel
theorem dL_law_404 : decode cL_law 404 = .ok (.aload_n 2, 1) := by decide +kernel
theorem dL_law_405 : decode cL_law 405 = .ok (.aload_n 0, 1) := by decide +kernel
theorem dL_law_406 : decode cL_law 406 = .ok (.iload_n 3, 1) := by decide +kernel
theorem dL_law_407 : decode cL_law 407 = .ok (.iconst 1, 1) := by decide +kernel
theorem dL_law_408 : decode cL_law 408 = .ok (.iadd, 1) := by decide +kernel
theorem dL_law_409 : decode cL_law 409 = .ok (.iaload, 1) := by decide +kernel
theorem dL_law_410 : decode cL_law 410 = .ok (.aload_n 0, 1) := by decide +kernel
theorem dL_law_411 : decode cL_law 411 = .ok (.iload_n 3, 1) := by decide +kernel
theorem dL_law_412 : decode cL_law 412 = .ok (.iconst 2, 1) := by decide +kernel
theorem dL_law_413 : decode cL_law 413 = .ok (.iadd, 1) := by decide +kernel
theorem dL_law_414 : decode cL_law 414 = .ok (.iaload, 1) := by decide +kernel
theorem dL_law_415 : decode cL_law 415 = .ok (.invokevirtual 54, 3) := by decide +kernel
theorem dL_law_418 : decode cL_law 418 = .ok (.if_icmp .eq 419, 3) := by decide +kernel
theorem dL_law_421 : decode cL_law 421 = .ok (.iconst 0, 1) := by decide +kernel
theorem dL_law_422 : decode cL_law 422 = .ok (.ireturn, 1) := by decide +kernel
theorem dL_law_423 : decode cL_law 423 = .ok (.aload_n 1, 1) := by decide +kernel
theorem dL_law_424 : decode cL_law 424 = .ok (.aload_n 0, 1) := by decide +kernel
theorem dL_law_425 : decode cL_law 425 = .ok (.iload_n 3, 1) := by decide +kernel
theorem dL_law_426 : decode cL_law 426 = .ok (.iconst 1, 1) := by decide +kernel
theorem dL_law_427 : decode cL_law 427 = .ok (.iadd, 1) := by decide +kernel
theorem dL_law_428 : decode cL_law 428 = .ok (.iaload, 1) := by decide +kernel
theorem dL_law_429 : decode cL_law 429 = .ok (.invokevirtual 55, 3) := by decide +kernel
theorem dL_law_432 : decode cL_law 432 = .ok (.aload_n 2, 1) := by decide +kernel
theorem dL_law_433 : decode cL_law 433 = .ok (.aload_n 0, 1) := by decide +kernel
theorem dL_law_434 : decode cL_law 434 = .ok (.iload_n 3, 1) := by decide +kernel
theorem dL_law_435 : decode cL_law 435 = .ok (.iconst 1, 1) := by decide +kernel
theorem dL_law_436 : decode cL_law 436 = .ok (.iadd, 1) := by decide +kernel
theorem dL_law_437 : decode cL_law 437 = .ok (.iaload, 1) := by decide +kernel
theorem dL_law_438 : decode cL_law 438 = .ok (.invokevirtual 58, 3) := by decide +kernel
theorem dL_law_441 : decode cL_law 441 = .ok (.if_icmp .eq 396, 3) := by decide +kernel
theorem dL_law_444 : decode cL_law 444 = .ok (.iconst 0, 1) := by decide +kernel
theorem dL_law_445 : decode cL_law 445 = .ok (.ireturn, 1) := by decide +kernel
theorem dL_law_446 : decode cL_law 446 = .ok (.aload_n 1, 1) := by decide +kernel
theorem dL_law_447 : decode cL_law 447 = .ok (.aload_n 0, 1) := by decide +kernel
theorem dL_law_448 : decode cL_law 448 = .ok (.iload_n 3, 1) := by decide +kernel
theorem dL_law_449 : decode cL_law 449 = .ok (.iconst 1, 1) := by decide +kernel
theorem dL_law_450 : decode cL_law 450 = .ok (.iadd, 1) := by decide +kernel
theorem dL_law_451 : decode cL_law 451 = .ok (.iaload, 1) := by decide +kernel
theorem dL_law_452 : decode cL_law 452 = .ok (.invokevirtual 59, 3) := by decide +kernel
theorem dL_law_455 : decode cL_law 455 = .ok (.aload_n 2, 1) := by decide +kernel
theorem dL_law_456 : decode cL_law 456 = .ok (.aload_n 0, 1) := by decide +kernel
theorem dL_law_457 : decode cL_law 457 = .ok (.iload_n 3, 1) := by decide +kernel
theorem dL_law_458 : decode cL_law 458 = .ok (.iconst 1, 1) := by decide +kernel
theorem dL_law_459 : decode cL_law 459 = .ok (.iadd, 1) := by decide +kernel
theorem dL_law_460 : decode cL_law 460 = .ok (.iaload, 1) := by decide +kernel
theorem dL_law_461 : decode cL_law 461 = .ok (.invokevirtual 62, 3) := by decide +kernel
theorem dL_law_464 : decode cL_law 464 = .ok (.if_icmp .eq 373, 3) := by decide +kernel
theorem dL_law_467 : decode cL_law 467 = .ok (.iconst 0, 1) := by decide +kernel
theorem dL_law_468 : decode cL_law 468 = .ok (.ireturn, 1) := by decide +kernel
theorem dL_law_469 : decode cL_law 469 = .ok (.aload_n 1, 1) := by decide +kernel
theorem dL_law_470 : decode cL_law 470 = .ok (.aload_n 0, 1) := by decide +kernel
theorem dL_law_471 : decode cL_law 471 = .ok (.iload_n 3, 1) := by decide +kernel
theorem dL_law_472 : decode cL_law 472 = .ok (.iconst 1, 1) := by decide +kernel
theorem dL_law_473 : decode cL_law 473 = .ok (.iadd, 1) := by decide +kernel
theorem dL_law_474 : decode cL_law 474 = .ok (.iaload, 1) := by decide +kernel
theorem dL_law_475 : decode cL_law 475 = .ok (.invokevirtual 63, 3) := by decide +kernel
theorem dL_law_478 : decode cL_law 478 = .ok (.aload_n 2, 1) := by decide +kernel
theorem dL_law_479 : decode cL_law 479 = .ok (.aload_n 0, 1) := by decide +kernel
theorem dL_law_480 : decode cL_law 480 = .ok (.iload_n 3, 1) := by decide +kernel
theorem dL_law_481 : decode cL_law 481 = .ok (.iconst 1, 1) := by decide +kernel
theorem dL_law_482 : decode cL_law 482 = .ok (.iadd, 1) := by decide +kernel
theorem dL_law_483 : decode cL_law 483 = .ok (.iaload, 1) := by decide +kernel
theorem dL_law_484 : decode cL_law 484 = .ok (.invokevirtual 66, 3) := by decide +kernel
theorem dL_law_487 : decode cL_law 487 = .ok (.if_icmp .eq 350, 3) := by decide +kernel
theorem dL_law_490 : decode cL_law 490 = .ok (.iconst 0, 1) := by decide +kernel
theorem dL_law_491 : decode cL_law 491 = .ok (.ireturn, 1) := by decide +kernel
theorem dL_law_492 : decode cL_law 492 = .ok (.aload_n 1, 1) := by decide +kernel
theorem dL_law_493 : decode cL_law 493 = .ok (.aload_n 0, 1) := by decide +kernel
theorem dL_law_494 : decode cL_law 494 = .ok (.iload_n 3, 1) := by decide +kernel
theorem dL_law_495 : decode cL_law 495 = .ok (.iconst 1, 1) := by decide +kernel
theorem dL_law_496 : decode cL_law 496 = .ok (.iadd, 1) := by decide +kernel
theorem dL_law_497 : decode cL_law 497 = .ok (.iaload, 1) := by decide +kernel
theorem dL_law_498 : decode cL_law 498 = .ok (.invokevirtual 67, 3) := by decide +kernel
theorem dL_law_501 : decode cL_law 501 = .ok (.aload_n 2, 1) := by decide +kernel
theorem dL_law_502 : decode cL_law 502 = .ok (.aload_n 0, 1) := by decide +kernel
theorem dL_law_503 : decode cL_law 503 = .ok (.iload_n 3, 1) := by decide +kernel
theorem dL_law_504 : decode cL_law 504 = .ok (.iconst 1, 1) := by decide +kernel
theorem dL_law_505 : decode cL_law 505 = .ok (.iadd, 1) := by decide +kernel
theorem dL_law_506 : decode cL_law 506 = .ok (.iaload, 1) := by decide +kernel
theorem dL_law_507 : decode cL_law 507 = .ok (.invokevirtual 70, 3) := by decide +kernel
theorem dL_law_510 : decode cL_law 510 = .ok (.if_icmp .eq 327, 3) := by decide +kernel
theorem dL_law_513 : decode cL_law 513 = .ok (.iconst 0, 1) := by decide +kernel
theorem dL_law_514 : decode cL_law 514 = .ok (.ireturn, 1) := by decide +kernel
theorem dL_law_515 : decode cL_law 515 = .ok (.aload_n 1, 1) := by decide +kernel
theorem dL_law_516 : decode cL_law 516 = .ok (.aload_n 0, 1) := by decide +kernel
theorem dL_law_517 : decode cL_law 517 = .ok (.iload_n 3, 1) := by decide +kernel
theorem dL_law_518 : decode cL_law 518 = .ok (.iconst 1, 1) := by decide +kernel
theorem dL_law_519 : decode cL_law 519 = .ok (.iadd, 1) := by decide +kernel
theorem dL_law_520 : decode cL_law 520 = .ok (.iaload, 1) := by decide +kernel
theorem dL_law_521 : decode cL_law 521 = .ok (.invokevirtual 71, 3) := by decide +kernel
theorem dL_law_524 : decode cL_law 524 = .ok (.aload_n 2, 1) := by decide +kernel
theorem dL_law_525 : decode cL_law 525 = .ok (.aload_n 0, 1) := by decide +kernel
theorem dL_law_526 : decode cL_law 526 = .ok (.iload_n 3, 1) := by decide +kernel
theorem dL_law_527 : decode cL_law 527 = .ok (.iconst 1, 1) := by decide +kernel
theorem dL_law_528 : decode cL_law 528 = .ok (.iadd, 1) := by decide +kernel
theorem dL_law_529 : decode cL_law 529 = .ok (.iaload, 1) := by decide +kernel
theorem dL_law_530 : decode cL_law 530 = .ok (.invokevirtual 74, 3) := by decide +kernel
theorem dL_law_533 : decode cL_law 533 = .ok (.if_icmp .eq 304, 3) := by decide +kernel
theorem dL_law_536 : decode cL_law 536 = .ok (.iconst 0, 1) := by decide +kernel
theorem dL_law_537 : decode cL_law 537 = .ok (.ireturn, 1) := by decide +kernel
theorem dL_law_538 : decode cL_law 538 = .ok (.aload_n 1, 1) := by decide +kernel
theorem dL_law_539 : decode cL_law 539 = .ok (.aload_n 0, 1) := by decide +kernel
theorem dL_law_540 : decode cL_law 540 = .ok (.iload_n 3, 1) := by decide +kernel
theorem dL_law_541 : decode cL_law 541 = .ok (.iconst 1, 1) := by decide +kernel
theorem dL_law_542 : decode cL_law 542 = .ok (.iadd, 1) := by decide +kernel
theorem dL_law_543 : decode cL_law 543 = .ok (.iaload, 1) := by decide +kernel
theorem dL_law_544 : decode cL_law 544 = .ok (.invokevirtual 75, 3) := by decide +kernel
theorem dL_law_547 : decode cL_law 547 = .ok (.aload_n 2, 1) := by decide +kernel
theorem dL_law_548 : decode cL_law 548 = .ok (.aload_n 0, 1) := by decide +kernel
theorem dL_law_549 : decode cL_law 549 = .ok (.iload_n 3, 1) := by decide +kernel
theorem dL_law_550 : decode cL_law 550 = .ok (.iconst 1, 1) := by decide +kernel
theorem dL_law_551 : decode cL_law 551 = .ok (.iadd, 1) := by decide +kernel
theorem dL_law_552 : decode cL_law 552 = .ok (.iaload, 1) := by decide +kernel
theorem dL_law_553 : decode cL_law 553 = .ok (.invokevirtual 78, 3) := by decide +kernel
theorem dL_law_556 : decode cL_law 556 = .ok (.if_icmp .eq 281, 3) := by decide +kernel
theorem dL_law_559 : decode cL_law 559 = .ok (.iconst 0, 1) := by decide +kernel
theorem dL_law_560 : decode cL_law 560 = .ok (.ireturn, 1) := by decide +kernel
theorem dL_law_561 : decode cL_law 561 = .ok (.aload_n 1, 1) := by decide +kernel
theorem dL_law_562 : decode cL_law 562 = .ok (.aload_n 0, 1) := by decide +kernel
theorem dL_law_563 : decode cL_law 563 = .ok (.iload_n 3, 1) := by decide +kernel
theorem dL_law_564 : decode cL_law 564 = .ok (.iconst 1, 1) := by decide +kernel
theorem dL_law_565 : decode cL_law 565 = .ok (.iadd, 1) := by decide +kernel
theorem dL_law_566 : decode cL_law 566 = .ok (.iaload, 1) := by decide +kernel
theorem dL_law_567 : decode cL_law 567 = .ok (.invokevirtual 79, 3) := by decide +kernel
theorem dL_law_570 : decode cL_law 570 = .ok (.aload_n 2, 1) := by decide +kernel
theorem dL_law_571 : decode cL_law 571 = .ok (.aload_n 0, 1) := by decide +kernel
theorem dL_law_572 : decode cL_law 572 = .ok (.iload_n 3, 1) := by decide +kernel
theorem dL_law_573 : decode cL_law 573 = .ok (.iconst 1, 1) := by decide +kernel
theorem dL_law_574 : decode cL_law 574 = .ok (.iadd, 1) := by decide +kernel
theorem dL_law_575 : decode cL_law 575 = .ok (.iaload, 1) := by decide +kernel
theorem dL_law_576 : decode cL_law 576 = .ok (.invokevirtual 82, 3) := by decide +kernel
theorem dL_law_579 : decode cL_law 579 = .ok (.if_icmp .eq 258, 3) := by decide +kernel
theorem dL_law_582 : decode cL_law 582 = .ok (.iconst 0, 1) := by decide +kernel
theorem dL_law_583 : decode cL_law 583 = .ok (.ireturn, 1) := by decide +kernel
theorem dL_law_584 : decode cL_law 584 = .ok (.aload_n 1, 1) := by decide +kernel
theorem dL_law_585 : decode cL_law 585 = .ok (.invokevirtual 83, 3) := by decide +kernel
theorem dL_law_588 : decode cL_law 588 = .ok (.aload_n 2, 1) := by decide +kernel
theorem dL_law_589 : decode cL_law 589 = .ok (.invokevirtual 86, 3) := by decide +kernel
theorem dL_law_592 : decode cL_law 592 = .ok (.if_icmp .eq 245, 3) := by decide +kernel
theorem dL_law_595 : decode cL_law 595 = .ok (.iconst 0, 1) := by decide +kernel
theorem dL_law_596 : decode cL_law 596 = .ok (.ireturn, 1) := by decide +kernel
theorem dL_law_597 : decode cL_law 597 = .ok (.aload_n 1, 1) := by decide +kernel
theorem dL_law_598 : decode cL_law 598 = .ok (.aload_n 0, 1) := by decide +kernel
theorem dL_law_599 : decode cL_law 599 = .ok (.iload_n 3, 1) := by decide +kernel
theorem dL_law_600 : decode cL_law 600 = .ok (.iconst 1, 1) := by decide +kernel
theorem dL_law_601 : decode cL_law 601 = .ok (.iadd, 1) := by decide +kernel
theorem dL_law_602 : decode cL_law 602 = .ok (.iaload, 1) := by decide +kernel
theorem dL_law_603 : decode cL_law 603 = .ok (.aload_n 0, 1) := by decide +kernel
theorem dL_law_604 : decode cL_law 604 = .ok (.iload_n 3, 1) := by decide +kernel
theorem dL_law_605 : decode cL_law 605 = .ok (.iconst 2, 1) := by decide +kernel
theorem dL_law_606 : decode cL_law 606 = .ok (.iadd, 1) := by decide +kernel
theorem dL_law_607 : decode cL_law 607 = .ok (.iaload, 1) := by decide +kernel
theorem dL_law_608 : decode cL_law 608 = .ok (.invokevirtual 87, 3) := by decide +kernel
theorem dL_law_611 : decode cL_law 611 = .ok (.aload_n 2, 1) := by decide +kernel
theorem dL_law_612 : decode cL_law 612 = .ok (.aload_n 0, 1) := by decide +kernel
theorem dL_law_613 : decode cL_law 613 = .ok (.iload_n 3, 1) := by decide +kernel
theorem dL_law_614 : decode cL_law 614 = .ok (.iconst 1, 1) := by decide +kernel
theorem dL_law_615 : decode cL_law 615 = .ok (.iadd, 1) := by decide +kernel
theorem dL_law_616 : decode cL_law 616 = .ok (.iaload, 1) := by decide +kernel
theorem dL_law_617 : decode cL_law 617 = .ok (.aload_n 0, 1) := by decide +kernel
theorem dL_law_618 : decode cL_law 618 = .ok (.iload_n 3, 1) := by decide +kernel
theorem dL_law_619 : decode cL_law 619 = .ok (.iconst 2, 1) := by decide +kernel
theorem dL_law_620 : decode cL_law 620 = .ok (.iadd, 1) := by decide +kernel
theorem dL_law_621 : decode cL_law 621 = .ok (.iaload, 1) := by decide +kernel
theorem dL_law_622 : decode cL_law 622 = .ok (.invokevirtual 90, 3) := by decide +kernel
theorem dL_law_625 : decode cL_law 625 = .ok (.if_icmp .eq 212, 3) := by decide +kernel
theorem dL_law_628 : decode cL_law 628 = .ok (.iconst 0, 1) := by decide +kernel
theorem dL_law_629 : decode cL_law 629 = .ok (.ireturn, 1) := by decide +kernel
theorem dL_law_630 : decode cL_law 630 = .ok (.aload_n 1, 1) := by decide +kernel
theorem dL_law_631 : decode cL_law 631 = .ok (.aload_n 0, 1) := by decide +kernel
theorem dL_law_632 : decode cL_law 632 = .ok (.iload_n 3, 1) := by decide +kernel
theorem dL_law_633 : decode cL_law 633 = .ok (.iconst 1, 1) := by decide +kernel
theorem dL_law_634 : decode cL_law 634 = .ok (.iadd, 1) := by decide +kernel
theorem dL_law_635 : decode cL_law 635 = .ok (.iaload, 1) := by decide +kernel
theorem dL_law_636 : decode cL_law 636 = .ok (.invokevirtual 91, 3) := by decide +kernel
theorem dL_law_639 : decode cL_law 639 = .ok (.aload_n 2, 1) := by decide +kernel
theorem dL_law_640 : decode cL_law 640 = .ok (.aload_n 0, 1) := by decide +kernel
theorem dL_law_641 : decode cL_law 641 = .ok (.iload_n 3, 1) := by decide +kernel
theorem dL_law_642 : decode cL_law 642 = .ok (.iconst 1, 1) := by decide +kernel
theorem dL_law_643 : decode cL_law 643 = .ok (.iadd, 1) := by decide +kernel
theorem dL_law_644 : decode cL_law 644 = .ok (.iaload, 1) := by decide +kernel
theorem dL_law_645 : decode cL_law 645 = .ok (.invokevirtual 94, 3) := by decide +kernel
theorem dL_law_648 : decode cL_law 648 = .ok (.if_icmp .eq 189, 3) := by decide +kernel
theorem dL_law_651 : decode cL_law 651 = .ok (.iconst 0, 1) := by decide +kernel
theorem dL_law_652 : decode cL_law 652 = .ok (.ireturn, 1) := by decide +kernel
theorem dL_law_653 : decode cL_law 653 = .ok (.aload_n 1, 1) := by decide +kernel
theorem dL_law_654 : decode cL_law 654 = .ok (.aload_n 0, 1) := by decide +kernel
theorem dL_law_655 : decode cL_law 655 = .ok (.iload_n 3, 1) := by decide +kernel
theorem dL_law_656 : decode cL_law 656 = .ok (.iconst 1, 1) := by decide +kernel
theorem dL_law_657 : decode cL_law 657 = .ok (.iadd, 1) := by decide +kernel
theorem dL_law_658 : decode cL_law 658 = .ok (.iaload, 1) := by decide +kernel
theorem dL_law_659 : decode cL_law 659 = .ok (.invokevirtual 95, 3) := by decide +kernel
theorem dL_law_662 : decode cL_law 662 = .ok (.aload_n 2, 1) := by decide +kernel
theorem dL_law_663 : decode cL_law 663 = .ok (.aload_n 0, 1) := by decide +kernel
theorem dL_law_664 : decode cL_law 664 = .ok (.iload_n 3, 1) := by decide +kernel
theorem dL_law_665 : decode cL_law 665 = .ok (.iconst 1, 1) := by decide +kernel
theorem dL_law_666 : decode cL_law 666 = .ok (.iadd, 1) := by decide +kernel
theorem dL_law_667 : decode cL_law 667 = .ok (.iaload, 1) := by decide +kernel
theorem dL_law_668 : decode cL_law 668 = .ok (.invokevirtual 98, 3) := by decide +kernel
theorem dL_law_671 : decode cL_law 671 = .ok (.if_icmp .eq 166, 3) := by decide +kernel
theorem dL_law_674 : decode cL_law 674 = .ok (.iconst 0, 1) := by decide +kernel
theorem dL_law_675 : decode cL_law 675 = .ok (.ireturn, 1) := by decide +kernel
theorem dL_law_676 : decode cL_law 676 = .ok (.aload_n 1, 1) := by decide +kernel
theorem dL_law_677 : decode cL_law 677 = .ok (.aload_n 0, 1) := by decide +kernel
theorem dL_law_678 : decode cL_law 678 = .ok (.iload_n 3, 1) := by decide +kernel
theorem dL_law_679 : decode cL_law 679 = .ok (.iconst 1, 1) := by decide +kernel
theorem dL_law_680 : decode cL_law 680 = .ok (.iadd, 1) := by decide +kernel
theorem dL_law_681 : decode cL_law 681 = .ok (.iaload, 1) := by decide +kernel
theorem dL_law_682 : decode cL_law 682 = .ok (.aload_n 0, 1) := by decide +kernel
theorem dL_law_683 : decode cL_law 683 = .ok (.iload_n 3, 1) := by decide +kernel
theorem dL_law_684 : decode cL_law 684 = .ok (.iconst 2, 1) := by decide +kernel
theorem dL_law_685 : decode cL_law 685 = .ok (.iadd, 1) := by decide +kernel
theorem dL_law_686 : decode cL_law 686 = .ok (.iaload, 1) := by decide +kernel
theorem dL_law_687 : decode cL_law 687 = .ok (.invokevirtual 99, 3) := by decide +kernel
theorem dL_law_690 : decode cL_law 690 = .ok (.aload_n 2, 1) := by decide +kernel
theorem dL_law_691 : decode cL_law 691 = .ok (.aload_n 0, 1) := by decide +kernel
theorem dL_law_692 : decode cL_law 692 = .ok (.iload_n 3, 1) := by decide +kernel
theorem dL_law_693 : decode cL_law 693 = .ok (.iconst 1, 1) := by decide +kernel
theorem dL_law_694 : decode cL_law 694 = .ok (.iadd, 1) := by decide +kernel
theorem dL_law_695 : decode cL_law 695 = .ok (.iaload, 1) := by decide +kernel
theorem dL_law_696 : decode cL_law 696 = .ok (.aload_n 0, 1) := by decide +kernel
theorem dL_law_697 : decode cL_law 697 = .ok (.iload_n 3, 1) := by decide +kernel
theorem dL_law_698 : decode cL_law 698 = .ok (.iconst 2, 1) := by decide +kernel
theorem dL_law_699 : decode cL_law 699 = .ok (.iadd, 1) := by decide +kernel
theorem dL_law_700 : decode cL_law 700 = .ok (.iaload, 1) := by decide +kernel
theorem dL_law_701 : decode cL_law 701 = .ok (.invokevirtual 102, 3) := by decide +kernel
theorem dL_law_704 : decode cL_law 704 = .ok (.if_icmp .eq 133, 3) := by decide +kernel
theorem dL_law_707 : decode cL_law 707 = .ok (.iconst 0, 1) := by decide +kernel
theorem dL_law_708 : decode cL_law 708 = .ok (.ireturn, 1) := by decide +kernel
theorem dL_law_709 : decode cL_law 709 = .ok (.aload_n 1, 1) := by decide +kernel
theorem dL_law_710 : decode cL_law 710 = .ok (.aload_n 0, 1) := by decide +kernel
theorem dL_law_711 : decode cL_law 711 = .ok (.iload_n 3, 1) := by decide +kernel
theorem dL_law_712 : decode cL_law 712 = .ok (.iconst 1, 1) := by decide +kernel
theorem dL_law_713 : decode cL_law 713 = .ok (.iadd, 1) := by decide +kernel
theorem dL_law_714 : decode cL_law 714 = .ok (.iaload, 1) := by decide +kernel
theorem dL_law_715 : decode cL_law 715 = .ok (.aload_n 0, 1) := by decide +kernel
theorem dL_law_716 : decode cL_law 716 = .ok (.iload_n 3, 1) := by decide +kernel
theorem dL_law_717 : decode cL_law 717 = .ok (.iconst 2, 1) := by decide +kernel
theorem dL_law_718 : decode cL_law 718 = .ok (.iadd, 1) := by decide +kernel
theorem dL_law_719 : decode cL_law 719 = .ok (.iaload, 1) := by decide +kernel
theorem dL_law_720 : decode cL_law 720 = .ok (.invokevirtual 103, 3) := by decide +kernel
theorem dL_law_723 : decode cL_law 723 = .ok (.aload_n 2, 1) := by decide +kernel
theorem dL_law_724 : decode cL_law 724 = .ok (.aload_n 0, 1) := by decide +kernel
theorem dL_law_725 : decode cL_law 725 = .ok (.iload_n 3, 1) := by decide +kernel
theorem dL_law_726 : decode cL_law 726 = .ok (.iconst 1, 1) := by decide +kernel
theorem dL_law_727 : decode cL_law 727 = .ok (.iadd, 1) := by decide +kernel
theorem dL_law_728 : decode cL_law 728 = .ok (.iaload, 1) := by decide +kernel
theorem dL_law_729 : decode cL_law 729 = .ok (.aload_n 0, 1) := by decide +kernel
theorem dL_law_730 : decode cL_law 730 = .ok (.iload_n 3, 1) := by decide +kernel
theorem dL_law_731 : decode cL_law 731 = .ok (.iconst 2, 1) := by decide +kernel
theorem dL_law_732 : decode cL_law 732 = .ok (.iadd, 1) := by decide +kernel
theorem dL_law_733 : decode cL_law 733 = .ok (.iaload, 1) := by decide +kernel
theorem dL_law_734 : decode cL_law 734 = .ok (.invokevirtual 106, 3) := by decide +kernel
theorem dL_law_737 : decode cL_law 737 = .ok (.if_icmp .eq 100, 3) := by decide +kernel
theorem dL_law_740 : decode cL_law 740 = .ok (.iconst 0, 1) := by decide +kernel
theorem dL_law_741 : decode cL_law 741 = .ok (.ireturn, 1) := by decide +kernel
theorem dL_law_742 : decode cL_law 742 = .ok (.aload_n 1, 1) := by decide +kernel
theorem dL_law_743 : decode cL_law 743 = .ok (.invokevirtual 107, 3) := by decide +kernel
theorem dL_law_746 : decode cL_law 746 = .ok (.aload_n 2, 1) := by decide +kernel
theorem dL_law_747 : decode cL_law 747 = .ok (.invokevirtual 110, 3) := by decide +kernel
theorem dL_law_750 : decode cL_law 750 = .ok (.if_icmp .eq 87, 3) := by decide +kernel
theorem dL_law_753 : decode cL_law 753 = .ok (.iconst 0, 1) := by decide +kernel
theorem dL_law_754 : decode cL_law 754 = .ok (.ireturn, 1) := by decide +kernel
theorem dL_law_755 : decode cL_law 755 = .ok (.aload_n 1, 1) := by decide +kernel
theorem dL_law_756 : decode cL_law 756 = .ok (.invokevirtual 111, 3) := by decide +kernel
theorem dL_law_759 : decode cL_law 759 = .ok (.aload_n 2, 1) := by decide +kernel
theorem dL_law_760 : decode cL_law 760 = .ok (.invokevirtual 114, 3) := by decide +kernel
theorem dL_law_763 : decode cL_law 763 = .ok (.if_icmp .eq 74, 3) := by decide +kernel
theorem dL_law_766 : decode cL_law 766 = .ok (.iconst 0, 1) := by decide +kernel
theorem dL_law_767 : decode cL_law 767 = .ok (.ireturn, 1) := by decide +kernel
theorem dL_law_768 : decode cL_law 768 = .ok (.aload_n 1, 1) := by decide +kernel
theorem dL_law_769 : decode cL_law 769 = .ok (.aload_n 0, 1) := by decide +kernel
theorem dL_law_770 : decode cL_law 770 = .ok (.iload_n 3, 1) := by decide +kernel
theorem dL_law_771 : decode cL_law 771 = .ok (.iconst 1, 1) := by decide +kernel
theorem dL_law_772 : decode cL_law 772 = .ok (.iadd, 1) := by decide +kernel
theorem dL_law_773 : decode cL_law 773 = .ok (.iaload, 1) := by decide +kernel
theorem dL_law_774 : decode cL_law 774 = .ok (.invokevirtual 115, 3) := by decide +kernel
theorem dL_law_777 : decode cL_law 777 = .ok (.aload_n 2, 1) := by decide +kernel
theorem dL_law_778 : decode cL_law 778 = .ok (.aload_n 0, 1) := by decide +kernel
theorem dL_law_779 : decode cL_law 779 = .ok (.iload_n 3, 1) := by decide +kernel
theorem dL_law_780 : decode cL_law 780 = .ok (.iconst 1, 1) := by decide +kernel
theorem dL_law_781 : decode cL_law 781 = .ok (.iadd, 1) := by decide +kernel
theorem dL_law_782 : decode cL_law 782 = .ok (.iaload, 1) := by decide +kernel
theorem dL_law_783 : decode cL_law 783 = .ok (.invokevirtual 118, 3) := by decide +kernel
theorem dL_law_786 : decode cL_law 786 = .ok (.if_icmp .eq 51, 3) := by decide +kernel
theorem dL_law_789 : decode cL_law 789 = .ok (.iconst 0, 1) := by decide +kernel
theorem dL_law_790 : decode cL_law 790 = .ok (.ireturn, 1) := by decide +kernel
theorem dL_law_791 : decode cL_law 791 = .ok (.aload_n 1, 1) := by decide +kernel
theorem dL_law_792 : decode cL_law 792 = .ok (.aload_n 0, 1) := by decide +kernel
theorem dL_law_793 : decode cL_law 793 = .ok (.iload_n 3, 1) := by decide +kernel
theorem dL_law_794 : decode cL_law 794 = .ok (.iconst 1, 1) := by decide +kernel
theorem dL_law_795 : decode cL_law 795 = .ok (.iadd, 1) := by decide +kernel
theorem dL_law_796 : decode cL_law 796 = .ok (.iaload, 1) := by decide +kernel
theorem dL_law_797 : decode cL_law 797 = .ok (.invokevirtual 119, 3) := by decide +kernel
theorem dL_law_800 : decode cL_law 800 = .ok (.aload_n 2, 1) := by decide +kernel
theorem dL_law_801 : decode cL_law 801 = .ok (.aload_n 0, 1) := by decide +kernel
theorem dL_law_802 : decode cL_law 802 = .ok (.iload_n 3, 1) := by decide +kernel
theorem dL_law_803 : decode cL_law 803 = .ok (.iconst 1, 1) := by decide +kernel
theorem dL_law_804 : decode cL_law 804 = .ok (.iadd, 1) := by decide +kernel
theorem dL_law_805 : decode cL_law 805 = .ok (.iaload, 1) := by decide +kernel
theorem dL_law_806 : decode cL_law 806 = .ok (.invokevirtual 122, 3) := by decide +kernel
theorem dL_law_809 : decode cL_law 809 = .ok (.if_icmp .eq 28, 3) := by decide +kernel
theorem dL_law_812 : decode cL_law 812 = .ok (.iconst 0, 1) := by decide +kernel
theorem dL_law_813 : decode cL_law 813 = .ok (.ireturn, 1) := by decide +kernel
theorem dL_law_814 : decode cL_law 814 = .ok (.aload_n 1, 1) := by decide +kernel
theorem dL_law_815 : decode cL_law 815 = .ok (.aload_n 0, 1) := by decide +kernel
theorem dL_law_816 : decode cL_law 816 = .ok (.iload_n 3, 1) := by decide +kernel
theorem dL_law_817 : decode cL_law 817 = .ok (.iconst 1, 1) := by decide +kernel
theorem dL_law_818 : decode cL_law 818 = .ok (.iadd, 1) := by decide +kernel
theorem dL_law_819 : decode cL_law 819 = .ok (.iaload, 1) := by decide +kernel
theorem dL_law_820 : decode cL_law 820 = .ok (.invokevirtual 123, 3) := by decide +kernel
theorem dL_law_823 : decode cL_law 823 = .ok (.aload_n 2, 1) := by decide +kernel
theorem dL_law_824 : decode cL_law 824 = .ok (.aload_n 0, 1) := by decide +kernel
theorem dL_law_825 : decode cL_law 825 = .ok (.iload_n 3, 1) := by decide +kernel
theorem dL_law_826 : decode cL_law 826 = .ok (.iconst 1, 1) := by decide +kernel
theorem dL_law_827 : decode cL_law 827 = .ok (.iadd, 1) := by decide +kernel
theorem dL_law_828 : decode cL_law 828 = .ok (.iaload, 1) := by decide +kernel
theorem dL_law_829 : decode cL_law 829 = .ok (.invokevirtual 126, 3) := by decide +kernel
theorem dL_law_832 : decode cL_law 832 = .ok (.if_icmp .eq 5, 3) := by decide +kernel
theorem dL_law_835 : decode cL_law 835 = .ok (.iconst 0, 1) := by decide +kernel
theorem dL_law_836 : decode cL_law 836 = .ok (.ireturn, 1) := by decide +kernel
theorem dL_law_837 : decode cL_law 837 = .ok (.iinc 3 4, 3) := by decide +kernel
theorem dL_law_840 : decode cL_law 840 = .ok (.goto (-822), 3) := by decide +kernel
theorem dL_law_843 : decode cL_law 843 = .ok (.iconst 1, 1) := by decide +kernel
theorem dL_law_844 : decode cL_law 844 = .ok (.ireturn, 1) := by decide +kernel
