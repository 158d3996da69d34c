theorem dX3_init_0 : decode cX3_init 0 = .ok (.aload_n 0, 1) := by decide +kernel
theorem dX3_init_1 : decode cX3_init 1 = .ok (.invokespecial 1, 3) := by decide +kernel
theorem dX3_init_4 : decode cX3_init 4 = .ok (.aload_n 0, 1) := by decide +kernel
theorem dX3_init_5 : decode cX3_init 5 = .ok (.new 7, 3) := by decide +kernel
theorem dX3_init_8 : decode cX3_init 8 = .ok (.dup, 1) := by decide +kernel
theorem dX3_init_9 : decode cX3_init 9 = .ok (.invokespecial 9, 3) := by decide +kernel
theorem dX3_init_12 : decode cX3_init 12 = .ok (.putfield 10, 3) := by decide +kernel
theorem dX3_init_15 : decode cX3_init 15 = .ok (.aload_n 0, 1) := by decide +kernel
theorem dX3_init_16 : decode cX3_init 16 = .ok (.new 16, 3) := by decide +kernel
theorem dX3_init_19 : decode cX3_init 19 = .ok (.dup, 1) := by decide +kernel
theorem dX3_init_20 : decode cX3_init 20 = .ok (.invokespecial 18, 3) := by decide +kernel
theorem dX3_init_23 : decode cX3_init 23 = .ok (.putfield 19, 3) := by decide +kernel
theorem dX3_init_26 : decode cX3_init 26 = .ok (.return_, 1) := by decide +kernel
theorem dX3_readAll_0 : decode cX3_readAll 0 = .ok (.aload_n 0, 1) := by decide +kernel
theorem dX3_readAll_1 : decode cX3_readAll 1 = .ok (.getfield 19, 3) := by decide +kernel
theorem dX3_readAll_4 : decode cX3_readAll 4 = .ok (.invokevirtual 23, 3) := by decide +kernel
theorem dX3_readAll_7 : decode cX3_readAll 7 = .ok (.aload_n 0, 1) := by decide +kernel
theorem dX3_readAll_8 : decode cX3_readAll 8 = .ok (.getfield 10, 3) := by decide +kernel
theorem dX3_readAll_11 : decode cX3_readAll 11 = .ok (.invokevirtual 26, 3) := by decide +kernel
theorem dX3_readAll_14 : decode cX3_readAll 14 = .ok (.aload_n 0, 1) := by decide +kernel
theorem dX3_readAll_15 : decode cX3_readAll 15 = .ok (.iconst (-1), 1) := by decide +kernel
theorem dX3_readAll_16 : decode cX3_readAll 16 = .ok (.putfield 29, 3) := by decide +kernel
theorem dX3_readAll_19 : decode cX3_readAll 19 = .ok (.aload_n 0, 1) := by decide +kernel
theorem dX3_readAll_20 : decode cX3_readAll 20 = .ok (.iconst 0, 1) := by decide +kernel
theorem dX3_readAll_21 : decode cX3_readAll 21 = .ok (.putfield 33, 3) := by decide +kernel
theorem dX3_readAll_24 : decode cX3_readAll 24 = .ok (.aload_n 0, 1) := by decide +kernel
theorem dX3_readAll_25 : decode cX3_readAll 25 = .ok (.iconst 0, 1) := by decide +kernel
theorem dX3_readAll_26 : decode cX3_readAll 26 = .ok (.putfield 36, 3) := by decide +kernel
theorem dX3_readAll_29 : decode cX3_readAll 29 = .ok (.aload_n 0, 1) := by decide +kernel
theorem dX3_readAll_30 : decode cX3_readAll 30 = .ok (.iconst 0, 1) := by decide +kernel
theorem dX3_readAll_31 : decode cX3_readAll 31 = .ok (.putfield 39, 3) := by decide +kernel
theorem dX3_readAll_34 : decode cX3_readAll 34 = .ok (.iconst 0, 1) := by decide +kernel
theorem dX3_readAll_35 : decode cX3_readAll 35 = .ok (.istore_n 1, 1) := by decide +kernel
theorem dX3_readAll_36 : decode cX3_readAll 36 = .ok (.iload_n 1, 1) := by decide +kernel
theorem dX3_readAll_37 : decode cX3_readAll 37 = .ok (.sipush 320, 3) := by decide +kernel
theorem dX3_readAll_40 : decode cX3_readAll 40 = .ok (.if_icmp .gt 50, 3) := by decide +kernel
theorem dX3_readAll_43 : decode cX3_readAll 43 = .ok (.aload_n 0, 1) := by decide +kernel
theorem dX3_readAll_44 : decode cX3_readAll 44 = .ok (.getfield 39, 3) := by decide +kernel
theorem dX3_readAll_47 : decode cX3_readAll 47 = .ok (.ifCond .ne 43, 3) := by decide +kernel
theorem dX3_readAll_50 : decode cX3_readAll 50 = .ok (.aload_n 0, 1) := by decide +kernel
theorem dX3_readAll_51 : decode cX3_readAll 51 = .ok (.getfield 10, 3) := by decide +kernel
theorem dX3_readAll_54 : decode cX3_readAll 54 = .ok (.invokevirtual 42, 3) := by decide +kernel
theorem dX3_readAll_57 : decode cX3_readAll 57 = .ok (.aload_n 0, 1) := by decide +kernel
theorem dX3_readAll_58 : decode cX3_readAll 58 = .ok (.getfield 10, 3) := by decide +kernel
theorem dX3_readAll_61 : decode cX3_readAll 61 = .ok (.getfield 45, 3) := by decide +kernel
theorem dX3_readAll_64 : decode cX3_readAll 64 = .ok (.ifCond .ne 16, 3) := by decide +kernel
theorem dX3_readAll_67 : decode cX3_readAll 67 = .ok (.aload_n 0, 1) := by decide +kernel
theorem dX3_readAll_68 : decode cX3_readAll 68 = .ok (.getfield 29, 3) := by decide +kernel
theorem dX3_readAll_71 : decode cX3_readAll 71 = .ok (.iconst (-1), 1) := by decide +kernel
theorem dX3_readAll_72 : decode cX3_readAll 72 = .ok (.if_icmp .ne 8, 3) := by decide +kernel
theorem dX3_readAll_75 : decode cX3_readAll 75 = .ok (.aload_n 0, 1) := by decide +kernel
theorem dX3_readAll_76 : decode cX3_readAll 76 = .ok (.getfield 33, 3) := by decide +kernel
theorem dX3_readAll_79 : decode cX3_readAll 79 = .ok (.ireturn, 1) := by decide +kernel
theorem dX3_readAll_80 : decode cX3_readAll 80 = .ok (.aload_n 0, 1) := by decide +kernel
theorem dX3_readAll_81 : decode cX3_readAll 81 = .ok (.invokevirtual 48, 3) := by decide +kernel
theorem dX3_readAll_84 : decode cX3_readAll 84 = .ok (.iinc 1 1, 3) := by decide +kernel
theorem dX3_readAll_87 : decode cX3_readAll 87 = .ok (.goto (-51), 3) := by decide +kernel
theorem dX3_readAll_90 : decode cX3_readAll 90 = .ok (.aload_n 0, 1) := by decide +kernel
theorem dX3_readAll_91 : decode cX3_readAll 91 = .ok (.getfield 33, 3) := by decide +kernel
theorem dX3_readAll_94 : decode cX3_readAll 94 = .ok (.ireturn, 1) := by decide +kernel
theorem dX3_takeToken_0 : decode cX3_takeToken 0 = .ok (.aload_n 0, 1) := by decide +kernel
theorem dX3_takeToken_1 : decode cX3_takeToken 1 = .ok (.getfield 10, 3) := by decide +kernel
theorem dX3_takeToken_4 : decode cX3_takeToken 4 = .ok (.getfield 45, 3) := by decide +kernel
theorem dX3_takeToken_7 : decode cX3_takeToken 7 = .ok (.iconst 5, 1) := by decide +kernel
theorem dX3_takeToken_8 : decode cX3_takeToken 8 = .ok (.if_icmp .ne 11, 3) := by decide +kernel
theorem dX3_takeToken_11 : decode cX3_takeToken 11 = .ok (.aload_n 0, 1) := by decide +kernel
theorem dX3_takeToken_12 : decode cX3_takeToken 12 = .ok (.iconst 1, 1) := by decide +kernel
theorem dX3_takeToken_13 : decode cX3_takeToken 13 = .ok (.invokevirtual 51, 3) := by decide +kernel
theorem dX3_takeToken_16 : decode cX3_takeToken 16 = .ok (.goto 54, 3) := by decide +kernel
theorem dX3_takeToken_19 : decode cX3_takeToken 19 = .ok (.aload_n 0, 1) := by decide +kernel
theorem dX3_takeToken_20 : decode cX3_takeToken 20 = .ok (.getfield 29, 3) := by decide +kernel
theorem dX3_takeToken_23 : decode cX3_takeToken 23 = .ok (.ifCond .lt 14, 3) := by decide +kernel
theorem dX3_takeToken_26 : decode cX3_takeToken 26 = .ok (.aload_n 0, 1) := by decide +kernel
theorem dX3_takeToken_27 : decode cX3_takeToken 27 = .ok (.getfield 29, 3) := by decide +kernel
theorem dX3_takeToken_30 : decode cX3_takeToken 30 = .ok (.getstatic 55, 3) := by decide +kernel
theorem dX3_takeToken_33 : decode cX3_takeToken 33 = .ok (.arraylength, 1) := by decide +kernel
theorem dX3_takeToken_34 : decode cX3_takeToken 34 = .ok (.if_icmp .lt 10, 3) := by decide +kernel
theorem dX3_takeToken_37 : decode cX3_takeToken 37 = .ok (.aload_n 0, 1) := by decide +kernel
theorem dX3_takeToken_38 : decode cX3_takeToken 38 = .ok (.invokevirtual 59, 3) := by decide +kernel
theorem dX3_takeToken_41 : decode cX3_takeToken 41 = .ok (.goto 29, 3) := by decide +kernel
theorem dX3_takeToken_44 : decode cX3_takeToken 44 = .ok (.aload_n 0, 1) := by decide +kernel
theorem dX3_takeToken_45 : decode cX3_takeToken 45 = .ok (.getfield 62, 3) := by decide +kernel
theorem dX3_takeToken_48 : decode cX3_takeToken 48 = .ok (.getstatic 55, 3) := by decide +kernel
theorem dX3_takeToken_51 : decode cX3_takeToken 51 = .ok (.aload_n 0, 1) := by decide +kernel
theorem dX3_takeToken_52 : decode cX3_takeToken 52 = .ok (.getfield 29, 3) := by decide +kernel
theorem dX3_takeToken_55 : decode cX3_takeToken 55 = .ok (.iaload, 1) := by decide +kernel
theorem dX3_takeToken_56 : decode cX3_takeToken 56 = .ok (.if_icmp .ge 10, 3) := by decide +kernel
theorem dX3_takeToken_59 : decode cX3_takeToken 59 = .ok (.aload_n 0, 1) := by decide +kernel
theorem dX3_takeToken_60 : decode cX3_takeToken 60 = .ok (.invokevirtual 65, 3) := by decide +kernel
theorem dX3_takeToken_63 : decode cX3_takeToken 63 = .ok (.goto 7, 3) := by decide +kernel
theorem dX3_takeToken_66 : decode cX3_takeToken 66 = .ok (.aload_n 0, 1) := by decide +kernel
theorem dX3_takeToken_67 : decode cX3_takeToken 67 = .ok (.invokevirtual 68, 3) := by decide +kernel
theorem dX3_takeToken_70 : decode cX3_takeToken 70 = .ok (.return_, 1) := by decide +kernel
theorem dX3_beginLine_0 : decode cX3_beginLine 0 = .ok (.aload_n 0, 1) := by decide +kernel
theorem dX3_beginLine_1 : decode cX3_beginLine 1 = .ok (.invokevirtual 71, 3) := by decide +kernel
theorem dX3_beginLine_4 : decode cX3_beginLine 4 = .ok (.istore_n 1, 1) := by decide +kernel
theorem dX3_beginLine_5 : decode cX3_beginLine 5 = .ok (.iload_n 1, 1) := by decide +kernel
theorem dX3_beginLine_6 : decode cX3_beginLine 6 = .ok (.iconst (-1), 1) := by decide +kernel
theorem dX3_beginLine_7 : decode cX3_beginLine 7 = .ok (.if_icmp .ne 11, 3) := by decide +kernel
theorem dX3_beginLine_10 : decode cX3_beginLine 10 = .ok (.aload_n 0, 1) := by decide +kernel
theorem dX3_beginLine_11 : decode cX3_beginLine 11 = .ok (.iconst 2, 1) := by decide +kernel
theorem dX3_beginLine_12 : decode cX3_beginLine 12 = .ok (.invokevirtual 51, 3) := by decide +kernel
theorem dX3_beginLine_15 : decode cX3_beginLine 15 = .ok (.goto 70, 3) := by decide +kernel
theorem dX3_beginLine_18 : decode cX3_beginLine 18 = .ok (.iload_n 1, 1) := by decide +kernel
theorem dX3_beginLine_19 : decode cX3_beginLine 19 = .ok (.ifCond .ne 21, 3) := by decide +kernel
theorem dX3_beginLine_22 : decode cX3_beginLine 22 = .ok (.aload_n 0, 1) := by decide +kernel
theorem dX3_beginLine_23 : decode cX3_beginLine 23 = .ok (.getfield 19, 3) := by decide +kernel
theorem dX3_beginLine_26 : decode cX3_beginLine 26 = .ok (.invokevirtual 75, 3) := by decide +kernel
theorem dX3_beginLine_29 : decode cX3_beginLine 29 = .ok (.ifCond .eq 11, 3) := by decide +kernel
theorem dX3_beginLine_32 : decode cX3_beginLine 32 = .ok (.aload_n 0, 1) := by decide +kernel
theorem dX3_beginLine_33 : decode cX3_beginLine 33 = .ok (.iconst 5, 1) := by decide +kernel
theorem dX3_beginLine_34 : decode cX3_beginLine 34 = .ok (.invokevirtual 51, 3) := by decide +kernel
theorem dX3_beginLine_37 : decode cX3_beginLine 37 = .ok (.goto 48, 3) := by decide +kernel
theorem dX3_beginLine_40 : decode cX3_beginLine 40 = .ok (.iload_n 1, 1) := by decide +kernel
theorem dX3_beginLine_41 : decode cX3_beginLine 41 = .ok (.ifCond .eq 22, 3) := by decide +kernel
theorem dX3_beginLine_44 : decode cX3_beginLine 44 = .ok (.aload_n 0, 1) := by decide +kernel
theorem dX3_beginLine_45 : decode cX3_beginLine 45 = .ok (.getfield 36, 3) := by decide +kernel
theorem dX3_beginLine_48 : decode cX3_beginLine 48 = .ok (.iload_n 1, 1) := by decide +kernel
theorem dX3_beginLine_49 : decode cX3_beginLine 49 = .ok (.ishr, 1) := by decide +kernel
theorem dX3_beginLine_50 : decode cX3_beginLine 50 = .ok (.iconst 1, 1) := by decide +kernel
theorem dX3_beginLine_51 : decode cX3_beginLine 51 = .ok (.iand, 1) := by decide +kernel
theorem dX3_beginLine_52 : decode cX3_beginLine 52 = .ok (.ifCond .eq 11, 3) := by decide +kernel
theorem dX3_beginLine_55 : decode cX3_beginLine 55 = .ok (.aload_n 0, 1) := by decide +kernel
theorem dX3_beginLine_56 : decode cX3_beginLine 56 = .ok (.iconst 4, 1) := by decide +kernel
theorem dX3_beginLine_57 : decode cX3_beginLine 57 = .ok (.invokevirtual 51, 3) := by decide +kernel
theorem dX3_beginLine_60 : decode cX3_beginLine 60 = .ok (.goto 25, 3) := by decide +kernel
theorem dX3_beginLine_63 : decode cX3_beginLine 63 = .ok (.aload_n 0, 1) := by decide +kernel
theorem dX3_beginLine_64 : decode cX3_beginLine 64 = .ok (.dup, 1) := by decide +kernel
theorem dX3_beginLine_65 : decode cX3_beginLine 65 = .ok (.getfield 36, 3) := by decide +kernel
theorem dX3_beginLine_68 : decode cX3_beginLine 68 = .ok (.iconst 1, 1) := by decide +kernel
theorem dX3_beginLine_69 : decode cX3_beginLine 69 = .ok (.iload_n 1, 1) := by decide +kernel
theorem dX3_beginLine_70 : decode cX3_beginLine 70 = .ok (.ishl, 1) := by decide +kernel
theorem dX3_beginLine_71 : decode cX3_beginLine 71 = .ok (.ior, 1) := by decide +kernel
theorem dX3_beginLine_72 : decode cX3_beginLine 72 = .ok (.putfield 36, 3) := by decide +kernel
theorem dX3_beginLine_75 : decode cX3_beginLine 75 = .ok (.aload_n 0, 1) := by decide +kernel
theorem dX3_beginLine_76 : decode cX3_beginLine 76 = .ok (.iload_n 1, 1) := by decide +kernel
theorem dX3_beginLine_77 : decode cX3_beginLine 77 = .ok (.putfield 29, 3) := by decide +kernel
theorem dX3_beginLine_80 : decode cX3_beginLine 80 = .ok (.aload_n 0, 1) := by decide +kernel
theorem dX3_beginLine_81 : decode cX3_beginLine 81 = .ok (.iconst 0, 1) := by decide +kernel
theorem dX3_beginLine_82 : decode cX3_beginLine 82 = .ok (.putfield 62, 3) := by decide +kernel
theorem dX3_beginLine_85 : decode cX3_beginLine 85 = .ok (.return_, 1) := by decide +kernel
theorem dX3_lineNamed_0 : decode cX3_lineNamed 0 = .ok (.aload_n 0, 1) := by decide +kernel
theorem dX3_lineNamed_1 : decode cX3_lineNamed 1 = .ok (.getfield 10, 3) := by decide +kernel
theorem dX3_lineNamed_4 : decode cX3_lineNamed 4 = .ok (.ldc 79, 2) := by decide +kernel
theorem dX3_lineNamed_6 : decode cX3_lineNamed 6 = .ok (.invokevirtual 81, 3) := by decide +kernel
theorem dX3_lineNamed_9 : decode cX3_lineNamed 9 = .ok (.ifCond .eq 5, 3) := by decide +kernel
theorem dX3_lineNamed_12 : decode cX3_lineNamed 12 = .ok (.iconst 0, 1) := by decide +kernel
theorem dX3_lineNamed_13 : decode cX3_lineNamed 13 = .ok (.ireturn, 1) := by decide +kernel
theorem dX3_lineNamed_14 : decode cX3_lineNamed 14 = .ok (.aload_n 0, 1) := by decide +kernel
theorem dX3_lineNamed_15 : decode cX3_lineNamed 15 = .ok (.getfield 10, 3) := by decide +kernel
theorem dX3_lineNamed_18 : decode cX3_lineNamed 18 = .ok (.ldc 85, 2) := by decide +kernel
theorem dX3_lineNamed_20 : decode cX3_lineNamed 20 = .ok (.invokevirtual 81, 3) := by decide +kernel
theorem dX3_lineNamed_23 : decode cX3_lineNamed 23 = .ok (.ifCond .eq 5, 3) := by decide +kernel
theorem dX3_lineNamed_26 : decode cX3_lineNamed 26 = .ok (.iconst 1, 1) := by decide +kernel
theorem dX3_lineNamed_27 : decode cX3_lineNamed 27 = .ok (.ireturn, 1) := by decide +kernel
theorem dX3_lineNamed_28 : decode cX3_lineNamed 28 = .ok (.aload_n 0, 1) := by decide +kernel
theorem dX3_lineNamed_29 : decode cX3_lineNamed 29 = .ok (.getfield 10, 3) := by decide +kernel
theorem dX3_lineNamed_32 : decode cX3_lineNamed 32 = .ok (.ldc 87, 2) := by decide +kernel
theorem dX3_lineNamed_34 : decode cX3_lineNamed 34 = .ok (.invokevirtual 81, 3) := by decide +kernel
theorem dX3_lineNamed_37 : decode cX3_lineNamed 37 = .ok (.ifCond .eq 5, 3) := by decide +kernel
theorem dX3_lineNamed_40 : decode cX3_lineNamed 40 = .ok (.iconst 2, 1) := by decide +kernel
theorem dX3_lineNamed_41 : decode cX3_lineNamed 41 = .ok (.ireturn, 1) := by decide +kernel
theorem dX3_lineNamed_42 : decode cX3_lineNamed 42 = .ok (.aload_n 0, 1) := by decide +kernel
theorem dX3_lineNamed_43 : decode cX3_lineNamed 43 = .ok (.getfield 10, 3) := by decide +kernel
theorem dX3_lineNamed_46 : decode cX3_lineNamed 46 = .ok (.ldc 89, 2) := by decide +kernel
theorem dX3_lineNamed_48 : decode cX3_lineNamed 48 = .ok (.invokevirtual 81, 3) := by decide +kernel
theorem dX3_lineNamed_51 : decode cX3_lineNamed 51 = .ok (.ifCond .eq 5, 3) := by decide +kernel
theorem dX3_lineNamed_54 : decode cX3_lineNamed 54 = .ok (.iconst 3, 1) := by decide +kernel
theorem dX3_lineNamed_55 : decode cX3_lineNamed 55 = .ok (.ireturn, 1) := by decide +kernel
theorem dX3_lineNamed_56 : decode cX3_lineNamed 56 = .ok (.aload_n 0, 1) := by decide +kernel
theorem dX3_lineNamed_57 : decode cX3_lineNamed 57 = .ok (.getfield 10, 3) := by decide +kernel
theorem dX3_lineNamed_60 : decode cX3_lineNamed 60 = .ok (.ldc 91, 2) := by decide +kernel
theorem dX3_lineNamed_62 : decode cX3_lineNamed 62 = .ok (.invokevirtual 81, 3) := by decide +kernel
theorem dX3_lineNamed_65 : decode cX3_lineNamed 65 = .ok (.ifCond .eq 5, 3) := by decide +kernel
theorem dX3_lineNamed_68 : decode cX3_lineNamed 68 = .ok (.iconst 4, 1) := by decide +kernel
theorem dX3_lineNamed_69 : decode cX3_lineNamed 69 = .ok (.ireturn, 1) := by decide +kernel
theorem dX3_lineNamed_70 : decode cX3_lineNamed 70 = .ok (.aload_n 0, 1) := by decide +kernel
theorem dX3_lineNamed_71 : decode cX3_lineNamed 71 = .ok (.getfield 10, 3) := by decide +kernel
theorem dX3_lineNamed_74 : decode cX3_lineNamed 74 = .ok (.ldc 93, 2) := by decide +kernel
theorem dX3_lineNamed_76 : decode cX3_lineNamed 76 = .ok (.invokevirtual 81, 3) := by decide +kernel
theorem dX3_lineNamed_79 : decode cX3_lineNamed 79 = .ok (.ifCond .eq 5, 3) := by decide +kernel
theorem dX3_lineNamed_82 : decode cX3_lineNamed 82 = .ok (.iconst 5, 1) := by decide +kernel
theorem dX3_lineNamed_83 : decode cX3_lineNamed 83 = .ok (.ireturn, 1) := by decide +kernel
theorem dX3_lineNamed_84 : decode cX3_lineNamed 84 = .ok (.aload_n 0, 1) := by decide +kernel
theorem dX3_lineNamed_85 : decode cX3_lineNamed 85 = .ok (.getfield 10, 3) := by decide +kernel
theorem dX3_lineNamed_88 : decode cX3_lineNamed 88 = .ok (.ldc 95, 2) := by decide +kernel
theorem dX3_lineNamed_90 : decode cX3_lineNamed 90 = .ok (.invokevirtual 81, 3) := by decide +kernel
theorem dX3_lineNamed_93 : decode cX3_lineNamed 93 = .ok (.ifCond .eq 6, 3) := by decide +kernel
theorem dX3_lineNamed_96 : decode cX3_lineNamed 96 = .ok (.bipush 6, 2) := by decide +kernel
theorem dX3_lineNamed_98 : decode cX3_lineNamed 98 = .ok (.ireturn, 1) := by decide +kernel
theorem dX3_lineNamed_99 : decode cX3_lineNamed 99 = .ok (.aload_n 0, 1) := by decide +kernel
theorem dX3_lineNamed_100 : decode cX3_lineNamed 100 = .ok (.getfield 10, 3) := by decide +kernel
theorem dX3_lineNamed_103 : decode cX3_lineNamed 103 = .ok (.ldc 97, 2) := by decide +kernel
theorem dX3_lineNamed_105 : decode cX3_lineNamed 105 = .ok (.invokevirtual 81, 3) := by decide +kernel
theorem dX3_lineNamed_108 : decode cX3_lineNamed 108 = .ok (.ifCond .eq 8, 3) := by decide +kernel
theorem dX3_lineNamed_111 : decode cX3_lineNamed 111 = .ok (.bipush 7, 2) := by decide +kernel
theorem dX3_lineNamed_113 : decode cX3_lineNamed 113 = .ok (.goto 4, 3) := by decide +kernel
theorem dX3_lineNamed_116 : decode cX3_lineNamed 116 = .ok (.iconst (-1), 1) := by decide +kernel
theorem dX3_lineNamed_117 : decode cX3_lineNamed 117 = .ok (.ireturn, 1) := by decide +kernel
theorem dX3_takeNumber_0 : decode cX3_takeNumber 0 = .ok (.aload_n 0, 1) := by decide +kernel
theorem dX3_takeNumber_1 : decode cX3_takeNumber 1 = .ok (.getfield 29, 3) := by decide +kernel
theorem dX3_takeNumber_4 : decode cX3_takeNumber 4 = .ok (.getstatic 99, 3) := by decide +kernel
theorem dX3_takeNumber_7 : decode cX3_takeNumber 7 = .ok (.arraylength, 1) := by decide +kernel
theorem dX3_takeNumber_8 : decode cX3_takeNumber 8 = .ok (.if_icmp .ge 19, 3) := by decide +kernel
theorem dX3_takeNumber_11 : decode cX3_takeNumber 11 = .ok (.getstatic 99, 3) := by decide +kernel
theorem dX3_takeNumber_14 : decode cX3_takeNumber 14 = .ok (.aload_n 0, 1) := by decide +kernel
theorem dX3_takeNumber_15 : decode cX3_takeNumber 15 = .ok (.getfield 29, 3) := by decide +kernel
theorem dX3_takeNumber_18 : decode cX3_takeNumber 18 = .ok (.iaload, 1) := by decide +kernel
theorem dX3_takeNumber_19 : decode cX3_takeNumber 19 = .ok (.aload_n 0, 1) := by decide +kernel
theorem dX3_takeNumber_20 : decode cX3_takeNumber 20 = .ok (.getfield 62, 3) := by decide +kernel
theorem dX3_takeNumber_23 : decode cX3_takeNumber 23 = .ok (.iadd, 1) := by decide +kernel
theorem dX3_takeNumber_24 : decode cX3_takeNumber 24 = .ok (.goto 7, 3) := by decide +kernel
theorem dX3_takeNumber_27 : decode cX3_takeNumber 27 = .ok (.getstatic 102, 3) := by decide +kernel
theorem dX3_takeNumber_30 : decode cX3_takeNumber 30 = .ok (.arraylength, 1) := by decide +kernel
theorem dX3_takeNumber_31 : decode cX3_takeNumber 31 = .ok (.istore_n 1, 1) := by decide +kernel
theorem dX3_takeNumber_32 : decode cX3_takeNumber 32 = .ok (.aload_n 0, 1) := by decide +kernel
theorem dX3_takeNumber_33 : decode cX3_takeNumber 33 = .ok (.getfield 10, 3) := by decide +kernel
theorem dX3_takeNumber_36 : decode cX3_takeNumber 36 = .ok (.getfield 45, 3) := by decide +kernel
theorem dX3_takeNumber_39 : decode cX3_takeNumber 39 = .ok (.iconst 3, 1) := by decide +kernel
theorem dX3_takeNumber_40 : decode cX3_takeNumber 40 = .ok (.if_icmp .ne 19, 3) := by decide +kernel
theorem dX3_takeNumber_43 : decode cX3_takeNumber 43 = .ok (.iload_n 1, 1) := by decide +kernel
theorem dX3_takeNumber_44 : decode cX3_takeNumber 44 = .ok (.getstatic 102, 3) := by decide +kernel
theorem dX3_takeNumber_47 : decode cX3_takeNumber 47 = .ok (.arraylength, 1) := by decide +kernel
theorem dX3_takeNumber_48 : decode cX3_takeNumber 48 = .ok (.if_icmp .ge 11, 3) := by decide +kernel
theorem dX3_takeNumber_51 : decode cX3_takeNumber 51 = .ok (.iload_n 1, 1) := by decide +kernel
theorem dX3_takeNumber_52 : decode cX3_takeNumber 52 = .ok (.getstatic 105, 3) := by decide +kernel
theorem dX3_takeNumber_55 : decode cX3_takeNumber 55 = .ok (.arraylength, 1) := by decide +kernel
theorem dX3_takeNumber_56 : decode cX3_takeNumber 56 = .ok (.if_icmp .lt 9, 3) := by decide +kernel
theorem dX3_takeNumber_59 : decode cX3_takeNumber 59 = .ok (.aload_n 0, 1) := by decide +kernel
theorem dX3_takeNumber_60 : decode cX3_takeNumber 60 = .ok (.iconst 2, 1) := by decide +kernel
theorem dX3_takeNumber_61 : decode cX3_takeNumber 61 = .ok (.invokevirtual 51, 3) := by decide +kernel
theorem dX3_takeNumber_64 : decode cX3_takeNumber 64 = .ok (.return_, 1) := by decide +kernel
theorem dX3_takeNumber_65 : decode cX3_takeNumber 65 = .ok (.iload_n 1, 1) := by decide +kernel
theorem dX3_takeNumber_66 : decode cX3_takeNumber 66 = .ok (.bipush 14, 2) := by decide +kernel
theorem dX3_takeNumber_68 : decode cX3_takeNumber 68 = .ok (.if_icmp .ne 16, 3) := by decide +kernel
theorem dX3_takeNumber_71 : decode cX3_takeNumber 71 = .ok (.aload_n 0, 1) := by decide +kernel
theorem dX3_takeNumber_72 : decode cX3_takeNumber 72 = .ok (.getfield 19, 3) := by decide +kernel
theorem dX3_takeNumber_75 : decode cX3_takeNumber 75 = .ok (.getfield 108, 3) := by decide +kernel
theorem dX3_takeNumber_78 : decode cX3_takeNumber 78 = .ok (.bipush 7, 2) := by decide +kernel
theorem dX3_takeNumber_80 : decode cX3_takeNumber 80 = .ok (.iaload, 1) := by decide +kernel
theorem dX3_takeNumber_81 : decode cX3_takeNumber 81 = .ok (.goto 8, 3) := by decide +kernel
theorem dX3_takeNumber_84 : decode cX3_takeNumber 84 = .ok (.getstatic 102, 3) := by decide +kernel
theorem dX3_takeNumber_87 : decode cX3_takeNumber 87 = .ok (.iload_n 1, 1) := by decide +kernel
theorem dX3_takeNumber_88 : decode cX3_takeNumber 88 = .ok (.iaload, 1) := by decide +kernel
theorem dX3_takeNumber_89 : decode cX3_takeNumber 89 = .ok (.istore_n 2, 1) := by decide +kernel
theorem dX3_takeNumber_90 : decode cX3_takeNumber 90 = .ok (.aload_n 0, 1) := by decide +kernel
theorem dX3_takeNumber_91 : decode cX3_takeNumber 91 = .ok (.getfield 10, 3) := by decide +kernel
theorem dX3_takeNumber_94 : decode cX3_takeNumber 94 = .ok (.getfield 111, 3) := by decide +kernel
theorem dX3_takeNumber_97 : decode cX3_takeNumber 97 = .ok (.iload_n 2, 1) := by decide +kernel
theorem dX3_takeNumber_98 : decode cX3_takeNumber 98 = .ok (.getstatic 105, 3) := by decide +kernel
theorem dX3_takeNumber_101 : decode cX3_takeNumber 101 = .ok (.iload_n 1, 1) := by decide +kernel
theorem dX3_takeNumber_102 : decode cX3_takeNumber 102 = .ok (.iaload, 1) := by decide +kernel
theorem dX3_takeNumber_103 : decode cX3_takeNumber 103 = .ok (.invokestatic 114, 3) := by decide +kernel
theorem dX3_takeNumber_106 : decode cX3_takeNumber 106 = .ok (.ifCond .eq 9, 3) := by decide +kernel
theorem dX3_takeNumber_109 : decode cX3_takeNumber 109 = .ok (.aload_n 0, 1) := by decide +kernel
theorem dX3_takeNumber_110 : decode cX3_takeNumber 110 = .ok (.iconst 3, 1) := by decide +kernel
theorem dX3_takeNumber_111 : decode cX3_takeNumber 111 = .ok (.invokevirtual 51, 3) := by decide +kernel
theorem dX3_takeNumber_114 : decode cX3_takeNumber 114 = .ok (.return_, 1) := by decide +kernel
theorem dX3_takeNumber_115 : decode cX3_takeNumber 115 = .ok (.aload_n 0, 1) := by decide +kernel
theorem dX3_takeNumber_116 : decode cX3_takeNumber 116 = .ok (.getfield 19, 3) := by decide +kernel
theorem dX3_takeNumber_119 : decode cX3_takeNumber 119 = .ok (.iload_n 1, 1) := by decide +kernel
theorem dX3_takeNumber_120 : decode cX3_takeNumber 120 = .ok (.aload_n 0, 1) := by decide +kernel
theorem dX3_takeNumber_121 : decode cX3_takeNumber 121 = .ok (.getfield 10, 3) := by decide +kernel
theorem dX3_takeNumber_124 : decode cX3_takeNumber 124 = .ok (.getfield 111, 3) := by decide +kernel
theorem dX3_takeNumber_127 : decode cX3_takeNumber 127 = .ok (.invokevirtual 120, 3) := by decide +kernel
theorem dX3_takeNumber_130 : decode cX3_takeNumber 130 = .ok (.aload_n 0, 1) := by decide +kernel
theorem dX3_takeNumber_131 : decode cX3_takeNumber 131 = .ok (.dup, 1) := by decide +kernel
theorem dX3_takeNumber_132 : decode cX3_takeNumber 132 = .ok (.getfield 62, 3) := by decide +kernel
theorem dX3_takeNumber_135 : decode cX3_takeNumber 135 = .ok (.iconst 1, 1) := by decide +kernel
theorem dX3_takeNumber_136 : decode cX3_takeNumber 136 = .ok (.iadd, 1) := by decide +kernel
theorem dX3_takeNumber_137 : decode cX3_takeNumber 137 = .ok (.putfield 62, 3) := by decide +kernel
theorem dX3_takeNumber_140 : decode cX3_takeNumber 140 = .ok (.return_, 1) := by decide +kernel
theorem dX3_endLine_0 : decode cX3_endLine 0 = .ok (.aload_n 0, 1) := by decide +kernel
theorem dX3_endLine_1 : decode cX3_endLine 1 = .ok (.getfield 10, 3) := by decide +kernel
theorem dX3_endLine_4 : decode cX3_endLine 4 = .ok (.getfield 45, 3) := by decide +kernel
theorem dX3_endLine_7 : decode cX3_endLine 7 = .ok (.iconst 4, 1) := by decide +kernel
theorem dX3_endLine_8 : decode cX3_endLine 8 = .ok (.if_icmp .eq 9, 3) := by decide +kernel
theorem dX3_endLine_11 : decode cX3_endLine 11 = .ok (.aload_n 0, 1) := by decide +kernel
theorem dX3_endLine_12 : decode cX3_endLine 12 = .ok (.iconst 2, 1) := by decide +kernel
theorem dX3_endLine_13 : decode cX3_endLine 13 = .ok (.invokevirtual 51, 3) := by decide +kernel
theorem dX3_endLine_16 : decode cX3_endLine 16 = .ok (.return_, 1) := by decide +kernel
theorem dX3_endLine_17 : decode cX3_endLine 17 = .ok (.aload_n 0, 1) := by decide +kernel
theorem dX3_endLine_18 : decode cX3_endLine 18 = .ok (.getfield 29, 3) := by decide +kernel
theorem dX3_endLine_21 : decode cX3_endLine 21 = .ok (.ifCond .ne 16, 3) := by decide +kernel
theorem dX3_endLine_24 : decode cX3_endLine 24 = .ok (.aload_n 0, 1) := by decide +kernel
theorem dX3_endLine_25 : decode cX3_endLine 25 = .ok (.getfield 19, 3) := by decide +kernel
theorem dX3_endLine_28 : decode cX3_endLine 28 = .ok (.dup, 1) := by decide +kernel
theorem dX3_endLine_29 : decode cX3_endLine 29 = .ok (.getfield 124, 3) := by decide +kernel
theorem dX3_endLine_32 : decode cX3_endLine 32 = .ok (.iconst 1, 1) := by decide +kernel
theorem dX3_endLine_33 : decode cX3_endLine 33 = .ok (.iadd, 1) := by decide +kernel
theorem dX3_endLine_34 : decode cX3_endLine 34 = .ok (.putfield 124, 3) := by decide +kernel
theorem dX3_endLine_37 : decode cX3_endLine 37 = .ok (.aload_n 0, 1) := by decide +kernel
theorem dX3_endLine_38 : decode cX3_endLine 38 = .ok (.dup, 1) := by decide +kernel
theorem dX3_endLine_39 : decode cX3_endLine 39 = .ok (.getfield 33, 3) := by decide +kernel
theorem dX3_endLine_42 : decode cX3_endLine 42 = .ok (.iconst 1, 1) := by decide +kernel
theorem dX3_endLine_43 : decode cX3_endLine 43 = .ok (.iadd, 1) := by decide +kernel
theorem dX3_endLine_44 : decode cX3_endLine 44 = .ok (.putfield 33, 3) := by decide +kernel
theorem dX3_endLine_47 : decode cX3_endLine 47 = .ok (.aload_n 0, 1) := by decide +kernel
theorem dX3_endLine_48 : decode cX3_endLine 48 = .ok (.iconst (-1), 1) := by decide +kernel
theorem dX3_endLine_49 : decode cX3_endLine 49 = .ok (.putfield 29, 3) := by decide +kernel
theorem dX3_endLine_52 : decode cX3_endLine 52 = .ok (.return_, 1) := by decide +kernel
theorem dX3_refuse_0 : decode cX3_refuse 0 = .ok (.aload_n 0, 1) := by decide +kernel
theorem dX3_refuse_1 : decode cX3_refuse 1 = .ok (.iload_n 1, 1) := by decide +kernel
theorem dX3_refuse_2 : decode cX3_refuse 2 = .ok (.putfield 39, 3) := by decide +kernel
theorem dX3_refuse_5 : decode cX3_refuse 5 = .ok (.aload_n 0, 1) := by decide +kernel
theorem dX3_refuse_6 : decode cX3_refuse 6 = .ok (.aload_n 0, 1) := by decide +kernel
theorem dX3_refuse_7 : decode cX3_refuse 7 = .ok (.getfield 10, 3) := by decide +kernel
theorem dX3_refuse_10 : decode cX3_refuse 10 = .ok (.getfield 127, 3) := by decide +kernel
theorem dX3_refuse_13 : decode cX3_refuse 13 = .ok (.putfield 130, 3) := by decide +kernel
theorem dX3_refuse_16 : decode cX3_refuse 16 = .ok (.return_, 1) := by decide +kernel
theorem dX5_init_0 : decode cX5_init 0 = .ok (.aload_n 0, 1) := by decide +kernel
theorem dX5_init_1 : decode cX5_init 1 = .ok (.invokespecial 1, 3) := by decide +kernel
theorem dX5_init_4 : decode cX5_init 4 = .ok (.aload_n 0, 1) := by decide +kernel
theorem dX5_init_5 : decode cX5_init 5 = .ok (.sipush 320, 3) := by decide +kernel
theorem dX5_init_8 : decode cX5_init 8 = .ok (.newarray .byte, 2) := by decide +kernel
theorem dX5_init_10 : decode cX5_init 10 = .ok (.putfield 9, 3) := by decide +kernel
theorem dX5_init_13 : decode cX5_init 13 = .ok (.return_, 1) := by decide +kernel
theorem dX5_put_0 : decode cX5_put 0 = .ok (.aload_n 0, 1) := by decide +kernel
theorem dX5_put_1 : decode cX5_put 1 = .ok (.getfield 13, 3) := by decide +kernel
theorem dX5_put_4 : decode cX5_put 4 = .ok (.sipush 312, 3) := by decide +kernel
theorem dX5_put_7 : decode cX5_put 7 = .ok (.if_icmp .le 5, 3) := by decide +kernel
theorem dX5_put_10 : decode cX5_put 10 = .ok (.iconst 0, 1) := by decide +kernel
theorem dX5_put_11 : decode cX5_put 11 = .ok (.ireturn, 1) := by decide +kernel
theorem dX5_put_12 : decode cX5_put 12 = .ok (.bipush 56, 2) := by decide +kernel
theorem dX5_put_14 : decode cX5_put 14 = .ok (.istore_n 3, 1) := by decide +kernel
theorem dX5_put_15 : decode cX5_put 15 = .ok (.iload_n 3, 1) := by decide +kernel
theorem dX5_put_16 : decode cX5_put 16 = .ok (.ifCond .lt 45, 3) := by decide +kernel
theorem dX5_put_19 : decode cX5_put 19 = .ok (.aload_n 0, 1) := by decide +kernel
theorem dX5_put_20 : decode cX5_put 20 = .ok (.getfield 13, 3) := by decide +kernel
theorem dX5_put_23 : decode cX5_put 23 = .ok (.aload_n 0, 1) := by decide +kernel
theorem dX5_put_24 : decode cX5_put 24 = .ok (.getfield 9, 3) := by decide +kernel
theorem dX5_put_27 : decode cX5_put 27 = .ok (.arraylength, 1) := by decide +kernel
theorem dX5_put_28 : decode cX5_put 28 = .ok (.if_icmp .ge 33, 3) := by decide +kernel
theorem dX5_put_31 : decode cX5_put 31 = .ok (.aload_n 0, 1) := by decide +kernel
theorem dX5_put_32 : decode cX5_put 32 = .ok (.getfield 9, 3) := by decide +kernel
theorem dX5_put_35 : decode cX5_put 35 = .ok (.aload_n 0, 1) := by decide +kernel
theorem dX5_put_36 : decode cX5_put 36 = .ok (.getfield 13, 3) := by decide +kernel
theorem dX5_put_39 : decode cX5_put 39 = .ok (.lload_n 1, 1) := by decide +kernel
theorem dX5_put_40 : decode cX5_put 40 = .ok (.iload_n 3, 1) := by decide +kernel
theorem dX5_put_41 : decode cX5_put 41 = .ok (.lshr, 1) := by decide +kernel
theorem dX5_put_42 : decode cX5_put 42 = .ok (.l2i, 1) := by decide +kernel
theorem dX5_put_43 : decode cX5_put 43 = .ok (.i2b, 1) := by decide +kernel
theorem dX5_put_44 : decode cX5_put 44 = .ok (.bastore, 1) := by decide +kernel
theorem dX5_put_45 : decode cX5_put 45 = .ok (.aload_n 0, 1) := by decide +kernel
theorem dX5_put_46 : decode cX5_put 46 = .ok (.dup, 1) := by decide +kernel
theorem dX5_put_47 : decode cX5_put 47 = .ok (.getfield 13, 3) := by decide +kernel
theorem dX5_put_50 : decode cX5_put 50 = .ok (.iconst 1, 1) := by decide +kernel
theorem dX5_put_51 : decode cX5_put 51 = .ok (.iadd, 1) := by decide +kernel
theorem dX5_put_52 : decode cX5_put 52 = .ok (.putfield 13, 3) := by decide +kernel
theorem dX5_put_55 : decode cX5_put 55 = .ok (.iinc 3 (-8), 3) := by decide +kernel
theorem dX5_put_58 : decode cX5_put 58 = .ok (.goto (-43), 3) := by decide +kernel
theorem dX5_put_61 : decode cX5_put 61 = .ok (.iconst 1, 1) := by decide +kernel
theorem dX5_put_62 : decode cX5_put 62 = .ok (.ireturn, 1) := by decide +kernel
theorem dX5_byteAt_0 : decode cX5_byteAt 0 = .ok (.iload_n 1, 1) := by decide +kernel
theorem dX5_byteAt_1 : decode cX5_byteAt 1 = .ok (.ifCond .lt 29, 3) := by decide +kernel
theorem dX5_byteAt_4 : decode cX5_byteAt 4 = .ok (.iload_n 1, 1) := by decide +kernel
theorem dX5_byteAt_5 : decode cX5_byteAt 5 = .ok (.aload_n 0, 1) := by decide +kernel
theorem dX5_byteAt_6 : decode cX5_byteAt 6 = .ok (.getfield 13, 3) := by decide +kernel
theorem dX5_byteAt_9 : decode cX5_byteAt 9 = .ok (.if_icmp .ge 21, 3) := by decide +kernel
theorem dX5_byteAt_12 : decode cX5_byteAt 12 = .ok (.iload_n 1, 1) := by decide +kernel
theorem dX5_byteAt_13 : decode cX5_byteAt 13 = .ok (.aload_n 0, 1) := by decide +kernel
theorem dX5_byteAt_14 : decode cX5_byteAt 14 = .ok (.getfield 9, 3) := by decide +kernel
theorem dX5_byteAt_17 : decode cX5_byteAt 17 = .ok (.arraylength, 1) := by decide +kernel
theorem dX5_byteAt_18 : decode cX5_byteAt 18 = .ok (.if_icmp .ge 12, 3) := by decide +kernel
theorem dX5_byteAt_21 : decode cX5_byteAt 21 = .ok (.aload_n 0, 1) := by decide +kernel
theorem dX5_byteAt_22 : decode cX5_byteAt 22 = .ok (.getfield 9, 3) := by decide +kernel
theorem dX5_byteAt_25 : decode cX5_byteAt 25 = .ok (.iload_n 1, 1) := by decide +kernel
theorem dX5_byteAt_26 : decode cX5_byteAt 26 = .ok (.baload, 1) := by decide +kernel
theorem dX5_byteAt_27 : decode cX5_byteAt 27 = .ok (.goto 4, 3) := by decide +kernel
theorem dX5_byteAt_30 : decode cX5_byteAt 30 = .ok (.iconst 0, 1) := by decide +kernel
theorem dX5_byteAt_31 : decode cX5_byteAt 31 = .ok (.ireturn, 1) := by decide +kernel
theorem dX5_rewind_0 : decode cX5_rewind 0 = .ok (.aload_n 0, 1) := by decide +kernel
theorem dX5_rewind_1 : decode cX5_rewind 1 = .ok (.iconst 0, 1) := by decide +kernel
theorem dX5_rewind_2 : decode cX5_rewind 2 = .ok (.putfield 17, 3) := by decide +kernel
theorem dX5_rewind_5 : decode cX5_rewind 5 = .ok (.return_, 1) := by decide +kernel
theorem dX5_advance_0 : decode cX5_advance 0 = .ok (.aload_n 0, 1) := by decide +kernel
theorem dX5_advance_1 : decode cX5_advance 1 = .ok (.aload_n 0, 1) := by decide +kernel
theorem dX5_advance_2 : decode cX5_advance 2 = .ok (.getfield 17, 3) := by decide +kernel
theorem dX5_advance_5 : decode cX5_advance 5 = .ok (.putfield 20, 3) := by decide +kernel
theorem dX5_advance_8 : decode cX5_advance 8 = .ok (.iconst 0, 1) := by decide +kernel
theorem dX5_advance_9 : decode cX5_advance 9 = .ok (.istore_n 1, 1) := by decide +kernel
theorem dX5_advance_10 : decode cX5_advance 10 = .ok (.iload_n 1, 1) := by decide +kernel
theorem dX5_advance_11 : decode cX5_advance 11 = .ok (.sipush 320, 3) := by decide +kernel
theorem dX5_advance_14 : decode cX5_advance 14 = .ok (.if_icmp .ge 31, 3) := by decide +kernel
theorem dX5_advance_17 : decode cX5_advance 17 = .ok (.aload_n 0, 1) := by decide +kernel
theorem dX5_advance_18 : decode cX5_advance 18 = .ok (.aload_n 0, 1) := by decide +kernel
theorem dX5_advance_19 : decode cX5_advance 19 = .ok (.getfield 20, 3) := by decide +kernel
theorem dX5_advance_22 : decode cX5_advance 22 = .ok (.invokevirtual 23, 3) := by decide +kernel
theorem dX5_advance_25 : decode cX5_advance 25 = .ok (.iconst 1, 1) := by decide +kernel
theorem dX5_advance_26 : decode cX5_advance 26 = .ok (.if_icmp .ne 19, 3) := by decide +kernel
theorem dX5_advance_29 : decode cX5_advance 29 = .ok (.aload_n 0, 1) := by decide +kernel
theorem dX5_advance_30 : decode cX5_advance 30 = .ok (.dup, 1) := by decide +kernel
theorem dX5_advance_31 : decode cX5_advance 31 = .ok (.getfield 20, 3) := by decide +kernel
theorem dX5_advance_34 : decode cX5_advance 34 = .ok (.iconst 1, 1) := by decide +kernel
theorem dX5_advance_35 : decode cX5_advance 35 = .ok (.iadd, 1) := by decide +kernel
theorem dX5_advance_36 : decode cX5_advance 36 = .ok (.putfield 20, 3) := by decide +kernel
theorem dX5_advance_39 : decode cX5_advance 39 = .ok (.iinc 1 1, 3) := by decide +kernel
theorem dX5_advance_42 : decode cX5_advance 42 = .ok (.goto (-32), 3) := by decide +kernel
theorem dX5_advance_45 : decode cX5_advance 45 = .ok (.aload_n 0, 1) := by decide +kernel
theorem dX5_advance_46 : decode cX5_advance 46 = .ok (.aload_n 0, 1) := by decide +kernel
theorem dX5_advance_47 : decode cX5_advance 47 = .ok (.aload_n 0, 1) := by decide +kernel
theorem dX5_advance_48 : decode cX5_advance 48 = .ok (.getfield 20, 3) := by decide +kernel
theorem dX5_advance_51 : decode cX5_advance 51 = .ok (.invokevirtual 23, 3) := by decide +kernel
theorem dX5_advance_54 : decode cX5_advance 54 = .ok (.putfield 27, 3) := by decide +kernel
theorem dX5_advance_57 : decode cX5_advance 57 = .ok (.aload_n 0, 1) := by decide +kernel
theorem dX5_advance_58 : decode cX5_advance 58 = .ok (.aload_n 0, 1) := by decide +kernel
theorem dX5_advance_59 : decode cX5_advance 59 = .ok (.getfield 20, 3) := by decide +kernel
theorem dX5_advance_62 : decode cX5_advance 62 = .ok (.iconst 1, 1) := by decide +kernel
theorem dX5_advance_63 : decode cX5_advance 63 = .ok (.iadd, 1) := by decide +kernel
theorem dX5_advance_64 : decode cX5_advance 64 = .ok (.putfield 17, 3) := by decide +kernel
theorem dX5_advance_67 : decode cX5_advance 67 = .ok (.aload_n 0, 1) := by decide +kernel
theorem dX5_advance_68 : decode cX5_advance 68 = .ok (.getfield 27, 3) := by decide +kernel
theorem dX5_advance_71 : decode cX5_advance 71 = .ok (.iconst 2, 1) := by decide +kernel
theorem dX5_advance_72 : decode cX5_advance 72 = .ok (.if_icmp .eq 11, 3) := by decide +kernel
theorem dX5_advance_75 : decode cX5_advance 75 = .ok (.aload_n 0, 1) := by decide +kernel
theorem dX5_advance_76 : decode cX5_advance 76 = .ok (.getfield 27, 3) := by decide +kernel
theorem dX5_advance_79 : decode cX5_advance 79 = .ok (.iconst 3, 1) := by decide +kernel
theorem dX5_advance_80 : decode cX5_advance 80 = .ok (.if_icmp .ne 43, 3) := by decide +kernel
theorem dX5_advance_83 : decode cX5_advance 83 = .ok (.iconst 0, 1) := by decide +kernel
theorem dX5_advance_84 : decode cX5_advance 84 = .ok (.istore_n 1, 1) := by decide +kernel
theorem dX5_advance_85 : decode cX5_advance 85 = .ok (.iload_n 1, 1) := by decide +kernel
theorem dX5_advance_86 : decode cX5_advance 86 = .ok (.sipush 320, 3) := by decide +kernel
theorem dX5_advance_89 : decode cX5_advance 89 = .ok (.if_icmp .ge 34, 3) := by decide +kernel
theorem dX5_advance_92 : decode cX5_advance 92 = .ok (.aload_n 0, 1) := by decide +kernel
theorem dX5_advance_93 : decode cX5_advance 93 = .ok (.aload_n 0, 1) := by decide +kernel
theorem dX5_advance_94 : decode cX5_advance 94 = .ok (.getfield 17, 3) := by decide +kernel
theorem dX5_advance_97 : decode cX5_advance 97 = .ok (.invokevirtual 23, 3) := by decide +kernel
theorem dX5_advance_100 : decode cX5_advance 100 = .ok (.aload_n 0, 1) := by decide +kernel
theorem dX5_advance_101 : decode cX5_advance 101 = .ok (.getfield 27, 3) := by decide +kernel
theorem dX5_advance_104 : decode cX5_advance 104 = .ok (.if_icmp .ne 19, 3) := by decide +kernel
theorem dX5_advance_107 : decode cX5_advance 107 = .ok (.aload_n 0, 1) := by decide +kernel
theorem dX5_advance_108 : decode cX5_advance 108 = .ok (.dup, 1) := by decide +kernel
theorem dX5_advance_109 : decode cX5_advance 109 = .ok (.getfield 17, 3) := by decide +kernel
theorem dX5_advance_112 : decode cX5_advance 112 = .ok (.iconst 1, 1) := by decide +kernel
theorem dX5_advance_113 : decode cX5_advance 113 = .ok (.iadd, 1) := by decide +kernel
theorem dX5_advance_114 : decode cX5_advance 114 = .ok (.putfield 17, 3) := by decide +kernel
theorem dX5_advance_117 : decode cX5_advance 117 = .ok (.iinc 1 1, 3) := by decide +kernel
theorem dX5_advance_120 : decode cX5_advance 120 = .ok (.goto (-35), 3) := by decide +kernel
theorem dX5_advance_123 : decode cX5_advance 123 = .ok (.aload_n 0, 1) := by decide +kernel
theorem dX5_advance_124 : decode cX5_advance 124 = .ok (.getfield 27, 3) := by decide +kernel
theorem dX5_advance_127 : decode cX5_advance 127 = .ok (.iconst 3, 1) := by decide +kernel
theorem dX5_advance_128 : decode cX5_advance 128 = .ok (.if_icmp .ne 7, 3) := by decide +kernel
theorem dX5_advance_131 : decode cX5_advance 131 = .ok (.aload_n 0, 1) := by decide +kernel
theorem dX5_advance_132 : decode cX5_advance 132 = .ok (.invokevirtual 30, 3) := by decide +kernel
theorem dX5_advance_135 : decode cX5_advance 135 = .ok (.return_, 1) := by decide +kernel
theorem dX5_takeNumber_0 : decode cX5_takeNumber 0 = .ok (.aload_n 0, 1) := by decide +kernel
theorem dX5_takeNumber_1 : decode cX5_takeNumber 1 = .ok (.getfield 17, 3) := by decide +kernel
theorem dX5_takeNumber_4 : decode cX5_takeNumber 4 = .ok (.aload_n 0, 1) := by decide +kernel
theorem dX5_takeNumber_5 : decode cX5_takeNumber 5 = .ok (.getfield 20, 3) := by decide +kernel
theorem dX5_takeNumber_8 : decode cX5_takeNumber 8 = .ok (.isub, 1) := by decide +kernel
theorem dX5_takeNumber_9 : decode cX5_takeNumber 9 = .ok (.iconst 3, 1) := by decide +kernel
theorem dX5_takeNumber_10 : decode cX5_takeNumber 10 = .ok (.if_icmp .le 9, 3) := by decide +kernel
theorem dX5_takeNumber_13 : decode cX5_takeNumber 13 = .ok (.aload_n 0, 1) := by decide +kernel
theorem dX5_takeNumber_14 : decode cX5_takeNumber 14 = .ok (.iconst 5, 1) := by decide +kernel
theorem dX5_takeNumber_15 : decode cX5_takeNumber 15 = .ok (.putfield 27, 3) := by decide +kernel
theorem dX5_takeNumber_18 : decode cX5_takeNumber 18 = .ok (.return_, 1) := by decide +kernel
theorem dX5_takeNumber_19 : decode cX5_takeNumber 19 = .ok (.aload_n 0, 1) := by decide +kernel
theorem dX5_takeNumber_20 : decode cX5_takeNumber 20 = .ok (.iconst 0, 1) := by decide +kernel
theorem dX5_takeNumber_21 : decode cX5_takeNumber 21 = .ok (.putfield 33, 3) := by decide +kernel
theorem dX5_takeNumber_24 : decode cX5_takeNumber 24 = .ok (.aload_n 0, 1) := by decide +kernel
theorem dX5_takeNumber_25 : decode cX5_takeNumber 25 = .ok (.getfield 20, 3) := by decide +kernel
theorem dX5_takeNumber_28 : decode cX5_takeNumber 28 = .ok (.istore_n 1, 1) := by decide +kernel
theorem dX5_takeNumber_29 : decode cX5_takeNumber 29 = .ok (.iload_n 1, 1) := by decide +kernel
theorem dX5_takeNumber_30 : decode cX5_takeNumber 30 = .ok (.aload_n 0, 1) := by decide +kernel
theorem dX5_takeNumber_31 : decode cX5_takeNumber 31 = .ok (.getfield 17, 3) := by decide +kernel
theorem dX5_takeNumber_34 : decode cX5_takeNumber 34 = .ok (.if_icmp .ge 29, 3) := by decide +kernel
theorem dX5_takeNumber_37 : decode cX5_takeNumber 37 = .ok (.aload_n 0, 1) := by decide +kernel
theorem dX5_takeNumber_38 : decode cX5_takeNumber 38 = .ok (.bipush 10, 2) := by decide +kernel
theorem dX5_takeNumber_40 : decode cX5_takeNumber 40 = .ok (.aload_n 0, 1) := by decide +kernel
theorem dX5_takeNumber_41 : decode cX5_takeNumber 41 = .ok (.getfield 33, 3) := by decide +kernel
theorem dX5_takeNumber_44 : decode cX5_takeNumber 44 = .ok (.imul, 1) := by decide +kernel
theorem dX5_takeNumber_45 : decode cX5_takeNumber 45 = .ok (.aload_n 0, 1) := by decide +kernel
theorem dX5_takeNumber_46 : decode cX5_takeNumber 46 = .ok (.iload_n 1, 1) := by decide +kernel
theorem dX5_takeNumber_47 : decode cX5_takeNumber 47 = .ok (.invokevirtual 36, 3) := by decide +kernel
theorem dX5_takeNumber_50 : decode cX5_takeNumber 50 = .ok (.iadd, 1) := by decide +kernel
theorem dX5_takeNumber_51 : decode cX5_takeNumber 51 = .ok (.bipush 48, 2) := by decide +kernel
theorem dX5_takeNumber_53 : decode cX5_takeNumber 53 = .ok (.isub, 1) := by decide +kernel
theorem dX5_takeNumber_54 : decode cX5_takeNumber 54 = .ok (.putfield 33, 3) := by decide +kernel
theorem dX5_takeNumber_57 : decode cX5_takeNumber 57 = .ok (.iinc 1 1, 3) := by decide +kernel
theorem dX5_takeNumber_60 : decode cX5_takeNumber 60 = .ok (.goto (-31), 3) := by decide +kernel
theorem dX5_takeNumber_63 : decode cX5_takeNumber 63 = .ok (.return_, 1) := by decide +kernel
theorem dX5_kindAt_0 : decode cX5_kindAt 0 = .ok (.iload_n 1, 1) := by decide +kernel
theorem dX5_kindAt_1 : decode cX5_kindAt 1 = .ok (.aload_n 0, 1) := by decide +kernel
theorem dX5_kindAt_2 : decode cX5_kindAt 2 = .ok (.getfield 13, 3) := by decide +kernel
theorem dX5_kindAt_5 : decode cX5_kindAt 5 = .ok (.if_icmp .lt 5, 3) := by decide +kernel
theorem dX5_kindAt_8 : decode cX5_kindAt 8 = .ok (.iconst 0, 1) := by decide +kernel
theorem dX5_kindAt_9 : decode cX5_kindAt 9 = .ok (.ireturn, 1) := by decide +kernel
theorem dX5_kindAt_10 : decode cX5_kindAt 10 = .ok (.aload_n 0, 1) := by decide +kernel
theorem dX5_kindAt_11 : decode cX5_kindAt 11 = .ok (.iload_n 1, 1) := by decide +kernel
theorem dX5_kindAt_12 : decode cX5_kindAt 12 = .ok (.invokevirtual 36, 3) := by decide +kernel
theorem dX5_kindAt_15 : decode cX5_kindAt 15 = .ok (.istore_n 2, 1) := by decide +kernel
theorem dX5_kindAt_16 : decode cX5_kindAt 16 = .ok (.iload_n 2, 1) := by decide +kernel
theorem dX5_kindAt_17 : decode cX5_kindAt 17 = .ok (.bipush 32, 2) := by decide +kernel
theorem dX5_kindAt_19 : decode cX5_kindAt 19 = .ok (.if_icmp .ne 5, 3) := by decide +kernel
theorem dX5_kindAt_22 : decode cX5_kindAt 22 = .ok (.iconst 1, 1) := by decide +kernel
theorem dX5_kindAt_23 : decode cX5_kindAt 23 = .ok (.ireturn, 1) := by decide +kernel
theorem dX5_kindAt_24 : decode cX5_kindAt 24 = .ok (.iload_n 2, 1) := by decide +kernel
theorem dX5_kindAt_25 : decode cX5_kindAt 25 = .ok (.bipush 59, 2) := by decide +kernel
theorem dX5_kindAt_27 : decode cX5_kindAt 27 = .ok (.if_icmp .ne 5, 3) := by decide +kernel
theorem dX5_kindAt_30 : decode cX5_kindAt 30 = .ok (.iconst 4, 1) := by decide +kernel
theorem dX5_kindAt_31 : decode cX5_kindAt 31 = .ok (.ireturn, 1) := by decide +kernel
theorem dX5_kindAt_32 : decode cX5_kindAt 32 = .ok (.iload_n 2, 1) := by decide +kernel
theorem dX5_kindAt_33 : decode cX5_kindAt 33 = .ok (.bipush 97, 2) := by decide +kernel
theorem dX5_kindAt_35 : decode cX5_kindAt 35 = .ok (.if_icmp .lt 11, 3) := by decide +kernel
theorem dX5_kindAt_38 : decode cX5_kindAt 38 = .ok (.iload_n 2, 1) := by decide +kernel
theorem dX5_kindAt_39 : decode cX5_kindAt 39 = .ok (.bipush 122, 2) := by decide +kernel
theorem dX5_kindAt_41 : decode cX5_kindAt 41 = .ok (.if_icmp .gt 5, 3) := by decide +kernel
theorem dX5_kindAt_44 : decode cX5_kindAt 44 = .ok (.iconst 2, 1) := by decide +kernel
theorem dX5_kindAt_45 : decode cX5_kindAt 45 = .ok (.ireturn, 1) := by decide +kernel
theorem dX5_kindAt_46 : decode cX5_kindAt 46 = .ok (.iload_n 2, 1) := by decide +kernel
theorem dX5_kindAt_47 : decode cX5_kindAt 47 = .ok (.bipush 48, 2) := by decide +kernel
theorem dX5_kindAt_49 : decode cX5_kindAt 49 = .ok (.if_icmp .lt 13, 3) := by decide +kernel
theorem dX5_kindAt_52 : decode cX5_kindAt 52 = .ok (.iload_n 2, 1) := by decide +kernel
theorem dX5_kindAt_53 : decode cX5_kindAt 53 = .ok (.bipush 57, 2) := by decide +kernel
theorem dX5_kindAt_55 : decode cX5_kindAt 55 = .ok (.if_icmp .gt 7, 3) := by decide +kernel
theorem dX5_kindAt_58 : decode cX5_kindAt 58 = .ok (.iconst 3, 1) := by decide +kernel
theorem dX5_kindAt_59 : decode cX5_kindAt 59 = .ok (.goto 4, 3) := by decide +kernel
theorem dX5_kindAt_62 : decode cX5_kindAt 62 = .ok (.iconst 5, 1) := by decide +kernel
theorem dX5_kindAt_63 : decode cX5_kindAt 63 = .ok (.ireturn, 1) := by decide +kernel
theorem dX5_spells_0 : decode cX5_spells 0 = .ok (.aload_n 0, 1) := by decide +kernel
theorem dX5_spells_1 : decode cX5_spells 1 = .ok (.getfield 27, 3) := by decide +kernel
theorem dX5_spells_4 : decode cX5_spells 4 = .ok (.iconst 2, 1) := by decide +kernel
theorem dX5_spells_5 : decode cX5_spells 5 = .ok (.if_icmp .ne 19, 3) := by decide +kernel
theorem dX5_spells_8 : decode cX5_spells 8 = .ok (.aload_n 0, 1) := by decide +kernel
theorem dX5_spells_9 : decode cX5_spells 9 = .ok (.getfield 17, 3) := by decide +kernel
theorem dX5_spells_12 : decode cX5_spells 12 = .ok (.aload_n 0, 1) := by decide +kernel
theorem dX5_spells_13 : decode cX5_spells 13 = .ok (.getfield 20, 3) := by decide +kernel
theorem dX5_spells_16 : decode cX5_spells 16 = .ok (.isub, 1) := by decide +kernel
theorem dX5_spells_17 : decode cX5_spells 17 = .ok (.aload_n 1, 1) := by decide +kernel
theorem dX5_spells_18 : decode cX5_spells 18 = .ok (.invokevirtual 39, 3) := by decide +kernel
theorem dX5_spells_21 : decode cX5_spells 21 = .ok (.if_icmp .eq 5, 3) := by decide +kernel
theorem dX5_spells_24 : decode cX5_spells 24 = .ok (.iconst 0, 1) := by decide +kernel
theorem dX5_spells_25 : decode cX5_spells 25 = .ok (.ireturn, 1) := by decide +kernel
theorem dX5_spells_26 : decode cX5_spells 26 = .ok (.iconst 0, 1) := by decide +kernel
theorem dX5_spells_27 : decode cX5_spells 27 = .ok (.istore_n 2, 1) := by decide +kernel
theorem dX5_spells_28 : decode cX5_spells 28 = .ok (.iload_n 2, 1) := by decide +kernel
theorem dX5_spells_29 : decode cX5_spells 29 = .ok (.aload_n 1, 1) := by decide +kernel
theorem dX5_spells_30 : decode cX5_spells 30 = .ok (.invokevirtual 39, 3) := by decide +kernel
theorem dX5_spells_33 : decode cX5_spells 33 = .ok (.if_icmp .ge 29, 3) := by decide +kernel
theorem dX5_spells_36 : decode cX5_spells 36 = .ok (.aload_n 0, 1) := by decide +kernel
theorem dX5_spells_37 : decode cX5_spells 37 = .ok (.aload_n 0, 1) := by decide +kernel
theorem dX5_spells_38 : decode cX5_spells 38 = .ok (.getfield 20, 3) := by decide +kernel
theorem dX5_spells_41 : decode cX5_spells 41 = .ok (.iload_n 2, 1) := by decide +kernel
theorem dX5_spells_42 : decode cX5_spells 42 = .ok (.iadd, 1) := by decide +kernel
theorem dX5_spells_43 : decode cX5_spells 43 = .ok (.invokevirtual 36, 3) := by decide +kernel
theorem dX5_spells_46 : decode cX5_spells 46 = .ok (.aload_n 1, 1) := by decide +kernel
theorem dX5_spells_47 : decode cX5_spells 47 = .ok (.iload_n 2, 1) := by decide +kernel
theorem dX5_spells_48 : decode cX5_spells 48 = .ok (.invokevirtual 44, 3) := by decide +kernel
theorem dX5_spells_51 : decode cX5_spells 51 = .ok (.if_icmp .eq 5, 3) := by decide +kernel
theorem dX5_spells_54 : decode cX5_spells 54 = .ok (.iconst 0, 1) := by decide +kernel
theorem dX5_spells_55 : decode cX5_spells 55 = .ok (.ireturn, 1) := by decide +kernel
theorem dX5_spells_56 : decode cX5_spells 56 = .ok (.iinc 2 1, 3) := by decide +kernel
theorem dX5_spells_59 : decode cX5_spells 59 = .ok (.goto (-31), 3) := by decide +kernel
theorem dX5_spells_62 : decode cX5_spells 62 = .ok (.iconst 1, 1) := by decide +kernel
theorem dX5_spells_63 : decode cX5_spells 63 = .ok (.ireturn, 1) := by decide +kernel
