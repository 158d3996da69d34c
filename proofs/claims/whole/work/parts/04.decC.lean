theorem dX7_init_0 : decode cX7_init 0 = .ok (.aload_n 0, 1) := by decide +kernel
theorem dX7_init_1 : decode cX7_init 1 = .ok (.invokespecial 1, 3) := by decide +kernel
theorem dX7_init_4 : decode cX7_init 4 = .ok (.aload_n 0, 1) := by decide +kernel
theorem dX7_init_5 : decode cX7_init 5 = .ok (.new 7, 3) := by decide +kernel
theorem dX7_init_8 : decode cX7_init 8 = .ok (.dup, 1) := by decide +kernel
theorem dX7_init_9 : decode cX7_init 9 = .ok (.invokespecial 9, 3) := by decide +kernel
theorem dX7_init_12 : decode cX7_init 12 = .ok (.putfield 10, 3) := by decide +kernel
theorem dX7_init_15 : decode cX7_init 15 = .ok (.aload_n 0, 1) := by decide +kernel
theorem dX7_init_16 : decode cX7_init 16 = .ok (.new 16, 3) := by decide +kernel
theorem dX7_init_19 : decode cX7_init 19 = .ok (.dup, 1) := by decide +kernel
theorem dX7_init_20 : decode cX7_init 20 = .ok (.invokespecial 18, 3) := by decide +kernel
theorem dX7_init_23 : decode cX7_init 23 = .ok (.putfield 19, 3) := by decide +kernel
theorem dX7_init_26 : decode cX7_init 26 = .ok (.aload_n 0, 1) := by decide +kernel
theorem dX7_init_27 : decode cX7_init 27 = .ok (.new 23, 3) := by decide +kernel
theorem dX7_init_30 : decode cX7_init 30 = .ok (.dup, 1) := by decide +kernel
theorem dX7_init_31 : decode cX7_init 31 = .ok (.invokespecial 25, 3) := by decide +kernel
theorem dX7_init_34 : decode cX7_init 34 = .ok (.putfield 26, 3) := by decide +kernel
theorem dX7_init_37 : decode cX7_init 37 = .ok (.aload_n 0, 1) := by decide +kernel
theorem dX7_init_38 : decode cX7_init 38 = .ok (.new 23, 3) := by decide +kernel
theorem dX7_init_41 : decode cX7_init 41 = .ok (.dup, 1) := by decide +kernel
theorem dX7_init_42 : decode cX7_init 42 = .ok (.invokespecial 25, 3) := by decide +kernel
theorem dX7_init_45 : decode cX7_init 45 = .ok (.putfield 30, 3) := by decide +kernel
theorem dX7_init_48 : decode cX7_init 48 = .ok (.aload_n 0, 1) := by decide +kernel
theorem dX7_init_49 : decode cX7_init 49 = .ok (.new 33, 3) := by decide +kernel
theorem dX7_init_52 : decode cX7_init 52 = .ok (.dup, 1) := by decide +kernel
theorem dX7_init_53 : decode cX7_init 53 = .ok (.invokespecial 35, 3) := by decide +kernel
theorem dX7_init_56 : decode cX7_init 56 = .ok (.putfield 36, 3) := by decide +kernel
theorem dX7_init_59 : decode cX7_init 59 = .ok (.aload_n 0, 1) := by decide +kernel
theorem dX7_init_60 : decode cX7_init 60 = .ok (.iconst 2, 1) := by decide +kernel
theorem dX7_init_61 : decode cX7_init 61 = .ok (.anewarray 40, 3) := by decide +kernel
theorem dX7_init_64 : decode cX7_init 64 = .ok (.dup, 1) := by decide +kernel
theorem dX7_init_65 : decode cX7_init 65 = .ok (.iconst 0, 1) := by decide +kernel
theorem dX7_init_66 : decode cX7_init 66 = .ok (.new 40, 3) := by decide +kernel
theorem dX7_init_69 : decode cX7_init 69 = .ok (.dup, 1) := by decide +kernel
theorem dX7_init_70 : decode cX7_init 70 = .ok (.invokespecial 42, 3) := by decide +kernel
theorem dX7_init_73 : decode cX7_init 73 = .ok (.aastore, 1) := by decide +kernel
theorem dX7_init_74 : decode cX7_init 74 = .ok (.dup, 1) := by decide +kernel
theorem dX7_init_75 : decode cX7_init 75 = .ok (.iconst 1, 1) := by decide +kernel
theorem dX7_init_76 : decode cX7_init 76 = .ok (.new 40, 3) := by decide +kernel
theorem dX7_init_79 : decode cX7_init 79 = .ok (.dup, 1) := by decide +kernel
theorem dX7_init_80 : decode cX7_init 80 = .ok (.invokespecial 42, 3) := by decide +kernel
theorem dX7_init_83 : decode cX7_init 83 = .ok (.aastore, 1) := by decide +kernel
theorem dX7_init_84 : decode cX7_init 84 = .ok (.putfield 43, 3) := by decide +kernel
theorem dX7_init_87 : decode cX7_init 87 = .ok (.aload_n 0, 1) := by decide +kernel
theorem dX7_init_88 : decode cX7_init 88 = .ok (.iconst 4, 1) := by decide +kernel
theorem dX7_init_89 : decode cX7_init 89 = .ok (.anewarray 47, 3) := by decide +kernel
theorem dX7_init_92 : decode cX7_init 92 = .ok (.dup, 1) := by decide +kernel
theorem dX7_init_93 : decode cX7_init 93 = .ok (.iconst 0, 1) := by decide +kernel
theorem dX7_init_94 : decode cX7_init 94 = .ok (.new 47, 3) := by decide +kernel
theorem dX7_init_97 : decode cX7_init 97 = .ok (.dup, 1) := by decide +kernel
theorem dX7_init_98 : decode cX7_init 98 = .ok (.invokespecial 49, 3) := by decide +kernel
theorem dX7_init_101 : decode cX7_init 101 = .ok (.aastore, 1) := by decide +kernel
theorem dX7_init_102 : decode cX7_init 102 = .ok (.dup, 1) := by decide +kernel
theorem dX7_init_103 : decode cX7_init 103 = .ok (.iconst 1, 1) := by decide +kernel
theorem dX7_init_104 : decode cX7_init 104 = .ok (.new 47, 3) := by decide +kernel
theorem dX7_init_107 : decode cX7_init 107 = .ok (.dup, 1) := by decide +kernel
theorem dX7_init_108 : decode cX7_init 108 = .ok (.invokespecial 49, 3) := by decide +kernel
theorem dX7_init_111 : decode cX7_init 111 = .ok (.aastore, 1) := by decide +kernel
theorem dX7_init_112 : decode cX7_init 112 = .ok (.dup, 1) := by decide +kernel
theorem dX7_init_113 : decode cX7_init 113 = .ok (.iconst 2, 1) := by decide +kernel
theorem dX7_init_114 : decode cX7_init 114 = .ok (.new 47, 3) := by decide +kernel
theorem dX7_init_117 : decode cX7_init 117 = .ok (.dup, 1) := by decide +kernel
theorem dX7_init_118 : decode cX7_init 118 = .ok (.invokespecial 49, 3) := by decide +kernel
theorem dX7_init_121 : decode cX7_init 121 = .ok (.aastore, 1) := by decide +kernel
theorem dX7_init_122 : decode cX7_init 122 = .ok (.dup, 1) := by decide +kernel
theorem dX7_init_123 : decode cX7_init 123 = .ok (.iconst 3, 1) := by decide +kernel
theorem dX7_init_124 : decode cX7_init 124 = .ok (.new 47, 3) := by decide +kernel
theorem dX7_init_127 : decode cX7_init 127 = .ok (.dup, 1) := by decide +kernel
theorem dX7_init_128 : decode cX7_init 128 = .ok (.invokespecial 49, 3) := by decide +kernel
theorem dX7_init_131 : decode cX7_init 131 = .ok (.aastore, 1) := by decide +kernel
theorem dX7_init_132 : decode cX7_init 132 = .ok (.putfield 50, 3) := by decide +kernel
theorem dX7_init_135 : decode cX7_init 135 = .ok (.aload_n 0, 1) := by decide +kernel
theorem dX7_init_136 : decode cX7_init 136 = .ok (.bipush 8, 2) := by decide +kernel
theorem dX7_init_138 : decode cX7_init 138 = .ok (.newarray .int, 2) := by decide +kernel
theorem dX7_init_140 : decode cX7_init 140 = .ok (.putfield 54, 3) := by decide +kernel
theorem dX7_init_143 : decode cX7_init 143 = .ok (.aload_n 0, 1) := by decide +kernel
theorem dX7_init_144 : decode cX7_init 144 = .ok (.bipush 8, 2) := by decide +kernel
theorem dX7_init_146 : decode cX7_init 146 = .ok (.newarray .int, 2) := by decide +kernel
theorem dX7_init_148 : decode cX7_init 148 = .ok (.putfield 58, 3) := by decide +kernel
theorem dX7_init_151 : decode cX7_init 151 = .ok (.aload_n 0, 1) := by decide +kernel
theorem dX7_init_152 : decode cX7_init 152 = .ok (.bipush 7, 2) := by decide +kernel
theorem dX7_init_154 : decode cX7_init 154 = .ok (.newarray .int, 2) := by decide +kernel
theorem dX7_init_156 : decode cX7_init 156 = .ok (.putfield 61, 3) := by decide +kernel
theorem dX7_init_159 : decode cX7_init 159 = .ok (.aload_n 0, 1) := by decide +kernel
theorem dX7_init_160 : decode cX7_init 160 = .ok (.getfield 26, 3) := by decide +kernel
theorem dX7_init_163 : decode cX7_init 163 = .ok (.aload_n 0, 1) := by decide +kernel
theorem dX7_init_164 : decode cX7_init 164 = .ok (.getfield 10, 3) := by decide +kernel
theorem dX7_init_167 : decode cX7_init 167 = .ok (.invokevirtual 64, 3) := by decide +kernel
theorem dX7_init_170 : decode cX7_init 170 = .ok (.putfield 68, 3) := by decide +kernel
theorem dX7_init_173 : decode cX7_init 173 = .ok (.return_, 1) := by decide +kernel
theorem dX7_feed_0 : decode cX7_feed 0 = .ok (.aload_n 0, 1) := by decide +kernel
theorem dX7_feed_1 : decode cX7_feed 1 = .ok (.getfield 19, 3) := by decide +kernel
theorem dX7_feed_4 : decode cX7_feed 4 = .ok (.getfield 72, 3) := by decide +kernel
theorem dX7_feed_7 : decode cX7_feed 7 = .ok (.lload_n 1, 1) := by decide +kernel
theorem dX7_feed_8 : decode cX7_feed 8 = .ok (.invokevirtual 76, 3) := by decide +kernel
theorem dX7_feed_11 : decode cX7_feed 11 = .ok (.ifCond .eq 16, 3) := by decide +kernel
theorem dX7_feed_14 : decode cX7_feed 14 = .ok (.aload_n 0, 1) := by decide +kernel
theorem dX7_feed_15 : decode cX7_feed 15 = .ok (.getfield 19, 3) := by decide +kernel
theorem dX7_feed_18 : decode cX7_feed 18 = .ok (.getfield 72, 3) := by decide +kernel
theorem dX7_feed_21 : decode cX7_feed 21 = .ok (.getfield 82, 3) := by decide +kernel
theorem dX7_feed_24 : decode cX7_feed 24 = .ok (.goto 5, 3) := by decide +kernel
theorem dX7_feed_27 : decode cX7_feed 27 = .ok (.bipush (-3), 2) := by decide +kernel
theorem dX7_feed_29 : decode cX7_feed 29 = .ok (.ireturn, 1) := by decide +kernel
theorem dX7_end_0 : decode cX7_end 0 = .ok (.iload_n 1, 1) := by decide +kernel
theorem dX7_end_1 : decode cX7_end 1 = .ok (.iconst 0, 1) := by decide +kernel
theorem dX7_end_2 : decode cX7_end 2 = .ok (.aload_n 0, 1) := by decide +kernel
theorem dX7_end_3 : decode cX7_end 3 = .ok (.getfield 19, 3) := by decide +kernel
theorem dX7_end_6 : decode cX7_end 6 = .ok (.getfield 72, 3) := by decide +kernel
theorem dX7_end_9 : decode cX7_end 9 = .ok (.getfield 82, 3) := by decide +kernel
theorem dX7_end_12 : decode cX7_end 12 = .ok (.invokestatic 85, 3) := by decide +kernel
theorem dX7_end_15 : decode cX7_end 15 = .ok (.ifCond .eq 5, 3) := by decide +kernel
theorem dX7_end_18 : decode cX7_end 18 = .ok (.iconst (-1), 1) := by decide +kernel
theorem dX7_end_19 : decode cX7_end 19 = .ok (.ireturn, 1) := by decide +kernel
theorem dX7_end_20 : decode cX7_end 20 = .ok (.aload_n 0, 1) := by decide +kernel
theorem dX7_end_21 : decode cX7_end 21 = .ok (.getfield 19, 3) := by decide +kernel
theorem dX7_end_24 : decode cX7_end 24 = .ok (.getfield 72, 3) := by decide +kernel
theorem dX7_end_27 : decode cX7_end 27 = .ok (.getfield 82, 3) := by decide +kernel
theorem dX7_end_30 : decode cX7_end 30 = .ok (.istore_n 2, 1) := by decide +kernel
theorem dX7_end_31 : decode cX7_end 31 = .ok (.aload_n 0, 1) := by decide +kernel
theorem dX7_end_32 : decode cX7_end 32 = .ok (.getfield 19, 3) := by decide +kernel
theorem dX7_end_35 : decode cX7_end 35 = .ok (.getfield 72, 3) := by decide +kernel
theorem dX7_end_38 : decode cX7_end 38 = .ok (.iload_n 1, 1) := by decide +kernel
theorem dX7_end_39 : decode cX7_end 39 = .ok (.putfield 82, 3) := by decide +kernel
theorem dX7_end_42 : decode cX7_end 42 = .ok (.iload_n 2, 1) := by decide +kernel
theorem dX7_end_43 : decode cX7_end 43 = .ok (.ireturn, 1) := by decide +kernel
theorem dX7_dairy_0 : decode cX7_dairy 0 = .ok (.aload_n 0, 1) := by decide +kernel
theorem dX7_dairy_1 : decode cX7_dairy 1 = .ok (.getfield 19, 3) := by decide +kernel
theorem dX7_dairy_4 : decode cX7_dairy 4 = .ok (.invokevirtual 89, 3) := by decide +kernel
theorem dX7_dairy_7 : decode cX7_dairy 7 = .ok (.istore_n 1, 1) := by decide +kernel
theorem dX7_dairy_8 : decode cX7_dairy 8 = .ok (.aload_n 0, 1) := by decide +kernel
theorem dX7_dairy_9 : decode cX7_dairy 9 = .ok (.getfield 19, 3) := by decide +kernel
theorem dX7_dairy_12 : decode cX7_dairy 12 = .ok (.getfield 72, 3) := by decide +kernel
theorem dX7_dairy_15 : decode cX7_dairy 15 = .ok (.iconst 0, 1) := by decide +kernel
theorem dX7_dairy_16 : decode cX7_dairy 16 = .ok (.putfield 82, 3) := by decide +kernel
theorem dX7_dairy_19 : decode cX7_dairy 19 = .ok (.aload_n 0, 1) := by decide +kernel
theorem dX7_dairy_20 : decode cX7_dairy 20 = .ok (.getfield 19, 3) := by decide +kernel
theorem dX7_dairy_23 : decode cX7_dairy 23 = .ok (.getfield 92, 3) := by decide +kernel
theorem dX7_dairy_26 : decode cX7_dairy 26 = .ok (.ifCond .eq 14, 3) := by decide +kernel
theorem dX7_dairy_29 : decode cX7_dairy 29 = .ok (.bipush (-10), 2) := by decide +kernel
theorem dX7_dairy_31 : decode cX7_dairy 31 = .ok (.aload_n 0, 1) := by decide +kernel
theorem dX7_dairy_32 : decode cX7_dairy 32 = .ok (.getfield 19, 3) := by decide +kernel
theorem dX7_dairy_35 : decode cX7_dairy 35 = .ok (.getfield 95, 3) := by decide +kernel
theorem dX7_dairy_38 : decode cX7_dairy 38 = .ok (.isub, 1) := by decide +kernel
theorem dX7_dairy_39 : decode cX7_dairy 39 = .ok (.ireturn, 1) := by decide +kernel
theorem dX7_dairy_40 : decode cX7_dairy 40 = .ok (.aload_n 0, 1) := by decide +kernel
theorem dX7_dairy_41 : decode cX7_dairy 41 = .ok (.getfield 10, 3) := by decide +kernel
theorem dX7_dairy_44 : decode cX7_dairy 44 = .ok (.aload_n 0, 1) := by decide +kernel
theorem dX7_dairy_45 : decode cX7_dairy 45 = .ok (.getfield 19, 3) := by decide +kernel
theorem dX7_dairy_48 : decode cX7_dairy 48 = .ok (.getfield 98, 3) := by decide +kernel
theorem dX7_dairy_51 : decode cX7_dairy 51 = .ok (.invokevirtual 101, 3) := by decide +kernel
theorem dX7_dairy_54 : decode cX7_dairy 54 = .ok (.aload_n 0, 1) := by decide +kernel
theorem dX7_dairy_55 : decode cX7_dairy 55 = .ok (.getfield 26, 3) := by decide +kernel
theorem dX7_dairy_58 : decode cX7_dairy 58 = .ok (.aload_n 0, 1) := by decide +kernel
theorem dX7_dairy_59 : decode cX7_dairy 59 = .ok (.getfield 10, 3) := by decide +kernel
theorem dX7_dairy_62 : decode cX7_dairy 62 = .ok (.aload_n 0, 1) := by decide +kernel
theorem dX7_dairy_63 : decode cX7_dairy 63 = .ok (.getfield 10, 3) := by decide +kernel
theorem dX7_dairy_66 : decode cX7_dairy 66 = .ok (.invokevirtual 105, 3) := by decide +kernel
theorem dX7_dairy_69 : decode cX7_dairy 69 = .ok (.aload_n 0, 1) := by decide +kernel
theorem dX7_dairy_70 : decode cX7_dairy 70 = .ok (.getfield 10, 3) := by decide +kernel
theorem dX7_dairy_73 : decode cX7_dairy 73 = .ok (.invokevirtual 64, 3) := by decide +kernel
theorem dX7_dairy_76 : decode cX7_dairy 76 = .ok (.invokevirtual 108, 3) := by decide +kernel
theorem dX7_dairy_79 : decode cX7_dairy 79 = .ok (.aload_n 0, 1) := by decide +kernel
theorem dX7_dairy_80 : decode cX7_dairy 80 = .ok (.iconst 0, 1) := by decide +kernel
theorem dX7_dairy_81 : decode cX7_dairy 81 = .ok (.putfield 112, 3) := by decide +kernel
theorem dX7_dairy_84 : decode cX7_dairy 84 = .ok (.aload_n 0, 1) := by decide +kernel
theorem dX7_dairy_85 : decode cX7_dairy 85 = .ok (.getfield 43, 3) := by decide +kernel
theorem dX7_dairy_88 : decode cX7_dairy 88 = .ok (.astore_n 2, 1) := by decide +kernel
theorem dX7_dairy_89 : decode cX7_dairy 89 = .ok (.aload_n 2, 1) := by decide +kernel
theorem dX7_dairy_90 : decode cX7_dairy 90 = .ok (.arraylength, 1) := by decide +kernel
theorem dX7_dairy_91 : decode cX7_dairy 91 = .ok (.istore_n 3, 1) := by decide +kernel
theorem dX7_dairy_92 : decode cX7_dairy 92 = .ok (.iconst 0, 1) := by decide +kernel
theorem dX7_dairy_93 : decode cX7_dairy 93 = .ok (.istore 4, 2) := by decide +kernel
theorem dX7_dairy_95 : decode cX7_dairy 95 = .ok (.iload 4, 2) := by decide +kernel
theorem dX7_dairy_97 : decode cX7_dairy 97 = .ok (.iload_n 3, 1) := by decide +kernel
theorem dX7_dairy_98 : decode cX7_dairy 98 = .ok (.if_icmp .ge 21, 3) := by decide +kernel
theorem dX7_dairy_101 : decode cX7_dairy 101 = .ok (.aload_n 2, 1) := by decide +kernel
theorem dX7_dairy_102 : decode cX7_dairy 102 = .ok (.iload 4, 2) := by decide +kernel
theorem dX7_dairy_104 : decode cX7_dairy 104 = .ok (.aaload, 1) := by decide +kernel
theorem dX7_dairy_105 : decode cX7_dairy 105 = .ok (.astore 5, 2) := by decide +kernel
theorem dX7_dairy_107 : decode cX7_dairy 107 = .ok (.aload 5, 2) := by decide +kernel
theorem dX7_dairy_109 : decode cX7_dairy 109 = .ok (.iconst 0, 1) := by decide +kernel
theorem dX7_dairy_110 : decode cX7_dairy 110 = .ok (.putfield 115, 3) := by decide +kernel
theorem dX7_dairy_113 : decode cX7_dairy 113 = .ok (.iinc 4 1, 3) := by decide +kernel
theorem dX7_dairy_116 : decode cX7_dairy 116 = .ok (.goto (-21), 3) := by decide +kernel
theorem dX7_dairy_119 : decode cX7_dairy 119 = .ok (.iload_n 1, 1) := by decide +kernel
theorem dX7_dairy_120 : decode cX7_dairy 120 = .ok (.ireturn, 1) := by decide +kernel
theorem dX7_fault_0 : decode cX7_fault 0 = .ok (.aload_n 0, 1) := by decide +kernel
theorem dX7_fault_1 : decode cX7_fault 1 = .ok (.getfield 19, 3) := by decide +kernel
theorem dX7_fault_4 : decode cX7_fault 4 = .ok (.getfield 92, 3) := by decide +kernel
theorem dX7_fault_7 : decode cX7_fault 7 = .ok (.ireturn, 1) := by decide +kernel
theorem dX7_rule_0 : decode cX7_rule 0 = .ok (.iload_n 1, 1) := by decide +kernel
theorem dX7_rule_1 : decode cX7_rule 1 = .ok (.ifCond .lt 25, 3) := by decide +kernel
theorem dX7_rule_4 : decode cX7_rule 4 = .ok (.iload_n 1, 1) := by decide +kernel
theorem dX7_rule_5 : decode cX7_rule 5 = .ok (.aload_n 0, 1) := by decide +kernel
theorem dX7_rule_6 : decode cX7_rule 6 = .ok (.getfield 10, 3) := by decide +kernel
theorem dX7_rule_9 : decode cX7_rule 9 = .ok (.getfield 119, 3) := by decide +kernel
theorem dX7_rule_12 : decode cX7_rule 12 = .ok (.arraylength, 1) := by decide +kernel
theorem dX7_rule_13 : decode cX7_rule 13 = .ok (.if_icmp .ge 13, 3) := by decide +kernel
theorem dX7_rule_16 : decode cX7_rule 16 = .ok (.aload_n 0, 1) := by decide +kernel
theorem dX7_rule_17 : decode cX7_rule 17 = .ok (.getfield 10, 3) := by decide +kernel
theorem dX7_rule_20 : decode cX7_rule 20 = .ok (.getfield 119, 3) := by decide +kernel
theorem dX7_rule_23 : decode cX7_rule 23 = .ok (.iload_n 1, 1) := by decide +kernel
theorem dX7_rule_24 : decode cX7_rule 24 = .ok (.iaload, 1) := by decide +kernel
theorem dX7_rule_25 : decode cX7_rule 25 = .ok (.ireturn, 1) := by decide +kernel
theorem dX7_rule_26 : decode cX7_rule 26 = .ok (.iload_n 1, 1) := by decide +kernel
theorem dX7_rule_27 : decode cX7_rule 27 = .ok (.bipush 10, 2) := by decide +kernel
theorem dX7_rule_29 : decode cX7_rule 29 = .ok (.if_icmp .lt 31, 3) := by decide +kernel
theorem dX7_rule_32 : decode cX7_rule 32 = .ok (.iload_n 1, 1) := by decide +kernel
theorem dX7_rule_33 : decode cX7_rule 33 = .ok (.bipush 10, 2) := by decide +kernel
theorem dX7_rule_35 : decode cX7_rule 35 = .ok (.isub, 1) := by decide +kernel
theorem dX7_rule_36 : decode cX7_rule 36 = .ok (.aload_n 0, 1) := by decide +kernel
theorem dX7_rule_37 : decode cX7_rule 37 = .ok (.getfield 10, 3) := by decide +kernel
theorem dX7_rule_40 : decode cX7_rule 40 = .ok (.getfield 122, 3) := by decide +kernel
theorem dX7_rule_43 : decode cX7_rule 43 = .ok (.arraylength, 1) := by decide +kernel
theorem dX7_rule_44 : decode cX7_rule 44 = .ok (.if_icmp .ge 16, 3) := by decide +kernel
theorem dX7_rule_47 : decode cX7_rule 47 = .ok (.aload_n 0, 1) := by decide +kernel
theorem dX7_rule_48 : decode cX7_rule 48 = .ok (.getfield 10, 3) := by decide +kernel
theorem dX7_rule_51 : decode cX7_rule 51 = .ok (.getfield 122, 3) := by decide +kernel
theorem dX7_rule_54 : decode cX7_rule 54 = .ok (.iload_n 1, 1) := by decide +kernel
theorem dX7_rule_55 : decode cX7_rule 55 = .ok (.bipush 10, 2) := by decide +kernel
theorem dX7_rule_57 : decode cX7_rule 57 = .ok (.isub, 1) := by decide +kernel
theorem dX7_rule_58 : decode cX7_rule 58 = .ok (.iaload, 1) := by decide +kernel
theorem dX7_rule_59 : decode cX7_rule 59 = .ok (.ireturn, 1) := by decide +kernel
theorem dX7_rule_60 : decode cX7_rule 60 = .ok (.iconst (-1), 1) := by decide +kernel
theorem dX7_rule_61 : decode cX7_rule 61 = .ok (.ireturn, 1) := by decide +kernel
theorem dX7_cow_0 : decode cX7_cow 0 = .ok (.aload_n 0, 1) := by decide +kernel
theorem dX7_cow_1 : decode cX7_cow 1 = .ok (.getfield 10, 3) := by decide +kernel
theorem dX7_cow_4 : decode cX7_cow 4 = .ok (.iload_n 1, 1) := by decide +kernel
theorem dX7_cow_5 : decode cX7_cow 5 = .ok (.invokevirtual 125, 3) := by decide +kernel
theorem dX7_cow_8 : decode cX7_cow 8 = .ok (.ifCond .eq 12, 3) := by decide +kernel
theorem dX7_cow_11 : decode cX7_cow 11 = .ok (.iload_n 2, 1) := by decide +kernel
theorem dX7_cow_12 : decode cX7_cow 12 = .ok (.iconst 0, 1) := by decide +kernel
theorem dX7_cow_13 : decode cX7_cow 13 = .ok (.iconst 1, 1) := by decide +kernel
theorem dX7_cow_14 : decode cX7_cow 14 = .ok (.invokestatic 85, 3) := by decide +kernel
theorem dX7_cow_17 : decode cX7_cow 17 = .ok (.ifCond .eq 5, 3) := by decide +kernel
theorem dX7_cow_20 : decode cX7_cow 20 = .ok (.iconst (-1), 1) := by decide +kernel
theorem dX7_cow_21 : decode cX7_cow 21 = .ok (.ireturn, 1) := by decide +kernel
theorem dX7_cow_22 : decode cX7_cow 22 = .ok (.iload_n 2, 1) := by decide +kernel
theorem dX7_cow_23 : decode cX7_cow 23 = .ok (.ifCond .ne 15, 3) := by decide +kernel
theorem dX7_cow_26 : decode cX7_cow 26 = .ok (.aload_n 0, 1) := by decide +kernel
theorem dX7_cow_27 : decode cX7_cow 27 = .ok (.getfield 10, 3) := by decide +kernel
theorem dX7_cow_30 : decode cX7_cow 30 = .ok (.getfield 129, 3) := by decide +kernel
theorem dX7_cow_33 : decode cX7_cow 33 = .ok (.iload_n 1, 1) := by decide +kernel
theorem dX7_cow_34 : decode cX7_cow 34 = .ok (.iaload, 1) := by decide +kernel
theorem dX7_cow_35 : decode cX7_cow 35 = .ok (.goto 12, 3) := by decide +kernel
theorem dX7_cow_38 : decode cX7_cow 38 = .ok (.aload_n 0, 1) := by decide +kernel
theorem dX7_cow_39 : decode cX7_cow 39 = .ok (.getfield 10, 3) := by decide +kernel
theorem dX7_cow_42 : decode cX7_cow 42 = .ok (.getfield 132, 3) := by decide +kernel
theorem dX7_cow_45 : decode cX7_cow 45 = .ok (.iload_n 1, 1) := by decide +kernel
theorem dX7_cow_46 : decode cX7_cow 46 = .ok (.iaload, 1) := by decide +kernel
theorem dX7_cow_47 : decode cX7_cow 47 = .ok (.ireturn, 1) := by decide +kernel
theorem dX7_feeds_0 : decode cX7_feeds 0 = .ok (.aload_n 0, 1) := by decide +kernel
theorem dX7_feeds_1 : decode cX7_feeds 1 = .ok (.getfield 10, 3) := by decide +kernel
theorem dX7_feeds_4 : decode cX7_feeds 4 = .ok (.iload_n 1, 1) := by decide +kernel
theorem dX7_feeds_5 : decode cX7_feeds 5 = .ok (.invokevirtual 125, 3) := by decide +kernel
theorem dX7_feeds_8 : decode cX7_feeds 8 = .ok (.ifCond .eq 13, 3) := by decide +kernel
theorem dX7_feeds_11 : decode cX7_feeds 11 = .ok (.iload_n 2, 1) := by decide +kernel
theorem dX7_feeds_12 : decode cX7_feeds 12 = .ok (.iconst 0, 1) := by decide +kernel
theorem dX7_feeds_13 : decode cX7_feeds 13 = .ok (.bipush 100, 2) := by decide +kernel
theorem dX7_feeds_15 : decode cX7_feeds 15 = .ok (.invokestatic 85, 3) := by decide +kernel
theorem dX7_feeds_18 : decode cX7_feeds 18 = .ok (.ifCond .eq 5, 3) := by decide +kernel
theorem dX7_feeds_21 : decode cX7_feeds 21 = .ok (.iconst (-1), 1) := by decide +kernel
theorem dX7_feeds_22 : decode cX7_feeds 22 = .ok (.ireturn, 1) := by decide +kernel
theorem dX7_feeds_23 : decode cX7_feeds 23 = .ok (.aload_n 0, 1) := by decide +kernel
theorem dX7_feeds_24 : decode cX7_feeds 24 = .ok (.getfield 10, 3) := by decide +kernel
theorem dX7_feeds_27 : decode cX7_feeds 27 = .ok (.getfield 132, 3) := by decide +kernel
theorem dX7_feeds_30 : decode cX7_feeds 30 = .ok (.iload_n 1, 1) := by decide +kernel
theorem dX7_feeds_31 : decode cX7_feeds 31 = .ok (.iaload, 1) := by decide +kernel
theorem dX7_feeds_32 : decode cX7_feeds 32 = .ok (.istore_n 3, 1) := by decide +kernel
theorem dX7_feeds_33 : decode cX7_feeds 33 = .ok (.aload_n 0, 1) := by decide +kernel
theorem dX7_feeds_34 : decode cX7_feeds 34 = .ok (.getfield 10, 3) := by decide +kernel
theorem dX7_feeds_37 : decode cX7_feeds 37 = .ok (.getfield 132, 3) := by decide +kernel
theorem dX7_feeds_40 : decode cX7_feeds 40 = .ok (.iload_n 1, 1) := by decide +kernel
theorem dX7_feeds_41 : decode cX7_feeds 41 = .ok (.iload_n 2, 1) := by decide +kernel
theorem dX7_feeds_42 : decode cX7_feeds 42 = .ok (.iastore, 1) := by decide +kernel
theorem dX7_feeds_43 : decode cX7_feeds 43 = .ok (.iload_n 3, 1) := by decide +kernel
theorem dX7_feeds_44 : decode cX7_feeds 44 = .ok (.ireturn, 1) := by decide +kernel
theorem dX7_fill_0 : decode cX7_fill 0 = .ok (.aload_n 0, 1) := by decide +kernel
theorem dX7_fill_1 : decode cX7_fill 1 = .ok (.getfield 10, 3) := by decide +kernel
theorem dX7_fill_4 : decode cX7_fill 4 = .ok (.iload_n 1, 1) := by decide +kernel
theorem dX7_fill_5 : decode cX7_fill 5 = .ok (.invokevirtual 135, 3) := by decide +kernel
theorem dX7_fill_8 : decode cX7_fill 8 = .ok (.ifCond .eq 14, 3) := by decide +kernel
theorem dX7_fill_11 : decode cX7_fill 11 = .ok (.iload_n 2, 1) := by decide +kernel
theorem dX7_fill_12 : decode cX7_fill 12 = .ok (.iconst 0, 1) := by decide +kernel
theorem dX7_fill_13 : decode cX7_fill 13 = .ok (.sipush 400, 3) := by decide +kernel
theorem dX7_fill_16 : decode cX7_fill 16 = .ok (.invokestatic 85, 3) := by decide +kernel
theorem dX7_fill_19 : decode cX7_fill 19 = .ok (.ifCond .eq 5, 3) := by decide +kernel
theorem dX7_fill_22 : decode cX7_fill 22 = .ok (.iconst (-1), 1) := by decide +kernel
theorem dX7_fill_23 : decode cX7_fill 23 = .ok (.ireturn, 1) := by decide +kernel
theorem dX7_fill_24 : decode cX7_fill 24 = .ok (.aload_n 0, 1) := by decide +kernel
theorem dX7_fill_25 : decode cX7_fill 25 = .ok (.getfield 26, 3) := by decide +kernel
theorem dX7_fill_28 : decode cX7_fill 28 = .ok (.aload_n 0, 1) := by decide +kernel
theorem dX7_fill_29 : decode cX7_fill 29 = .ok (.getfield 10, 3) := by decide +kernel
theorem dX7_fill_32 : decode cX7_fill 32 = .ok (.iload_n 1, 1) := by decide +kernel
theorem dX7_fill_33 : decode cX7_fill 33 = .ok (.iload_n 2, 1) := by decide +kernel
theorem dX7_fill_34 : decode cX7_fill 34 = .ok (.invokevirtual 108, 3) := by decide +kernel
theorem dX7_fill_37 : decode cX7_fill 37 = .ok (.aload_n 0, 1) := by decide +kernel
theorem dX7_fill_38 : decode cX7_fill 38 = .ok (.getfield 26, 3) := by decide +kernel
theorem dX7_fill_41 : decode cX7_fill 41 = .ok (.getfield 138, 3) := by decide +kernel
theorem dX7_fill_44 : decode cX7_fill 44 = .ok (.ireturn, 1) := by decide +kernel
theorem dX7_turn_0 : decode cX7_turn 0 = .ok (.iload_n 1, 1) := by decide +kernel
theorem dX7_turn_1 : decode cX7_turn 1 = .ok (.iload_n 2, 1) := by decide +kernel
theorem dX7_turn_2 : decode cX7_turn 2 = .ok (.invokestatic 140, 3) := by decide +kernel
theorem dX7_turn_5 : decode cX7_turn 5 = .ok (.ifCond .eq 5, 3) := by decide +kernel
theorem dX7_turn_8 : decode cX7_turn 8 = .ok (.iconst (-1), 1) := by decide +kernel
theorem dX7_turn_9 : decode cX7_turn 9 = .ok (.ireturn, 1) := by decide +kernel
theorem dX7_turn_10 : decode cX7_turn 10 = .ok (.aload_n 0, 1) := by decide +kernel
theorem dX7_turn_11 : decode cX7_turn 11 = .ok (.iload_n 1, 1) := by decide +kernel
theorem dX7_turn_12 : decode cX7_turn 12 = .ok (.iload_n 2, 1) := by decide +kernel
theorem dX7_turn_13 : decode cX7_turn 13 = .ok (.invokevirtual 144, 3) := by decide +kernel
theorem dX7_turn_16 : decode cX7_turn 16 = .ok (.ireturn, 1) := by decide +kernel
theorem dX7_warm_0 : decode cX7_warm 0 = .ok (.iload_n 1, 1) := by decide +kernel
theorem dX7_warm_1 : decode cX7_warm 1 = .ok (.iconst 0, 1) := by decide +kernel
theorem dX7_warm_2 : decode cX7_warm 2 = .ok (.sipush 400, 3) := by decide +kernel
theorem dX7_warm_5 : decode cX7_warm 5 = .ok (.invokestatic 85, 3) := by decide +kernel
theorem dX7_warm_8 : decode cX7_warm 8 = .ok (.ifCond .eq 5, 3) := by decide +kernel
theorem dX7_warm_11 : decode cX7_warm 11 = .ok (.iconst (-1), 1) := by decide +kernel
theorem dX7_warm_12 : decode cX7_warm 12 = .ok (.ireturn, 1) := by decide +kernel
theorem dX7_warm_13 : decode cX7_warm 13 = .ok (.aload_n 0, 1) := by decide +kernel
theorem dX7_warm_14 : decode cX7_warm 14 = .ok (.getfield 26, 3) := by decide +kernel
theorem dX7_warm_17 : decode cX7_warm 17 = .ok (.getfield 68, 3) := by decide +kernel
theorem dX7_warm_20 : decode cX7_warm 20 = .ok (.istore_n 2, 1) := by decide +kernel
theorem dX7_warm_21 : decode cX7_warm 21 = .ok (.aload_n 0, 1) := by decide +kernel
theorem dX7_warm_22 : decode cX7_warm 22 = .ok (.getfield 26, 3) := by decide +kernel
theorem dX7_warm_25 : decode cX7_warm 25 = .ok (.iload_n 1, 1) := by decide +kernel
theorem dX7_warm_26 : decode cX7_warm 26 = .ok (.putfield 68, 3) := by decide +kernel
theorem dX7_warm_29 : decode cX7_warm 29 = .ok (.iload_n 2, 1) := by decide +kernel
theorem dX7_warm_30 : decode cX7_warm 30 = .ok (.ireturn, 1) := by decide +kernel
theorem dX7_half_0 : decode cX7_half 0 = .ok (.aload_n 0, 1) := by decide +kernel
theorem dX7_half_1 : decode cX7_half 1 = .ok (.getfield 26, 3) := by decide +kernel
theorem dX7_half_4 : decode cX7_half 4 = .ok (.invokevirtual 148, 3) := by decide +kernel
theorem dX7_half_7 : decode cX7_half 7 = .ok (.aload_n 0, 1) := by decide +kernel
theorem dX7_half_8 : decode cX7_half 8 = .ok (.getfield 26, 3) := by decide +kernel
theorem dX7_half_11 : decode cX7_half 11 = .ok (.getfield 138, 3) := by decide +kernel
theorem dX7_half_14 : decode cX7_half 14 = .ok (.ireturn, 1) := by decide +kernel
theorem dX7_now_0 : decode cX7_now 0 = .ok (.iload_n 1, 1) := by decide +kernel
theorem dX7_now_1 : decode cX7_now 1 = .ok (.iconst 0, 1) := by decide +kernel
theorem dX7_now_2 : decode cX7_now 2 = .ok (.bipush 9, 2) := by decide +kernel
theorem dX7_now_4 : decode cX7_now 4 = .ok (.invokestatic 85, 3) := by decide +kernel
theorem dX7_now_7 : decode cX7_now 7 = .ok (.ifCond .eq 7, 3) := by decide +kernel
theorem dX7_now_10 : decode cX7_now 10 = .ok (.iconst (-1), 1) := by decide +kernel
theorem dX7_now_11 : decode cX7_now 11 = .ok (.goto 15, 3) := by decide +kernel
theorem dX7_now_14 : decode cX7_now 14 = .ok (.aload_n 0, 1) := by decide +kernel
theorem dX7_now_15 : decode cX7_now 15 = .ok (.getfield 26, 3) := by decide +kernel
theorem dX7_now_18 : decode cX7_now 18 = .ok (.aload_n 0, 1) := by decide +kernel
theorem dX7_now_19 : decode cX7_now 19 = .ok (.getfield 10, 3) := by decide +kernel
theorem dX7_now_22 : decode cX7_now 22 = .ok (.iload_n 1, 1) := by decide +kernel
theorem dX7_now_23 : decode cX7_now 23 = .ok (.invokevirtual 151, 3) := by decide +kernel
theorem dX7_now_26 : decode cX7_now 26 = .ok (.ireturn, 1) := by decide +kernel
theorem dX7_drops_0 : decode cX7_drops 0 = .ok (.aload_n 0, 1) := by decide +kernel
theorem dX7_drops_1 : decode cX7_drops 1 = .ok (.getfield 26, 3) := by decide +kernel
theorem dX7_drops_4 : decode cX7_drops 4 = .ok (.iload_n 1, 1) := by decide +kernel
theorem dX7_drops_5 : decode cX7_drops 5 = .ok (.invokevirtual 155, 3) := by decide +kernel
theorem dX7_drops_8 : decode cX7_drops 8 = .ok (.ireturn, 1) := by decide +kernel
theorem dX7_run_0 : decode cX7_run 0 = .ok (.aload_n 0, 1) := by decide +kernel
theorem dX7_run_1 : decode cX7_run 1 = .ok (.iload_n 1, 1) := by decide +kernel
theorem dX7_run_2 : decode cX7_run 2 = .ok (.iload_n 2, 1) := by decide +kernel
theorem dX7_run_3 : decode cX7_run 3 = .ok (.iload_n 3, 1) := by decide +kernel
theorem dX7_run_4 : decode cX7_run 4 = .ok (.invokevirtual 159, 3) := by decide +kernel
theorem dX7_run_7 : decode cX7_run 7 = .ok (.ifCond .ne 26, 3) := by decide +kernel
theorem dX7_run_10 : decode cX7_run 10 = .ok (.iload 4, 2) := by decide +kernel
theorem dX7_run_12 : decode cX7_run 12 = .ok (.iconst 0, 1) := by decide +kernel
theorem dX7_run_13 : decode cX7_run 13 = .ok (.sipush 400, 3) := by decide +kernel
theorem dX7_run_16 : decode cX7_run 16 = .ok (.invokestatic 85, 3) := by decide +kernel
theorem dX7_run_19 : decode cX7_run 19 = .ok (.ifCond .ne 14, 3) := by decide +kernel
theorem dX7_run_22 : decode cX7_run 22 = .ok (.iload 5, 2) := by decide +kernel
theorem dX7_run_24 : decode cX7_run 24 = .ok (.iconst 0, 1) := by decide +kernel
theorem dX7_run_25 : decode cX7_run 25 = .ok (.bipush 16, 2) := by decide +kernel
theorem dX7_run_27 : decode cX7_run 27 = .ok (.invokestatic 85, 3) := by decide +kernel
theorem dX7_run_30 : decode cX7_run 30 = .ok (.ifCond .eq 5, 3) := by decide +kernel
theorem dX7_run_33 : decode cX7_run 33 = .ok (.iconst (-1), 1) := by decide +kernel
theorem dX7_run_34 : decode cX7_run 34 = .ok (.ireturn, 1) := by decide +kernel
theorem dX7_run_35 : decode cX7_run 35 = .ok (.aload_n 0, 1) := by decide +kernel
theorem dX7_run_36 : decode cX7_run 36 = .ok (.getfield 30, 3) := by decide +kernel
theorem dX7_run_39 : decode cX7_run 39 = .ok (.aload_n 0, 1) := by decide +kernel
theorem dX7_run_40 : decode cX7_run 40 = .ok (.getfield 10, 3) := by decide +kernel
theorem dX7_run_43 : decode cX7_run 43 = .ok (.iload_n 1, 1) := by decide +kernel
theorem dX7_run_44 : decode cX7_run 44 = .ok (.iload_n 2, 1) := by decide +kernel
theorem dX7_run_45 : decode cX7_run 45 = .ok (.invokevirtual 108, 3) := by decide +kernel
theorem dX7_run_48 : decode cX7_run 48 = .ok (.iconst 0, 1) := by decide +kernel
theorem dX7_run_49 : decode cX7_run 49 = .ok (.istore 6, 2) := by decide +kernel
theorem dX7_run_51 : decode cX7_run 51 = .ok (.iload 6, 2) := by decide +kernel
theorem dX7_run_53 : decode cX7_run 53 = .ok (.iload 4, 2) := by decide +kernel
theorem dX7_run_55 : decode cX7_run 55 = .ok (.if_icmp .ge 22, 3) := by decide +kernel
theorem dX7_run_58 : decode cX7_run 58 = .ok (.aload_n 0, 1) := by decide +kernel
theorem dX7_run_59 : decode cX7_run 59 = .ok (.getfield 30, 3) := by decide +kernel
theorem dX7_run_62 : decode cX7_run 62 = .ok (.aload_n 0, 1) := by decide +kernel
theorem dX7_run_63 : decode cX7_run 63 = .ok (.getfield 10, 3) := by decide +kernel
theorem dX7_run_66 : decode cX7_run 66 = .ok (.iload_n 3, 1) := by decide +kernel
theorem dX7_run_67 : decode cX7_run 67 = .ok (.invokevirtual 162, 3) := by decide +kernel
theorem dX7_run_70 : decode cX7_run 70 = .ok (.pop, 1) := by decide +kernel
theorem dX7_run_71 : decode cX7_run 71 = .ok (.iinc 6 1, 3) := by decide +kernel
theorem dX7_run_74 : decode cX7_run 74 = .ok (.goto (-23), 3) := by decide +kernel
theorem dX7_run_77 : decode cX7_run 77 = .ok (.iload 5, 2) := by decide +kernel
theorem dX7_run_79 : decode cX7_run 79 = .ok (.bipush 10, 2) := by decide +kernel
theorem dX7_run_81 : decode cX7_run 81 = .ok (.if_icmp .ge 19, 3) := by decide +kernel
theorem dX7_run_84 : decode cX7_run 84 = .ok (.aload_n 0, 1) := by decide +kernel
theorem dX7_run_85 : decode cX7_run 85 = .ok (.getfield 30, 3) := by decide +kernel
theorem dX7_run_88 : decode cX7_run 88 = .ok (.aload_n 0, 1) := by decide +kernel
theorem dX7_run_89 : decode cX7_run 89 = .ok (.getfield 10, 3) := by decide +kernel
theorem dX7_run_92 : decode cX7_run 92 = .ok (.iload 5, 2) := by decide +kernel
theorem dX7_run_94 : decode cX7_run 94 = .ok (.invokevirtual 151, 3) := by decide +kernel
theorem dX7_run_97 : decode cX7_run 97 = .ok (.goto 15, 3) := by decide +kernel
theorem dX7_run_100 : decode cX7_run 100 = .ok (.aload_n 0, 1) := by decide +kernel
theorem dX7_run_101 : decode cX7_run 101 = .ok (.getfield 30, 3) := by decide +kernel
theorem dX7_run_104 : decode cX7_run 104 = .ok (.iload 5, 2) := by decide +kernel
theorem dX7_run_106 : decode cX7_run 106 = .ok (.bipush 10, 2) := by decide +kernel
theorem dX7_run_108 : decode cX7_run 108 = .ok (.isub, 1) := by decide +kernel
theorem dX7_run_109 : decode cX7_run 109 = .ok (.invokevirtual 155, 3) := by decide +kernel
theorem dX7_run_112 : decode cX7_run 112 = .ok (.ireturn, 1) := by decide +kernel
theorem dX7_comes_0 : decode cX7_comes 0 = .ok (.aload_n 0, 1) := by decide +kernel
theorem dX7_comes_1 : decode cX7_comes 1 = .ok (.iload_n 1, 1) := by decide +kernel
theorem dX7_comes_2 : decode cX7_comes 2 = .ok (.iload_n 2, 1) := by decide +kernel
theorem dX7_comes_3 : decode cX7_comes 3 = .ok (.iload_n 3, 1) := by decide +kernel
theorem dX7_comes_4 : decode cX7_comes 4 = .ok (.invokevirtual 159, 3) := by decide +kernel
theorem dX7_comes_7 : decode cX7_comes 7 = .ok (.ifCond .eq 5, 3) := by decide +kernel
theorem dX7_comes_10 : decode cX7_comes 10 = .ok (.iconst (-1), 1) := by decide +kernel
theorem dX7_comes_11 : decode cX7_comes 11 = .ok (.ireturn, 1) := by decide +kernel
theorem dX7_comes_12 : decode cX7_comes 12 = .ok (.aload_n 0, 1) := by decide +kernel
theorem dX7_comes_13 : decode cX7_comes 13 = .ok (.getfield 30, 3) := by decide +kernel
theorem dX7_comes_16 : decode cX7_comes 16 = .ok (.aload_n 0, 1) := by decide +kernel
theorem dX7_comes_17 : decode cX7_comes 17 = .ok (.getfield 10, 3) := by decide +kernel
theorem dX7_comes_20 : decode cX7_comes 20 = .ok (.iload_n 1, 1) := by decide +kernel
theorem dX7_comes_21 : decode cX7_comes 21 = .ok (.iload_n 2, 1) := by decide +kernel
theorem dX7_comes_22 : decode cX7_comes 22 = .ok (.invokevirtual 108, 3) := by decide +kernel
theorem dX7_comes_25 : decode cX7_comes 25 = .ok (.aload_n 0, 1) := by decide +kernel
theorem dX7_comes_26 : decode cX7_comes 26 = .ok (.iload_n 3, 1) := by decide +kernel
theorem dX7_comes_27 : decode cX7_comes 27 = .ok (.sipush 400, 3) := by decide +kernel
theorem dX7_comes_30 : decode cX7_comes 30 = .ok (.invokevirtual 166, 3) := by decide +kernel
theorem dX7_comes_33 : decode cX7_comes 33 = .ok (.ireturn, 1) := by decide +kernel
theorem dX7_plan_0 : decode cX7_plan 0 = .ok (.aload_n 0, 1) := by decide +kernel
theorem dX7_plan_1 : decode cX7_plan 1 = .ok (.getfield 10, 3) := by decide +kernel
theorem dX7_plan_4 : decode cX7_plan 4 = .ok (.iload_n 1, 1) := by decide +kernel
theorem dX7_plan_5 : decode cX7_plan 5 = .ok (.invokevirtual 135, 3) := by decide +kernel
theorem dX7_plan_8 : decode cX7_plan 8 = .ok (.ifCond .eq 12, 3) := by decide +kernel
theorem dX7_plan_11 : decode cX7_plan 11 = .ok (.iload_n 2, 1) := by decide +kernel
theorem dX7_plan_12 : decode cX7_plan 12 = .ok (.iconst 0, 1) := by decide +kernel
theorem dX7_plan_13 : decode cX7_plan 13 = .ok (.iconst 3, 1) := by decide +kernel
theorem dX7_plan_14 : decode cX7_plan 14 = .ok (.invokestatic 85, 3) := by decide +kernel
theorem dX7_plan_17 : decode cX7_plan 17 = .ok (.ifCond .eq 5, 3) := by decide +kernel
theorem dX7_plan_20 : decode cX7_plan 20 = .ok (.iconst (-1), 1) := by decide +kernel
theorem dX7_plan_21 : decode cX7_plan 21 = .ok (.ireturn, 1) := by decide +kernel
theorem dX7_plan_22 : decode cX7_plan 22 = .ok (.aload_n 0, 1) := by decide +kernel
theorem dX7_plan_23 : decode cX7_plan 23 = .ok (.iload_n 1, 1) := by decide +kernel
theorem dX7_plan_24 : decode cX7_plan 24 = .ok (.invokevirtual 169, 3) := by decide +kernel
theorem dX7_plan_27 : decode cX7_plan 27 = .ok (.aload_n 0, 1) := by decide +kernel
theorem dX7_plan_28 : decode cX7_plan 28 = .ok (.getfield 36, 3) := by decide +kernel
theorem dX7_plan_31 : decode cX7_plan 31 = .ok (.getfield 173, 3) := by decide +kernel
theorem dX7_plan_34 : decode cX7_plan 34 = .ok (.ifCond .eq 14, 3) := by decide +kernel
theorem dX7_plan_37 : decode cX7_plan 37 = .ok (.aload_n 0, 1) := by decide +kernel
theorem dX7_plan_38 : decode cX7_plan 38 = .ok (.getfield 36, 3) := by decide +kernel
theorem dX7_plan_41 : decode cX7_plan 41 = .ok (.iload_n 2, 1) := by decide +kernel
theorem dX7_plan_42 : decode cX7_plan 42 = .ok (.invokevirtual 174, 3) := by decide +kernel
theorem dX7_plan_45 : decode cX7_plan 45 = .ok (.goto 5, 3) := by decide +kernel
theorem dX7_plan_48 : decode cX7_plan 48 = .ok (.bipush (-4), 2) := by decide +kernel
theorem dX7_plan_50 : decode cX7_plan 50 = .ok (.ireturn, 1) := by decide +kernel
theorem dX7_without_0 : decode cX7_without 0 = .ok (.iload_n 1, 1) := by decide +kernel
theorem dX7_without_1 : decode cX7_without 1 = .ok (.iconst 0, 1) := by decide +kernel
theorem dX7_without_2 : decode cX7_without 2 = .ok (.iconst 1, 1) := by decide +kernel
theorem dX7_without_3 : decode cX7_without 3 = .ok (.invokestatic 85, 3) := by decide +kernel
theorem dX7_without_6 : decode cX7_without 6 = .ok (.ifCond .eq 5, 3) := by decide +kernel
theorem dX7_without_9 : decode cX7_without 9 = .ok (.iconst (-1), 1) := by decide +kernel
theorem dX7_without_10 : decode cX7_without 10 = .ok (.ireturn, 1) := by decide +kernel
theorem dX7_without_11 : decode cX7_without 11 = .ok (.aload_n 0, 1) := by decide +kernel
theorem dX7_without_12 : decode cX7_without 12 = .ok (.getfield 10, 3) := by decide +kernel
theorem dX7_without_15 : decode cX7_without 15 = .ok (.invokevirtual 105, 3) := by decide +kernel
theorem dX7_without_18 : decode cX7_without 18 = .ok (.istore_n 2, 1) := by decide +kernel
theorem dX7_without_19 : decode cX7_without 19 = .ok (.bipush (-4), 2) := by decide +kernel
theorem dX7_without_21 : decode cX7_without 21 = .ok (.istore_n 3, 1) := by decide +kernel
theorem dX7_without_22 : decode cX7_without 22 = .ok (.iconst 0, 1) := by decide +kernel
theorem dX7_without_23 : decode cX7_without 23 = .ok (.istore 4, 2) := by decide +kernel
theorem dX7_without_25 : decode cX7_without 25 = .ok (.iload 4, 2) := by decide +kernel
theorem dX7_without_27 : decode cX7_without 27 = .ok (.iload_n 2, 1) := by decide +kernel
theorem dX7_without_28 : decode cX7_without 28 = .ok (.if_icmp .ge 65, 3) := by decide +kernel
theorem dX7_without_31 : decode cX7_without 31 = .ok (.iload_n 3, 1) := by decide +kernel
theorem dX7_without_32 : decode cX7_without 32 = .ok (.bipush (-4), 2) := by decide +kernel
theorem dX7_without_34 : decode cX7_without 34 = .ok (.if_icmp .eq 15, 3) := by decide +kernel
theorem dX7_without_37 : decode cX7_without 37 = .ok (.iload 4, 2) := by decide +kernel
theorem dX7_without_39 : decode cX7_without 39 = .ok (.invokestatic 176, 3) := by decide +kernel
theorem dX7_without_42 : decode cX7_without 42 = .ok (.iload_n 3, 1) := by decide +kernel
theorem dX7_without_43 : decode cX7_without 43 = .ok (.invokestatic 176, 3) := by decide +kernel
theorem dX7_without_46 : decode cX7_without 46 = .ok (.if_icmp .ge 7, 3) := by decide +kernel
theorem dX7_without_49 : decode cX7_without 49 = .ok (.iconst 1, 1) := by decide +kernel
theorem dX7_without_50 : decode cX7_without 50 = .ok (.goto 4, 3) := by decide +kernel
theorem dX7_without_53 : decode cX7_without 53 = .ok (.iconst 0, 1) := by decide +kernel
theorem dX7_without_54 : decode cX7_without 54 = .ok (.istore 5, 2) := by decide +kernel
theorem dX7_without_56 : decode cX7_without 56 = .ok (.iload 5, 2) := by decide +kernel
theorem dX7_without_58 : decode cX7_without 58 = .ok (.ifCond .eq 29, 3) := by decide +kernel
theorem dX7_without_61 : decode cX7_without 61 = .ok (.aload_n 0, 1) := by decide +kernel
theorem dX7_without_62 : decode cX7_without 62 = .ok (.getfield 10, 3) := by decide +kernel
theorem dX7_without_65 : decode cX7_without 65 = .ok (.aload_n 0, 1) := by decide +kernel
theorem dX7_without_66 : decode cX7_without 66 = .ok (.getfield 10, 3) := by decide +kernel
theorem dX7_without_69 : decode cX7_without 69 = .ok (.iload_n 2, 1) := by decide +kernel
theorem dX7_without_70 : decode cX7_without 70 = .ok (.iload 4, 2) := by decide +kernel
theorem dX7_without_72 : decode cX7_without 72 = .ok (.iconst (-1), 1) := by decide +kernel
theorem dX7_without_73 : decode cX7_without 73 = .ok (.ixor, 1) := by decide +kernel
theorem dX7_without_74 : decode cX7_without 74 = .ok (.iand, 1) := by decide +kernel
theorem dX7_without_75 : decode cX7_without 75 = .ok (.invokevirtual 181, 3) := by decide +kernel
theorem dX7_without_78 : decode cX7_without 78 = .ok (.invokevirtual 184, 3) := by decide +kernel
theorem dX7_without_81 : decode cX7_without 81 = .ok (.ifCond .eq 6, 3) := by decide +kernel
theorem dX7_without_84 : decode cX7_without 84 = .ok (.iload 4, 2) := by decide +kernel
theorem dX7_without_86 : decode cX7_without 86 = .ok (.istore_n 3, 1) := by decide +kernel
theorem dX7_without_87 : decode cX7_without 87 = .ok (.iinc 4 1, 3) := by decide +kernel
theorem dX7_without_90 : decode cX7_without 90 = .ok (.goto (-65), 3) := by decide +kernel
theorem dX7_without_93 : decode cX7_without 93 = .ok (.iload_n 3, 1) := by decide +kernel
theorem dX7_without_94 : decode cX7_without 94 = .ok (.bipush (-4), 2) := by decide +kernel
theorem dX7_without_96 : decode cX7_without 96 = .ok (.if_icmp .eq 8, 3) := by decide +kernel
theorem dX7_without_99 : decode cX7_without 99 = .ok (.iload_n 1, 1) := by decide +kernel
theorem dX7_without_100 : decode cX7_without 100 = .ok (.iconst 1, 1) := by decide +kernel
theorem dX7_without_101 : decode cX7_without 101 = .ok (.if_icmp .ne 7, 3) := by decide +kernel
theorem dX7_without_104 : decode cX7_without 104 = .ok (.iload_n 3, 1) := by decide +kernel
theorem dX7_without_105 : decode cX7_without 105 = .ok (.goto 7, 3) := by decide +kernel
theorem dX7_without_108 : decode cX7_without 108 = .ok (.iload_n 3, 1) := by decide +kernel
theorem dX7_without_109 : decode cX7_without 109 = .ok (.invokestatic 176, 3) := by decide +kernel
theorem dX7_without_112 : decode cX7_without 112 = .ok (.ireturn, 1) := by decide +kernel
theorem dX7_saw_0 : decode cX7_saw 0 = .ok (.aload_n 0, 1) := by decide +kernel
theorem dX7_saw_1 : decode cX7_saw 1 = .ok (.getfield 10, 3) := by decide +kernel
theorem dX7_saw_4 : decode cX7_saw 4 = .ok (.iload_n 1, 1) := by decide +kernel
theorem dX7_saw_5 : decode cX7_saw 5 = .ok (.invokevirtual 135, 3) := by decide +kernel
theorem dX7_saw_8 : decode cX7_saw 8 = .ok (.ifCond .eq 14, 3) := by decide +kernel
theorem dX7_saw_11 : decode cX7_saw 11 = .ok (.iload_n 2, 1) := by decide +kernel
theorem dX7_saw_12 : decode cX7_saw 12 = .ok (.iconst 0, 1) := by decide +kernel
theorem dX7_saw_13 : decode cX7_saw 13 = .ok (.sipush 400, 3) := by decide +kernel
theorem dX7_saw_16 : decode cX7_saw 16 = .ok (.invokestatic 85, 3) := by decide +kernel
theorem dX7_saw_19 : decode cX7_saw 19 = .ok (.ifCond .eq 5, 3) := by decide +kernel
theorem dX7_saw_22 : decode cX7_saw 22 = .ok (.iconst (-1), 1) := by decide +kernel
theorem dX7_saw_23 : decode cX7_saw 23 = .ok (.ireturn, 1) := by decide +kernel
theorem dX7_saw_24 : decode cX7_saw 24 = .ok (.aload_n 0, 1) := by decide +kernel
theorem dX7_saw_25 : decode cX7_saw 25 = .ok (.getfield 112, 3) := by decide +kernel
theorem dX7_saw_28 : decode cX7_saw 28 = .ok (.aload_n 0, 1) := by decide +kernel
theorem dX7_saw_29 : decode cX7_saw 29 = .ok (.getfield 54, 3) := by decide +kernel
theorem dX7_saw_32 : decode cX7_saw 32 = .ok (.arraylength, 1) := by decide +kernel
theorem dX7_saw_33 : decode cX7_saw 33 = .ok (.if_icmp .ge 15, 3) := by decide +kernel
theorem dX7_saw_36 : decode cX7_saw 36 = .ok (.aload_n 0, 1) := by decide +kernel
theorem dX7_saw_37 : decode cX7_saw 37 = .ok (.getfield 112, 3) := by decide +kernel
theorem dX7_saw_40 : decode cX7_saw 40 = .ok (.aload_n 0, 1) := by decide +kernel
theorem dX7_saw_41 : decode cX7_saw 41 = .ok (.getfield 58, 3) := by decide +kernel
theorem dX7_saw_44 : decode cX7_saw 44 = .ok (.arraylength, 1) := by decide +kernel
theorem dX7_saw_45 : decode cX7_saw 45 = .ok (.if_icmp .lt 6, 3) := by decide +kernel
theorem dX7_saw_48 : decode cX7_saw 48 = .ok (.bipush (-3), 2) := by decide +kernel
theorem dX7_saw_50 : decode cX7_saw 50 = .ok (.ireturn, 1) := by decide +kernel
theorem dX7_saw_51 : decode cX7_saw 51 = .ok (.aload_n 0, 1) := by decide +kernel
theorem dX7_saw_52 : decode cX7_saw 52 = .ok (.getfield 54, 3) := by decide +kernel
theorem dX7_saw_55 : decode cX7_saw 55 = .ok (.aload_n 0, 1) := by decide +kernel
theorem dX7_saw_56 : decode cX7_saw 56 = .ok (.getfield 112, 3) := by decide +kernel
theorem dX7_saw_59 : decode cX7_saw 59 = .ok (.iload_n 1, 1) := by decide +kernel
theorem dX7_saw_60 : decode cX7_saw 60 = .ok (.iastore, 1) := by decide +kernel
theorem dX7_saw_61 : decode cX7_saw 61 = .ok (.aload_n 0, 1) := by decide +kernel
theorem dX7_saw_62 : decode cX7_saw 62 = .ok (.getfield 58, 3) := by decide +kernel
theorem dX7_saw_65 : decode cX7_saw 65 = .ok (.aload_n 0, 1) := by decide +kernel
theorem dX7_saw_66 : decode cX7_saw 66 = .ok (.getfield 112, 3) := by decide +kernel
theorem dX7_saw_69 : decode cX7_saw 69 = .ok (.iload_n 2, 1) := by decide +kernel
theorem dX7_saw_70 : decode cX7_saw 70 = .ok (.iastore, 1) := by decide +kernel
theorem dX7_saw_71 : decode cX7_saw 71 = .ok (.aload_n 0, 1) := by decide +kernel
theorem dX7_saw_72 : decode cX7_saw 72 = .ok (.dup, 1) := by decide +kernel
theorem dX7_saw_73 : decode cX7_saw 73 = .ok (.getfield 112, 3) := by decide +kernel
theorem dX7_saw_76 : decode cX7_saw 76 = .ok (.iconst 1, 1) := by decide +kernel
theorem dX7_saw_77 : decode cX7_saw 77 = .ok (.iadd, 1) := by decide +kernel
theorem dX7_saw_78 : decode cX7_saw 78 = .ok (.putfield 112, 3) := by decide +kernel
theorem dX7_saw_81 : decode cX7_saw 81 = .ok (.aload_n 0, 1) := by decide +kernel
theorem dX7_saw_82 : decode cX7_saw 82 = .ok (.getfield 112, 3) := by decide +kernel
theorem dX7_saw_85 : decode cX7_saw 85 = .ok (.ireturn, 1) := by decide +kernel
theorem dX7_forget_0 : decode cX7_forget 0 = .ok (.aload_n 0, 1) := by decide +kernel
theorem dX7_forget_1 : decode cX7_forget 1 = .ok (.getfield 112, 3) := by decide +kernel
theorem dX7_forget_4 : decode cX7_forget 4 = .ok (.istore_n 1, 1) := by decide +kernel
theorem dX7_forget_5 : decode cX7_forget 5 = .ok (.aload_n 0, 1) := by decide +kernel
theorem dX7_forget_6 : decode cX7_forget 6 = .ok (.iconst 0, 1) := by decide +kernel
theorem dX7_forget_7 : decode cX7_forget 7 = .ok (.putfield 112, 3) := by decide +kernel
theorem dX7_forget_10 : decode cX7_forget 10 = .ok (.iload_n 1, 1) := by decide +kernel
theorem dX7_forget_11 : decode cX7_forget 11 = .ok (.ireturn, 1) := by decide +kernel
theorem dX7_why_0 : decode cX7_why 0 = .ok (.iload_n 1, 1) := by decide +kernel
theorem dX7_why_1 : decode cX7_why 1 = .ok (.iconst 0, 1) := by decide +kernel
theorem dX7_why_2 : decode cX7_why 2 = .ok (.iconst 2, 1) := by decide +kernel
theorem dX7_why_3 : decode cX7_why 3 = .ok (.invokestatic 85, 3) := by decide +kernel
theorem dX7_why_6 : decode cX7_why 6 = .ok (.ifCond .eq 5, 3) := by decide +kernel
theorem dX7_why_9 : decode cX7_why 9 = .ok (.iconst (-1), 1) := by decide +kernel
theorem dX7_why_10 : decode cX7_why 10 = .ok (.ireturn, 1) := by decide +kernel
theorem dX7_why_11 : decode cX7_why 11 = .ok (.iconst 0, 1) := by decide +kernel
theorem dX7_why_12 : decode cX7_why 12 = .ok (.istore_n 2, 1) := by decide +kernel
theorem dX7_why_13 : decode cX7_why 13 = .ok (.iconst 0, 1) := by decide +kernel
theorem dX7_why_14 : decode cX7_why 14 = .ok (.istore_n 3, 1) := by decide +kernel
theorem dX7_why_15 : decode cX7_why 15 = .ok (.iload_n 3, 1) := by decide +kernel
theorem dX7_why_16 : decode cX7_why 16 = .ok (.sipush 400, 3) := by decide +kernel
theorem dX7_why_19 : decode cX7_why 19 = .ok (.if_icmp .gt 54, 3) := by decide +kernel
theorem dX7_why_22 : decode cX7_why 22 = .ok (.iconst 1, 1) := by decide +kernel
theorem dX7_why_23 : decode cX7_why 23 = .ok (.istore 4, 2) := by decide +kernel
theorem dX7_why_25 : decode cX7_why 25 = .ok (.iload 4, 2) := by decide +kernel
theorem dX7_why_27 : decode cX7_why 27 = .ok (.bipush 9, 2) := by decide +kernel
theorem dX7_why_29 : decode cX7_why 29 = .ok (.if_icmp .gt 38, 3) := by decide +kernel
theorem dX7_why_32 : decode cX7_why 32 = .ok (.aload_n 0, 1) := by decide +kernel
theorem dX7_why_33 : decode cX7_why 33 = .ok (.iload_n 3, 1) := by decide +kernel
theorem dX7_why_34 : decode cX7_why 34 = .ok (.iload 4, 2) := by decide +kernel
theorem dX7_why_36 : decode cX7_why 36 = .ok (.invokevirtual 187, 3) := by decide +kernel
theorem dX7_why_39 : decode cX7_why 39 = .ok (.ifCond .eq 22, 3) := by decide +kernel
theorem dX7_why_42 : decode cX7_why 42 = .ok (.iload_n 1, 1) := by decide +kernel
theorem dX7_why_43 : decode cX7_why 43 = .ok (.ifCond .eq 15, 3) := by decide +kernel
theorem dX7_why_46 : decode cX7_why 46 = .ok (.iload_n 1, 1) := by decide +kernel
theorem dX7_why_47 : decode cX7_why 47 = .ok (.iconst 1, 1) := by decide +kernel
theorem dX7_why_48 : decode cX7_why 48 = .ok (.if_icmp .ne 7, 3) := by decide +kernel
theorem dX7_why_51 : decode cX7_why 51 = .ok (.iload_n 3, 1) := by decide +kernel
theorem dX7_why_52 : decode cX7_why 52 = .ok (.goto 5, 3) := by decide +kernel
theorem dX7_why_55 : decode cX7_why 55 = .ok (.iload 4, 2) := by decide +kernel
theorem dX7_why_57 : decode cX7_why 57 = .ok (.ireturn, 1) := by decide +kernel
theorem dX7_why_58 : decode cX7_why 58 = .ok (.iinc 2 1, 3) := by decide +kernel
theorem dX7_why_61 : decode cX7_why 61 = .ok (.iinc 4 1, 3) := by decide +kernel
theorem dX7_why_64 : decode cX7_why 64 = .ok (.goto (-39), 3) := by decide +kernel
theorem dX7_why_67 : decode cX7_why 67 = .ok (.iinc 3 20, 3) := by decide +kernel
theorem dX7_why_70 : decode cX7_why 70 = .ok (.goto (-55), 3) := by decide +kernel
theorem dX7_why_73 : decode cX7_why 73 = .ok (.iload_n 1, 1) := by decide +kernel
theorem dX7_why_74 : decode cX7_why 74 = .ok (.ifCond .ne 7, 3) := by decide +kernel
theorem dX7_why_77 : decode cX7_why 77 = .ok (.iload_n 2, 1) := by decide +kernel
theorem dX7_why_78 : decode cX7_why 78 = .ok (.goto 5, 3) := by decide +kernel
theorem dX7_why_81 : decode cX7_why 81 = .ok (.bipush (-4), 2) := by decide +kernel
theorem dX7_why_83 : decode cX7_why 83 = .ok (.ireturn, 1) := by decide +kernel
theorem dX7_next_0 : decode cX7_next 0 = .ok (.iload_n 1, 1) := by decide +kernel
theorem dX7_next_1 : decode cX7_next 1 = .ok (.iconst 1, 1) := by decide +kernel
theorem dX7_next_2 : decode cX7_next 2 = .ok (.bipush 9, 2) := by decide +kernel
theorem dX7_next_4 : decode cX7_next 4 = .ok (.invokestatic 85, 3) := by decide +kernel
theorem dX7_next_7 : decode cX7_next 7 = .ok (.ifCond .ne 12, 3) := by decide +kernel
theorem dX7_next_10 : decode cX7_next 10 = .ok (.iload_n 2, 1) := by decide +kernel
theorem dX7_next_11 : decode cX7_next 11 = .ok (.iconst 0, 1) := by decide +kernel
theorem dX7_next_12 : decode cX7_next 12 = .ok (.iconst 1, 1) := by decide +kernel
theorem dX7_next_13 : decode cX7_next 13 = .ok (.invokestatic 85, 3) := by decide +kernel
theorem dX7_next_16 : decode cX7_next 16 = .ok (.ifCond .eq 5, 3) := by decide +kernel
theorem dX7_next_19 : decode cX7_next 19 = .ok (.iconst (-1), 1) := by decide +kernel
theorem dX7_next_20 : decode cX7_next 20 = .ok (.ireturn, 1) := by decide +kernel
theorem dX7_next_21 : decode cX7_next 21 = .ok (.aload_n 0, 1) := by decide +kernel
theorem dX7_next_22 : decode cX7_next 22 = .ok (.getfield 26, 3) := by decide +kernel
theorem dX7_next_25 : decode cX7_next 25 = .ok (.invokevirtual 190, 3) := by decide +kernel
theorem dX7_next_28 : decode cX7_next 28 = .ok (.ifCond .eq 6, 3) := by decide +kernel
theorem dX7_next_31 : decode cX7_next 31 = .ok (.bipush (-2), 2) := by decide +kernel
theorem dX7_next_33 : decode cX7_next 33 = .ok (.ireturn, 1) := by decide +kernel
theorem dX7_next_34 : decode cX7_next 34 = .ok (.bipush (-4), 2) := by decide +kernel
theorem dX7_next_36 : decode cX7_next 36 = .ok (.istore_n 3, 1) := by decide +kernel
theorem dX7_next_37 : decode cX7_next 37 = .ok (.bipush (-4), 2) := by decide +kernel
theorem dX7_next_39 : decode cX7_next 39 = .ok (.istore 4, 2) := by decide +kernel
theorem dX7_next_41 : decode cX7_next 41 = .ok (.iconst 0, 1) := by decide +kernel
theorem dX7_next_42 : decode cX7_next 42 = .ok (.istore 5, 2) := by decide +kernel
theorem dX7_next_44 : decode cX7_next 44 = .ok (.iload 5, 2) := by decide +kernel
theorem dX7_next_46 : decode cX7_next 46 = .ok (.iconst 3, 1) := by decide +kernel
theorem dX7_next_47 : decode cX7_next 47 = .ok (.if_icmp .gt 51, 3) := by decide +kernel
theorem dX7_next_50 : decode cX7_next 50 = .ok (.aload_n 0, 1) := by decide +kernel
theorem dX7_next_51 : decode cX7_next 51 = .ok (.iload 5, 2) := by decide +kernel
theorem dX7_next_53 : decode cX7_next 53 = .ok (.invokevirtual 194, 3) := by decide +kernel
theorem dX7_next_56 : decode cX7_next 56 = .ok (.aload_n 0, 1) := by decide +kernel
theorem dX7_next_57 : decode cX7_next 57 = .ok (.iload_n 1, 1) := by decide +kernel
theorem dX7_next_58 : decode cX7_next 58 = .ok (.sipush 400, 3) := by decide +kernel
theorem dX7_next_61 : decode cX7_next 61 = .ok (.invokevirtual 166, 3) := by decide +kernel
theorem dX7_next_64 : decode cX7_next 64 = .ok (.istore 6, 2) := by decide +kernel
theorem dX7_next_66 : decode cX7_next 66 = .ok (.iload 6, 2) := by decide +kernel
theorem dX7_next_68 : decode cX7_next 68 = .ok (.bipush (-4), 2) := by decide +kernel
theorem dX7_next_70 : decode cX7_next 70 = .ok (.if_icmp .eq 22, 3) := by decide +kernel
theorem dX7_next_73 : decode cX7_next 73 = .ok (.iload_n 3, 1) := by decide +kernel
theorem dX7_next_74 : decode cX7_next 74 = .ok (.bipush (-4), 2) := by decide +kernel
theorem dX7_next_76 : decode cX7_next 76 = .ok (.if_icmp .eq 9, 3) := by decide +kernel
theorem dX7_next_79 : decode cX7_next 79 = .ok (.iload 6, 2) := by decide +kernel
theorem dX7_next_81 : decode cX7_next 81 = .ok (.iload_n 3, 1) := by decide +kernel
theorem dX7_next_82 : decode cX7_next 82 = .ok (.if_icmp .ge 10, 3) := by decide +kernel
theorem dX7_next_85 : decode cX7_next 85 = .ok (.iload 6, 2) := by decide +kernel
theorem dX7_next_87 : decode cX7_next 87 = .ok (.istore_n 3, 1) := by decide +kernel
theorem dX7_next_88 : decode cX7_next 88 = .ok (.iload 5, 2) := by decide +kernel
theorem dX7_next_90 : decode cX7_next 90 = .ok (.istore 4, 2) := by decide +kernel
theorem dX7_next_92 : decode cX7_next 92 = .ok (.iinc 5 1, 3) := by decide +kernel
theorem dX7_next_95 : decode cX7_next 95 = .ok (.goto (-51), 3) := by decide +kernel
theorem dX7_next_98 : decode cX7_next 98 = .ok (.iload_n 2, 1) := by decide +kernel
theorem dX7_next_99 : decode cX7_next 99 = .ok (.ifCond .ne 8, 3) := by decide +kernel
theorem dX7_next_102 : decode cX7_next 102 = .ok (.iload 4, 2) := by decide +kernel
theorem dX7_next_104 : decode cX7_next 104 = .ok (.goto 4, 3) := by decide +kernel
theorem dX7_next_107 : decode cX7_next 107 = .ok (.iload_n 3, 1) := by decide +kernel
theorem dX7_next_108 : decode cX7_next 108 = .ok (.ireturn, 1) := by decide +kernel
theorem dX7_over_0 : decode cX7_over 0 = .ok (.iload_n 1, 1) := by decide +kernel
theorem dX7_over_1 : decode cX7_over 1 = .ok (.iconst 1, 1) := by decide +kernel
theorem dX7_over_2 : decode cX7_over 2 = .ok (.bipush 9, 2) := by decide +kernel
theorem dX7_over_4 : decode cX7_over 4 = .ok (.invokestatic 85, 3) := by decide +kernel
theorem dX7_over_7 : decode cX7_over 7 = .ok (.ifCond .eq 5, 3) := by decide +kernel
theorem dX7_over_10 : decode cX7_over 10 = .ok (.iconst (-1), 1) := by decide +kernel
theorem dX7_over_11 : decode cX7_over 11 = .ok (.ireturn, 1) := by decide +kernel
theorem dX7_over_12 : decode cX7_over 12 = .ok (.aload_n 0, 1) := by decide +kernel
theorem dX7_over_13 : decode cX7_over 13 = .ok (.getfield 26, 3) := by decide +kernel
theorem dX7_over_16 : decode cX7_over 16 = .ok (.invokevirtual 190, 3) := by decide +kernel
theorem dX7_over_19 : decode cX7_over 19 = .ok (.ifCond .ne 6, 3) := by decide +kernel
theorem dX7_over_22 : decode cX7_over 22 = .ok (.bipush (-2), 2) := by decide +kernel
theorem dX7_over_24 : decode cX7_over 24 = .ok (.ireturn, 1) := by decide +kernel
theorem dX7_over_25 : decode cX7_over 25 = .ok (.aload_n 0, 1) := by decide +kernel
theorem dX7_over_26 : decode cX7_over 26 = .ok (.getfield 30, 3) := by decide +kernel
theorem dX7_over_29 : decode cX7_over 29 = .ok (.aload_n 0, 1) := by decide +kernel
theorem dX7_over_30 : decode cX7_over 30 = .ok (.getfield 26, 3) := by decide +kernel
theorem dX7_over_33 : decode cX7_over 33 = .ok (.invokevirtual 197, 3) := by decide +kernel
theorem dX7_over_36 : decode cX7_over 36 = .ok (.iconst 0, 1) := by decide +kernel
theorem dX7_over_37 : decode cX7_over 37 = .ok (.istore_n 2, 1) := by decide +kernel
theorem dX7_over_38 : decode cX7_over 38 = .ok (.iload_n 2, 1) := by decide +kernel
theorem dX7_over_39 : decode cX7_over 39 = .ok (.sipush 400, 3) := by decide +kernel
theorem dX7_over_42 : decode cX7_over 42 = .ok (.if_icmp .gt 34, 3) := by decide +kernel
theorem dX7_over_45 : decode cX7_over 45 = .ok (.aload_n 0, 1) := by decide +kernel
theorem dX7_over_46 : decode cX7_over 46 = .ok (.getfield 30, 3) := by decide +kernel
theorem dX7_over_49 : decode cX7_over 49 = .ok (.invokevirtual 200, 3) := by decide +kernel
theorem dX7_over_52 : decode cX7_over 52 = .ok (.ifCond .eq 5, 3) := by decide +kernel
theorem dX7_over_55 : decode cX7_over 55 = .ok (.iload_n 2, 1) := by decide +kernel
theorem dX7_over_56 : decode cX7_over 56 = .ok (.ireturn, 1) := by decide +kernel
theorem dX7_over_57 : decode cX7_over 57 = .ok (.aload_n 0, 1) := by decide +kernel
theorem dX7_over_58 : decode cX7_over 58 = .ok (.getfield 30, 3) := by decide +kernel
theorem dX7_over_61 : decode cX7_over 61 = .ok (.aload_n 0, 1) := by decide +kernel
theorem dX7_over_62 : decode cX7_over 62 = .ok (.getfield 10, 3) := by decide +kernel
theorem dX7_over_65 : decode cX7_over 65 = .ok (.iload_n 1, 1) := by decide +kernel
theorem dX7_over_66 : decode cX7_over 66 = .ok (.invokevirtual 162, 3) := by decide +kernel
theorem dX7_over_69 : decode cX7_over 69 = .ok (.pop, 1) := by decide +kernel
theorem dX7_over_70 : decode cX7_over 70 = .ok (.iinc 2 1, 3) := by decide +kernel
theorem dX7_over_73 : decode cX7_over 73 = .ok (.goto (-35), 3) := by decide +kernel
theorem dX7_over_76 : decode cX7_over 76 = .ok (.bipush (-4), 2) := by decide +kernel
theorem dX7_over_78 : decode cX7_over 78 = .ok (.ireturn, 1) := by decide +kernel
theorem dX7_wash_0 : decode cX7_wash 0 = .ok (.iload_n 1, 1) := by decide +kernel
theorem dX7_wash_1 : decode cX7_wash 1 = .ok (.iload_n 2, 1) := by decide +kernel
theorem dX7_wash_2 : decode cX7_wash 2 = .ok (.invokestatic 203, 3) := by decide +kernel
theorem dX7_wash_5 : decode cX7_wash 5 = .ok (.ifCond .ne 22, 3) := by decide +kernel
theorem dX7_wash_8 : decode cX7_wash 8 = .ok (.iload_n 3, 1) := by decide +kernel
theorem dX7_wash_9 : decode cX7_wash 9 = .ok (.iconst 0, 1) := by decide +kernel
theorem dX7_wash_10 : decode cX7_wash 10 = .ok (.iconst 5, 1) := by decide +kernel
theorem dX7_wash_11 : decode cX7_wash 11 = .ok (.invokestatic 85, 3) := by decide +kernel
theorem dX7_wash_14 : decode cX7_wash 14 = .ok (.ifCond .ne 13, 3) := by decide +kernel
theorem dX7_wash_17 : decode cX7_wash 17 = .ok (.iload 4, 2) := by decide +kernel
theorem dX7_wash_19 : decode cX7_wash 19 = .ok (.iconst 0, 1) := by decide +kernel
theorem dX7_wash_20 : decode cX7_wash 20 = .ok (.iconst 1, 1) := by decide +kernel
theorem dX7_wash_21 : decode cX7_wash 21 = .ok (.invokestatic 85, 3) := by decide +kernel
theorem dX7_wash_24 : decode cX7_wash 24 = .ok (.ifCond .eq 7, 3) := by decide +kernel
theorem dX7_wash_27 : decode cX7_wash 27 = .ok (.ldc2_w 206, 3) := by decide +kernel
theorem dX7_wash_30 : decode cX7_wash 30 = .ok (.lreturn, 1) := by decide +kernel
theorem dX7_wash_31 : decode cX7_wash 31 = .ok (.iload_n 1, 1) := by decide +kernel
theorem dX7_wash_32 : decode cX7_wash 32 = .ok (.i2l, 1) := by decide +kernel
theorem dX7_wash_33 : decode cX7_wash 33 = .ok (.iload_n 3, 1) := by decide +kernel
theorem dX7_wash_34 : decode cX7_wash 34 = .ok (.iconst 1, 1) := by decide +kernel
theorem dX7_wash_35 : decode cX7_wash 35 = .ok (.iadd, 1) := by decide +kernel
theorem dX7_wash_36 : decode cX7_wash 36 = .ok (.invokestatic 208, 3) := by decide +kernel
theorem dX7_wash_39 : decode cX7_wash 39 = .ok (.iload_n 1, 1) := by decide +kernel
theorem dX7_wash_40 : decode cX7_wash 40 = .ok (.iload_n 2, 1) := by decide +kernel
theorem dX7_wash_41 : decode cX7_wash 41 = .ok (.iadd, 1) := by decide +kernel
theorem dX7_wash_42 : decode cX7_wash 42 = .ok (.i2l, 1) := by decide +kernel
theorem dX7_wash_43 : decode cX7_wash 43 = .ok (.iload_n 3, 1) := by decide +kernel
theorem dX7_wash_44 : decode cX7_wash 44 = .ok (.invokestatic 208, 3) := by decide +kernel
theorem dX7_wash_47 : decode cX7_wash 47 = .ok (.iload 4, 2) := by decide +kernel
theorem dX7_wash_49 : decode cX7_wash 49 = .ok (.invokestatic 212, 3) := by decide +kernel
theorem dX7_wash_52 : decode cX7_wash 52 = .ok (.lreturn, 1) := by decide +kernel
theorem dX7_washes_0 : decode cX7_washes 0 = .ok (.iload_n 1, 1) := by decide +kernel
theorem dX7_washes_1 : decode cX7_washes 1 = .ok (.iload_n 2, 1) := by decide +kernel
theorem dX7_washes_2 : decode cX7_washes 2 = .ok (.invokestatic 203, 3) := by decide +kernel
theorem dX7_washes_5 : decode cX7_washes 5 = .ok (.ifCond .ne 12, 3) := by decide +kernel
theorem dX7_washes_8 : decode cX7_washes 8 = .ok (.iload_n 3, 1) := by decide +kernel
theorem dX7_washes_9 : decode cX7_washes 9 = .ok (.iload 4, 2) := by decide +kernel
theorem dX7_washes_11 : decode cX7_washes 11 = .ok (.invokestatic 216, 3) := by decide +kernel
theorem dX7_washes_14 : decode cX7_washes 14 = .ok (.ifCond .eq 5, 3) := by decide +kernel
theorem dX7_washes_17 : decode cX7_washes 17 = .ok (.iconst (-1), 1) := by decide +kernel
theorem dX7_washes_18 : decode cX7_washes 18 = .ok (.ireturn, 1) := by decide +kernel
theorem dX7_washes_19 : decode cX7_washes 19 = .ok (.iconst 0, 1) := by decide +kernel
theorem dX7_washes_20 : decode cX7_washes 20 = .ok (.istore 5, 2) := by decide +kernel
theorem dX7_washes_22 : decode cX7_washes 22 = .ok (.iload 5, 2) := by decide +kernel
theorem dX7_washes_24 : decode cX7_washes 24 = .ok (.iconst 5, 1) := by decide +kernel
theorem dX7_washes_25 : decode cX7_washes 25 = .ok (.if_icmp .gt 41, 3) := by decide +kernel
theorem dX7_washes_28 : decode cX7_washes 28 = .ok (.iload_n 1, 1) := by decide +kernel
theorem dX7_washes_29 : decode cX7_washes 29 = .ok (.i2l, 1) := by decide +kernel
theorem dX7_washes_30 : decode cX7_washes 30 = .ok (.iload 5, 2) := by decide +kernel
theorem dX7_washes_32 : decode cX7_washes 32 = .ok (.iconst 1, 1) := by decide +kernel
theorem dX7_washes_33 : decode cX7_washes 33 = .ok (.iadd, 1) := by decide +kernel
theorem dX7_washes_34 : decode cX7_washes 34 = .ok (.invokestatic 208, 3) := by decide +kernel
theorem dX7_washes_37 : decode cX7_washes 37 = .ok (.iload 4, 2) := by decide +kernel
theorem dX7_washes_39 : decode cX7_washes 39 = .ok (.i2l, 1) := by decide +kernel
theorem dX7_washes_40 : decode cX7_washes 40 = .ok (.lmul, 1) := by decide +kernel
theorem dX7_washes_41 : decode cX7_washes 41 = .ok (.iload_n 3, 1) := by decide +kernel
theorem dX7_washes_42 : decode cX7_washes 42 = .ok (.i2l, 1) := by decide +kernel
theorem dX7_washes_43 : decode cX7_washes 43 = .ok (.iload_n 1, 1) := by decide +kernel
theorem dX7_washes_44 : decode cX7_washes 44 = .ok (.iload_n 2, 1) := by decide +kernel
theorem dX7_washes_45 : decode cX7_washes 45 = .ok (.iadd, 1) := by decide +kernel
theorem dX7_washes_46 : decode cX7_washes 46 = .ok (.i2l, 1) := by decide +kernel
theorem dX7_washes_47 : decode cX7_washes 47 = .ok (.iload 5, 2) := by decide +kernel
theorem dX7_washes_49 : decode cX7_washes 49 = .ok (.invokestatic 208, 3) := by decide +kernel
theorem dX7_washes_52 : decode cX7_washes 52 = .ok (.lmul, 1) := by decide +kernel
theorem dX7_washes_53 : decode cX7_washes 53 = .ok (.lcmp, 1) := by decide +kernel
theorem dX7_washes_54 : decode cX7_washes 54 = .ok (.ifCond .gt 6, 3) := by decide +kernel
theorem dX7_washes_57 : decode cX7_washes 57 = .ok (.iload 5, 2) := by decide +kernel
theorem dX7_washes_59 : decode cX7_washes 59 = .ok (.ireturn, 1) := by decide +kernel
theorem dX7_washes_60 : decode cX7_washes 60 = .ok (.iinc 5 1, 3) := by decide +kernel
theorem dX7_washes_63 : decode cX7_washes 63 = .ok (.goto (-41), 3) := by decide +kernel
theorem dX7_washes_66 : decode cX7_washes 66 = .ok (.bipush (-4), 2) := by decide +kernel
theorem dX7_washes_68 : decode cX7_washes 68 = .ok (.ireturn, 1) := by decide +kernel
theorem dX7_split_0 : decode cX7_split 0 = .ok (.iload_n 1, 1) := by decide +kernel
theorem dX7_split_1 : decode cX7_split 1 = .ok (.iload_n 2, 1) := by decide +kernel
theorem dX7_split_2 : decode cX7_split 2 = .ok (.invokestatic 203, 3) := by decide +kernel
theorem dX7_split_5 : decode cX7_split 5 = .ok (.ifCond .eq 5, 3) := by decide +kernel
theorem dX7_split_8 : decode cX7_split 8 = .ok (.iconst (-1), 1) := by decide +kernel
theorem dX7_split_9 : decode cX7_split 9 = .ok (.ireturn, 1) := by decide +kernel
theorem dX7_split_10 : decode cX7_split 10 = .ok (.iconst 0, 1) := by decide +kernel
theorem dX7_split_11 : decode cX7_split 11 = .ok (.istore_n 3, 1) := by decide +kernel
theorem dX7_split_12 : decode cX7_split 12 = .ok (.iconst 0, 1) := by decide +kernel
theorem dX7_split_13 : decode cX7_split 13 = .ok (.istore 4, 2) := by decide +kernel
theorem dX7_split_15 : decode cX7_split 15 = .ok (.iconst 0, 1) := by decide +kernel
theorem dX7_split_16 : decode cX7_split 16 = .ok (.istore 5, 2) := by decide +kernel
theorem dX7_split_18 : decode cX7_split 18 = .ok (.iload 5, 2) := by decide +kernel
theorem dX7_split_20 : decode cX7_split 20 = .ok (.iload_n 2, 1) := by decide +kernel
theorem dX7_split_21 : decode cX7_split 21 = .ok (.if_icmp .gt 36, 3) := by decide +kernel
theorem dX7_split_24 : decode cX7_split 24 = .ok (.iload_n 1, 1) := by decide +kernel
theorem dX7_split_25 : decode cX7_split 25 = .ok (.iload 5, 2) := by decide +kernel
theorem dX7_split_27 : decode cX7_split 27 = .ok (.iadd, 1) := by decide +kernel
theorem dX7_split_28 : decode cX7_split 28 = .ok (.iload_n 1, 1) := by decide +kernel
theorem dX7_split_29 : decode cX7_split 29 = .ok (.iload_n 2, 1) := by decide +kernel
theorem dX7_split_30 : decode cX7_split 30 = .ok (.iadd, 1) := by decide +kernel
theorem dX7_split_31 : decode cX7_split 31 = .ok (.iload 5, 2) := by decide +kernel
theorem dX7_split_33 : decode cX7_split 33 = .ok (.isub, 1) := by decide +kernel
theorem dX7_split_34 : decode cX7_split 34 = .ok (.imul, 1) := by decide +kernel
theorem dX7_split_35 : decode cX7_split 35 = .ok (.istore 6, 2) := by decide +kernel
theorem dX7_split_37 : decode cX7_split 37 = .ok (.iload 6, 2) := by decide +kernel
theorem dX7_split_39 : decode cX7_split 39 = .ok (.iload 4, 2) := by decide +kernel
theorem dX7_split_41 : decode cX7_split 41 = .ok (.if_icmp .le 10, 3) := by decide +kernel
theorem dX7_split_44 : decode cX7_split 44 = .ok (.iload 6, 2) := by decide +kernel
theorem dX7_split_46 : decode cX7_split 46 = .ok (.istore 4, 2) := by decide +kernel
theorem dX7_split_48 : decode cX7_split 48 = .ok (.iload 5, 2) := by decide +kernel
theorem dX7_split_50 : decode cX7_split 50 = .ok (.istore_n 3, 1) := by decide +kernel
theorem dX7_split_51 : decode cX7_split 51 = .ok (.iinc 5 1, 3) := by decide +kernel
theorem dX7_split_54 : decode cX7_split 54 = .ok (.goto (-36), 3) := by decide +kernel
theorem dX7_split_57 : decode cX7_split 57 = .ok (.iload_n 3, 1) := by decide +kernel
theorem dX7_split_58 : decode cX7_split 58 = .ok (.ireturn, 1) := by decide +kernel
theorem dX7_worked_0 : decode cX7_worked 0 = .ok (.iload_n 1, 1) := by decide +kernel
theorem dX7_worked_1 : decode cX7_worked 1 = .ok (.iload_n 2, 1) := by decide +kernel
theorem dX7_worked_2 : decode cX7_worked 2 = .ok (.invokestatic 219, 3) := by decide +kernel
theorem dX7_worked_5 : decode cX7_worked 5 = .ok (.ifCond .ne 16, 3) := by decide +kernel
theorem dX7_worked_8 : decode cX7_worked 8 = .ok (.iload_n 3, 1) := by decide +kernel
theorem dX7_worked_9 : decode cX7_worked 9 = .ok (.ifCond .lt 12, 3) := by decide +kernel
theorem dX7_worked_12 : decode cX7_worked 12 = .ok (.iload_n 3, 1) := by decide +kernel
theorem dX7_worked_13 : decode cX7_worked 13 = .ok (.aload_n 0, 1) := by decide +kernel
theorem dX7_worked_14 : decode cX7_worked 14 = .ok (.getfield 61, 3) := by decide +kernel
theorem dX7_worked_17 : decode cX7_worked 17 = .ok (.arraylength, 1) := by decide +kernel
theorem dX7_worked_18 : decode cX7_worked 18 = .ok (.if_icmp .lt 5, 3) := by decide +kernel
theorem dX7_worked_21 : decode cX7_worked 21 = .ok (.iconst (-1), 1) := by decide +kernel
theorem dX7_worked_22 : decode cX7_worked 22 = .ok (.ireturn, 1) := by decide +kernel
theorem dX7_worked_23 : decode cX7_worked 23 = .ok (.aload_n 0, 1) := by decide +kernel
theorem dX7_worked_24 : decode cX7_worked 24 = .ok (.iload_n 1, 1) := by decide +kernel
theorem dX7_worked_25 : decode cX7_worked 25 = .ok (.iload_n 2, 1) := by decide +kernel
theorem dX7_worked_26 : decode cX7_worked 26 = .ok (.invokevirtual 222, 3) := by decide +kernel
theorem dX7_worked_29 : decode cX7_worked 29 = .ok (.aload_n 0, 1) := by decide +kernel
theorem dX7_worked_30 : decode cX7_worked 30 = .ok (.getfield 61, 3) := by decide +kernel
theorem dX7_worked_33 : decode cX7_worked 33 = .ok (.iload_n 3, 1) := by decide +kernel
theorem dX7_worked_34 : decode cX7_worked 34 = .ok (.iaload, 1) := by decide +kernel
theorem dX7_worked_35 : decode cX7_worked 35 = .ok (.ireturn, 1) := by decide +kernel
theorem dX7_keeps_0 : decode cX7_keeps 0 = .ok (.iload_n 1, 1) := by decide +kernel
theorem dX7_keeps_1 : decode cX7_keeps 1 = .ok (.iload_n 2, 1) := by decide +kernel
theorem dX7_keeps_2 : decode cX7_keeps 2 = .ok (.invokestatic 219, 3) := by decide +kernel
theorem dX7_keeps_5 : decode cX7_keeps 5 = .ok (.ifCond .eq 5, 3) := by decide +kernel
theorem dX7_keeps_8 : decode cX7_keeps 8 = .ok (.iconst (-1), 1) := by decide +kernel
theorem dX7_keeps_9 : decode cX7_keeps 9 = .ok (.ireturn, 1) := by decide +kernel
theorem dX7_keeps_10 : decode cX7_keeps 10 = .ok (.aload_n 0, 1) := by decide +kernel
theorem dX7_keeps_11 : decode cX7_keeps 11 = .ok (.iload_n 1, 1) := by decide +kernel
theorem dX7_keeps_12 : decode cX7_keeps 12 = .ok (.iload_n 2, 1) := by decide +kernel
theorem dX7_keeps_13 : decode cX7_keeps 13 = .ok (.invokevirtual 222, 3) := by decide +kernel
theorem dX7_keeps_16 : decode cX7_keeps 16 = .ok (.iconst 0, 1) := by decide +kernel
theorem dX7_keeps_17 : decode cX7_keeps 17 = .ok (.istore_n 3, 1) := by decide +kernel
theorem dX7_keeps_18 : decode cX7_keeps 18 = .ok (.iconst 0, 1) := by decide +kernel
theorem dX7_keeps_19 : decode cX7_keeps 19 = .ok (.istore 4, 2) := by decide +kernel
theorem dX7_keeps_21 : decode cX7_keeps 21 = .ok (.iload 4, 2) := by decide +kernel
theorem dX7_keeps_23 : decode cX7_keeps 23 = .ok (.aload_n 0, 1) := by decide +kernel
theorem dX7_keeps_24 : decode cX7_keeps 24 = .ok (.getfield 61, 3) := by decide +kernel
theorem dX7_keeps_27 : decode cX7_keeps 27 = .ok (.arraylength, 1) := by decide +kernel
theorem dX7_keeps_28 : decode cX7_keeps 28 = .ok (.if_icmp .ge 22, 3) := by decide +kernel
theorem dX7_keeps_31 : decode cX7_keeps 31 = .ok (.aload_n 0, 1) := by decide +kernel
theorem dX7_keeps_32 : decode cX7_keeps 32 = .ok (.getfield 61, 3) := by decide +kernel
theorem dX7_keeps_35 : decode cX7_keeps 35 = .ok (.iload 4, 2) := by decide +kernel
theorem dX7_keeps_37 : decode cX7_keeps 37 = .ok (.iaload, 1) := by decide +kernel
theorem dX7_keeps_38 : decode cX7_keeps 38 = .ok (.ifCond .le 6, 3) := by decide +kernel
theorem dX7_keeps_41 : decode cX7_keeps 41 = .ok (.iload 4, 2) := by decide +kernel
theorem dX7_keeps_43 : decode cX7_keeps 43 = .ok (.istore_n 3, 1) := by decide +kernel
theorem dX7_keeps_44 : decode cX7_keeps 44 = .ok (.iinc 4 1, 3) := by decide +kernel
theorem dX7_keeps_47 : decode cX7_keeps 47 = .ok (.goto (-26), 3) := by decide +kernel
theorem dX7_keeps_50 : decode cX7_keeps 50 = .ok (.bipush 64, 2) := by decide +kernel
theorem dX7_keeps_52 : decode cX7_keeps 52 = .ok (.iload_n 3, 1) := by decide +kernel
theorem dX7_keeps_53 : decode cX7_keeps 53 = .ok (.ishr, 1) := by decide +kernel
theorem dX7_keeps_54 : decode cX7_keeps 54 = .ok (.ireturn, 1) := by decide +kernel
theorem dX7_rod_0 : decode cX7_rod 0 = .ok (.iload_n 1, 1) := by decide +kernel
theorem dX7_rod_1 : decode cX7_rod 1 = .ok (.iconst 0, 1) := by decide +kernel
theorem dX7_rod_2 : decode cX7_rod 2 = .ok (.bipush 30, 2) := by decide +kernel
theorem dX7_rod_4 : decode cX7_rod 4 = .ok (.invokestatic 85, 3) := by decide +kernel
theorem dX7_rod_7 : decode cX7_rod 7 = .ok (.ifCond .ne 23, 3) := by decide +kernel
theorem dX7_rod_10 : decode cX7_rod 10 = .ok (.iload_n 2, 1) := by decide +kernel
theorem dX7_rod_11 : decode cX7_rod 11 = .ok (.iload_n 3, 1) := by decide +kernel
theorem dX7_rod_12 : decode cX7_rod 12 = .ok (.iload 4, 2) := by decide +kernel
theorem dX7_rod_14 : decode cX7_rod 14 = .ok (.invokestatic 226, 3) := by decide +kernel
theorem dX7_rod_17 : decode cX7_rod 17 = .ok (.ifCond .ne 13, 3) := by decide +kernel
theorem dX7_rod_20 : decode cX7_rod 20 = .ok (.iload 5, 2) := by decide +kernel
theorem dX7_rod_22 : decode cX7_rod 22 = .ok (.iconst 0, 1) := by decide +kernel
theorem dX7_rod_23 : decode cX7_rod 23 = .ok (.iconst 1, 1) := by decide +kernel
theorem dX7_rod_24 : decode cX7_rod 24 = .ok (.invokestatic 85, 3) := by decide +kernel
theorem dX7_rod_27 : decode cX7_rod 27 = .ok (.ifCond .eq 5, 3) := by decide +kernel
theorem dX7_rod_30 : decode cX7_rod 30 = .ok (.iconst (-1), 1) := by decide +kernel
theorem dX7_rod_31 : decode cX7_rod 31 = .ok (.ireturn, 1) := by decide +kernel
theorem dX7_rod_32 : decode cX7_rod 32 = .ok (.iload_n 1, 1) := by decide +kernel
theorem dX7_rod_33 : decode cX7_rod 33 = .ok (.iload_n 2, 1) := by decide +kernel
theorem dX7_rod_34 : decode cX7_rod 34 = .ok (.iload_n 3, 1) := by decide +kernel
theorem dX7_rod_35 : decode cX7_rod 35 = .ok (.iload 4, 2) := by decide +kernel
theorem dX7_rod_37 : decode cX7_rod 37 = .ok (.invokestatic 229, 3) := by decide +kernel
theorem dX7_rod_40 : decode cX7_rod 40 = .ok (.i2l, 1) := by decide +kernel
theorem dX7_rod_41 : decode cX7_rod 41 = .ok (.iload_n 2, 1) := by decide +kernel
theorem dX7_rod_42 : decode cX7_rod 42 = .ok (.iload_n 3, 1) := by decide +kernel
theorem dX7_rod_43 : decode cX7_rod 43 = .ok (.iadd, 1) := by decide +kernel
theorem dX7_rod_44 : decode cX7_rod 44 = .ok (.iload 4, 2) := by decide +kernel
theorem dX7_rod_46 : decode cX7_rod 46 = .ok (.iadd, 1) := by decide +kernel
theorem dX7_rod_47 : decode cX7_rod 47 = .ok (.i2l, 1) := by decide +kernel
theorem dX7_rod_48 : decode cX7_rod 48 = .ok (.iload 5, 2) := by decide +kernel
theorem dX7_rod_50 : decode cX7_rod 50 = .ok (.invokestatic 212, 3) := by decide +kernel
theorem dX7_rod_53 : decode cX7_rod 53 = .ok (.l2i, 1) := by decide +kernel
theorem dX7_rod_54 : decode cX7_rod 54 = .ok (.ireturn, 1) := by decide +kernel
theorem dX7_near_0 : decode cX7_near 0 = .ok (.iload_n 1, 1) := by decide +kernel
theorem dX7_near_1 : decode cX7_near 1 = .ok (.iload_n 2, 1) := by decide +kernel
theorem dX7_near_2 : decode cX7_near 2 = .ok (.iload_n 3, 1) := by decide +kernel
theorem dX7_near_3 : decode cX7_near 3 = .ok (.invokestatic 226, 3) := by decide +kernel
theorem dX7_near_6 : decode cX7_near 6 = .ok (.ifCond .ne 13, 3) := by decide +kernel
theorem dX7_near_9 : decode cX7_near 9 = .ok (.iload 4, 2) := by decide +kernel
theorem dX7_near_11 : decode cX7_near 11 = .ok (.iload 5, 2) := by decide +kernel
theorem dX7_near_13 : decode cX7_near 13 = .ok (.invokestatic 216, 3) := by decide +kernel
theorem dX7_near_16 : decode cX7_near 16 = .ok (.ifCond .eq 5, 3) := by decide +kernel
theorem dX7_near_19 : decode cX7_near 19 = .ok (.iconst (-1), 1) := by decide +kernel
theorem dX7_near_20 : decode cX7_near 20 = .ok (.ireturn, 1) := by decide +kernel
theorem dX7_near_21 : decode cX7_near 21 = .ok (.bipush (-4), 2) := by decide +kernel
theorem dX7_near_23 : decode cX7_near 23 = .ok (.istore 6, 2) := by decide +kernel
theorem dX7_near_25 : decode cX7_near 25 = .ok (.iconst 0, 1) := by decide +kernel
theorem dX7_near_26 : decode cX7_near 26 = .ok (.istore 7, 2) := by decide +kernel
theorem dX7_near_28 : decode cX7_near 28 = .ok (.iload 7, 2) := by decide +kernel
theorem dX7_near_30 : decode cX7_near 30 = .ok (.bipush 30, 2) := by decide +kernel
theorem dX7_near_32 : decode cX7_near 32 = .ok (.if_icmp .gt 35, 3) := by decide +kernel
theorem dX7_near_35 : decode cX7_near 35 = .ok (.iload 7, 2) := by decide +kernel
theorem dX7_near_37 : decode cX7_near 37 = .ok (.iload_n 1, 1) := by decide +kernel
theorem dX7_near_38 : decode cX7_near 38 = .ok (.iload_n 2, 1) := by decide +kernel
theorem dX7_near_39 : decode cX7_near 39 = .ok (.iload_n 3, 1) := by decide +kernel
theorem dX7_near_40 : decode cX7_near 40 = .ok (.invokestatic 229, 3) := by decide +kernel
theorem dX7_near_43 : decode cX7_near 43 = .ok (.iload 5, 2) := by decide +kernel
theorem dX7_near_45 : decode cX7_near 45 = .ok (.imul, 1) := by decide +kernel
theorem dX7_near_46 : decode cX7_near 46 = .ok (.iload 4, 2) := by decide +kernel
theorem dX7_near_48 : decode cX7_near 48 = .ok (.iload_n 1, 1) := by decide +kernel
theorem dX7_near_49 : decode cX7_near 49 = .ok (.iload_n 2, 1) := by decide +kernel
theorem dX7_near_50 : decode cX7_near 50 = .ok (.iadd, 1) := by decide +kernel
theorem dX7_near_51 : decode cX7_near 51 = .ok (.iload_n 3, 1) := by decide +kernel
theorem dX7_near_52 : decode cX7_near 52 = .ok (.iadd, 1) := by decide +kernel
theorem dX7_near_53 : decode cX7_near 53 = .ok (.imul, 1) := by decide +kernel
theorem dX7_near_54 : decode cX7_near 54 = .ok (.if_icmp .gt 7, 3) := by decide +kernel
theorem dX7_near_57 : decode cX7_near 57 = .ok (.iload 7, 2) := by decide +kernel
theorem dX7_near_59 : decode cX7_near 59 = .ok (.istore 6, 2) := by decide +kernel
theorem dX7_near_61 : decode cX7_near 61 = .ok (.iinc 7 1, 3) := by decide +kernel
theorem dX7_near_64 : decode cX7_near 64 = .ok (.goto (-36), 3) := by decide +kernel
theorem dX7_near_67 : decode cX7_near 67 = .ok (.iload 6, 2) := by decide +kernel
theorem dX7_near_69 : decode cX7_near 69 = .ok (.ireturn, 1) := by decide +kernel
theorem dX7_witch_0 : decode cX7_witch 0 = .ok (.iload_n 1, 1) := by decide +kernel
theorem dX7_witch_1 : decode cX7_witch 1 = .ok (.iconst 1, 1) := by decide +kernel
theorem dX7_witch_2 : decode cX7_witch 2 = .ok (.bipush 12, 2) := by decide +kernel
theorem dX7_witch_4 : decode cX7_witch 4 = .ok (.invokestatic 85, 3) := by decide +kernel
theorem dX7_witch_7 : decode cX7_witch 7 = .ok (.ifCond .ne 43, 3) := by decide +kernel
theorem dX7_witch_10 : decode cX7_witch 10 = .ok (.iload_n 2, 1) := by decide +kernel
theorem dX7_witch_11 : decode cX7_witch 11 = .ok (.iconst 0, 1) := by decide +kernel
theorem dX7_witch_12 : decode cX7_witch 12 = .ok (.iload_n 1, 1) := by decide +kernel
theorem dX7_witch_13 : decode cX7_witch 13 = .ok (.invokestatic 85, 3) := by decide +kernel
theorem dX7_witch_16 : decode cX7_witch 16 = .ok (.ifCond .ne 34, 3) := by decide +kernel
theorem dX7_witch_19 : decode cX7_witch 19 = .ok (.iload 4, 2) := by decide +kernel
theorem dX7_witch_21 : decode cX7_witch 21 = .ok (.iconst 1, 1) := by decide +kernel
theorem dX7_witch_22 : decode cX7_witch 22 = .ok (.bipush 9, 2) := by decide +kernel
theorem dX7_witch_24 : decode cX7_witch 24 = .ok (.invokestatic 85, 3) := by decide +kernel
theorem dX7_witch_27 : decode cX7_witch 27 = .ok (.ifCond .ne 23, 3) := by decide +kernel
theorem dX7_witch_30 : decode cX7_witch 30 = .ok (.iload_n 3, 1) := by decide +kernel
theorem dX7_witch_31 : decode cX7_witch 31 = .ok (.iconst 0, 1) := by decide +kernel
theorem dX7_witch_32 : decode cX7_witch 32 = .ok (.iload 4, 2) := by decide +kernel
theorem dX7_witch_34 : decode cX7_witch 34 = .ok (.invokestatic 85, 3) := by decide +kernel
theorem dX7_witch_37 : decode cX7_witch 37 = .ok (.ifCond .ne 13, 3) := by decide +kernel
theorem dX7_witch_40 : decode cX7_witch 40 = .ok (.iload 5, 2) := by decide +kernel
theorem dX7_witch_42 : decode cX7_witch 42 = .ok (.iconst 0, 1) := by decide +kernel
theorem dX7_witch_43 : decode cX7_witch 43 = .ok (.iconst 1, 1) := by decide +kernel
theorem dX7_witch_44 : decode cX7_witch 44 = .ok (.invokestatic 85, 3) := by decide +kernel
theorem dX7_witch_47 : decode cX7_witch 47 = .ok (.ifCond .eq 7, 3) := by decide +kernel
theorem dX7_witch_50 : decode cX7_witch 50 = .ok (.ldc2_w 206, 3) := by decide +kernel
theorem dX7_witch_53 : decode cX7_witch 53 = .ok (.lreturn, 1) := by decide +kernel
theorem dX7_witch_54 : decode cX7_witch 54 = .ok (.lconst 0, 1) := by decide +kernel
theorem dX7_witch_55 : decode cX7_witch 55 = .ok (.lstore 6, 2) := by decide +kernel
theorem dX7_witch_57 : decode cX7_witch 57 = .ok (.lconst 1, 1) := by decide +kernel
theorem dX7_witch_58 : decode cX7_witch 58 = .ok (.lstore 8, 2) := by decide +kernel
theorem dX7_witch_60 : decode cX7_witch 60 = .ok (.iconst 0, 1) := by decide +kernel
theorem dX7_witch_61 : decode cX7_witch 61 = .ok (.istore 10, 2) := by decide +kernel
theorem dX7_witch_63 : decode cX7_witch 63 = .ok (.iload 10, 2) := by decide +kernel
theorem dX7_witch_65 : decode cX7_witch 65 = .ok (.iload_n 1, 1) := by decide +kernel
theorem dX7_witch_66 : decode cX7_witch 66 = .ok (.if_icmp .gt 59, 3) := by decide +kernel
theorem dX7_witch_69 : decode cX7_witch 69 = .ok (.iload 10, 2) := by decide +kernel
theorem dX7_witch_71 : decode cX7_witch 71 = .ok (.iload_n 2, 1) := by decide +kernel
theorem dX7_witch_72 : decode cX7_witch 72 = .ok (.if_icmp .lt 31, 3) := by decide +kernel
theorem dX7_witch_75 : decode cX7_witch 75 = .ok (.lload 6, 2) := by decide +kernel
theorem dX7_witch_77 : decode cX7_witch 77 = .ok (.lload 8, 2) := by decide +kernel
theorem dX7_witch_79 : decode cX7_witch 79 = .ok (.iload_n 3, 1) := by decide +kernel
theorem dX7_witch_80 : decode cX7_witch 80 = .ok (.i2l, 1) := by decide +kernel
theorem dX7_witch_81 : decode cX7_witch 81 = .ok (.iload 10, 2) := by decide +kernel
theorem dX7_witch_83 : decode cX7_witch 83 = .ok (.invokestatic 208, 3) := by decide +kernel
theorem dX7_witch_86 : decode cX7_witch 86 = .ok (.lmul, 1) := by decide +kernel
theorem dX7_witch_87 : decode cX7_witch 87 = .ok (.iload 4, 2) := by decide +kernel
theorem dX7_witch_89 : decode cX7_witch 89 = .ok (.iload_n 3, 1) := by decide +kernel
theorem dX7_witch_90 : decode cX7_witch 90 = .ok (.isub, 1) := by decide +kernel
theorem dX7_witch_91 : decode cX7_witch 91 = .ok (.i2l, 1) := by decide +kernel
theorem dX7_witch_92 : decode cX7_witch 92 = .ok (.iload_n 1, 1) := by decide +kernel
theorem dX7_witch_93 : decode cX7_witch 93 = .ok (.iload 10, 2) := by decide +kernel
theorem dX7_witch_95 : decode cX7_witch 95 = .ok (.isub, 1) := by decide +kernel
theorem dX7_witch_96 : decode cX7_witch 96 = .ok (.invokestatic 208, 3) := by decide +kernel
theorem dX7_witch_99 : decode cX7_witch 99 = .ok (.lmul, 1) := by decide +kernel
theorem dX7_witch_100 : decode cX7_witch 100 = .ok (.ladd, 1) := by decide +kernel
theorem dX7_witch_101 : decode cX7_witch 101 = .ok (.lstore 6, 2) := by decide +kernel
theorem dX7_witch_103 : decode cX7_witch 103 = .ok (.lload 8, 2) := by decide +kernel
theorem dX7_witch_105 : decode cX7_witch 105 = .ok (.iload_n 1, 1) := by decide +kernel
theorem dX7_witch_106 : decode cX7_witch 106 = .ok (.iload 10, 2) := by decide +kernel
theorem dX7_witch_108 : decode cX7_witch 108 = .ok (.isub, 1) := by decide +kernel
theorem dX7_witch_109 : decode cX7_witch 109 = .ok (.i2l, 1) := by decide +kernel
theorem dX7_witch_110 : decode cX7_witch 110 = .ok (.lmul, 1) := by decide +kernel
theorem dX7_witch_111 : decode cX7_witch 111 = .ok (.iload 10, 2) := by decide +kernel
theorem dX7_witch_113 : decode cX7_witch 113 = .ok (.iconst 1, 1) := by decide +kernel
theorem dX7_witch_114 : decode cX7_witch 114 = .ok (.iadd, 1) := by decide +kernel
theorem dX7_witch_115 : decode cX7_witch 115 = .ok (.i2l, 1) := by decide +kernel
theorem dX7_witch_116 : decode cX7_witch 116 = .ok (.ldiv, 1) := by decide +kernel
theorem dX7_witch_117 : decode cX7_witch 117 = .ok (.lstore 8, 2) := by decide +kernel
theorem dX7_witch_119 : decode cX7_witch 119 = .ok (.iinc 10 1, 3) := by decide +kernel
theorem dX7_witch_122 : decode cX7_witch 122 = .ok (.goto (-59), 3) := by decide +kernel
theorem dX7_witch_125 : decode cX7_witch 125 = .ok (.lload 6, 2) := by decide +kernel
theorem dX7_witch_127 : decode cX7_witch 127 = .ok (.iload 4, 2) := by decide +kernel
theorem dX7_witch_129 : decode cX7_witch 129 = .ok (.i2l, 1) := by decide +kernel
theorem dX7_witch_130 : decode cX7_witch 130 = .ok (.iload_n 1, 1) := by decide +kernel
theorem dX7_witch_131 : decode cX7_witch 131 = .ok (.invokestatic 208, 3) := by decide +kernel
theorem dX7_witch_134 : decode cX7_witch 134 = .ok (.iload 5, 2) := by decide +kernel
theorem dX7_witch_136 : decode cX7_witch 136 = .ok (.invokestatic 212, 3) := by decide +kernel
theorem dX7_witch_139 : decode cX7_witch 139 = .ok (.lreturn, 1) := by decide +kernel
theorem dX7_keep_0 : decode cX7_keep 0 = .ok (.aload_n 0, 1) := by decide +kernel
theorem dX7_keep_1 : decode cX7_keep 1 = .ok (.iload_n 1, 1) := by decide +kernel
theorem dX7_keep_2 : decode cX7_keep 2 = .ok (.invokevirtual 233, 3) := by decide +kernel
theorem dX7_keep_5 : decode cX7_keep 5 = .ok (.astore_n 2, 1) := by decide +kernel
theorem dX7_keep_6 : decode cX7_keep 6 = .ok (.aload_n 2, 1) := by decide +kernel
theorem dX7_keep_7 : decode cX7_keep 7 = .ok (.ifnonnull 5, 3) := by decide +kernel
theorem dX7_keep_10 : decode cX7_keep 10 = .ok (.iconst (-1), 1) := by decide +kernel
theorem dX7_keep_11 : decode cX7_keep 11 = .ok (.ireturn, 1) := by decide +kernel
theorem dX7_keep_12 : decode cX7_keep 12 = .ok (.aload_n 2, 1) := by decide +kernel
theorem dX7_keep_13 : decode cX7_keep 13 = .ok (.getfield 115, 3) := by decide +kernel
theorem dX7_keep_16 : decode cX7_keep 16 = .ok (.ifCond .eq 7, 3) := by decide +kernel
theorem dX7_keep_19 : decode cX7_keep 19 = .ok (.iconst 1, 1) := by decide +kernel
theorem dX7_keep_20 : decode cX7_keep 20 = .ok (.goto 4, 3) := by decide +kernel
theorem dX7_keep_23 : decode cX7_keep 23 = .ok (.iconst 0, 1) := by decide +kernel
theorem dX7_keep_24 : decode cX7_keep 24 = .ok (.istore_n 3, 1) := by decide +kernel
theorem dX7_keep_25 : decode cX7_keep 25 = .ok (.aload_n 2, 1) := by decide +kernel
theorem dX7_keep_26 : decode cX7_keep 26 = .ok (.getfield 237, 3) := by decide +kernel
theorem dX7_keep_29 : decode cX7_keep 29 = .ok (.aload_n 0, 1) := by decide +kernel
theorem dX7_keep_30 : decode cX7_keep 30 = .ok (.getfield 26, 3) := by decide +kernel
theorem dX7_keep_33 : decode cX7_keep 33 = .ok (.invokevirtual 197, 3) := by decide +kernel
theorem dX7_keep_36 : decode cX7_keep 36 = .ok (.aload_n 2, 1) := by decide +kernel
theorem dX7_keep_37 : decode cX7_keep 37 = .ok (.iconst 1, 1) := by decide +kernel
theorem dX7_keep_38 : decode cX7_keep 38 = .ok (.putfield 115, 3) := by decide +kernel
theorem dX7_keep_41 : decode cX7_keep 41 = .ok (.iload_n 3, 1) := by decide +kernel
theorem dX7_keep_42 : decode cX7_keep 42 = .ok (.ireturn, 1) := by decide +kernel
theorem dX7_back_0 : decode cX7_back 0 = .ok (.aload_n 0, 1) := by decide +kernel
theorem dX7_back_1 : decode cX7_back 1 = .ok (.iload_n 1, 1) := by decide +kernel
theorem dX7_back_2 : decode cX7_back 2 = .ok (.invokevirtual 233, 3) := by decide +kernel
theorem dX7_back_5 : decode cX7_back 5 = .ok (.astore_n 2, 1) := by decide +kernel
theorem dX7_back_6 : decode cX7_back 6 = .ok (.aload_n 2, 1) := by decide +kernel
theorem dX7_back_7 : decode cX7_back 7 = .ok (.ifnonnull 5, 3) := by decide +kernel
theorem dX7_back_10 : decode cX7_back 10 = .ok (.iconst (-1), 1) := by decide +kernel
theorem dX7_back_11 : decode cX7_back 11 = .ok (.ireturn, 1) := by decide +kernel
theorem dX7_back_12 : decode cX7_back 12 = .ok (.aload_n 2, 1) := by decide +kernel
theorem dX7_back_13 : decode cX7_back 13 = .ok (.getfield 115, 3) := by decide +kernel
theorem dX7_back_16 : decode cX7_back 16 = .ok (.ifCond .ne 6, 3) := by decide +kernel
theorem dX7_back_19 : decode cX7_back 19 = .ok (.bipush (-2), 2) := by decide +kernel
theorem dX7_back_21 : decode cX7_back 21 = .ok (.ireturn, 1) := by decide +kernel
theorem dX7_back_22 : decode cX7_back 22 = .ok (.aload_n 0, 1) := by decide +kernel
theorem dX7_back_23 : decode cX7_back 23 = .ok (.getfield 26, 3) := by decide +kernel
theorem dX7_back_26 : decode cX7_back 26 = .ok (.aload_n 2, 1) := by decide +kernel
theorem dX7_back_27 : decode cX7_back 27 = .ok (.getfield 237, 3) := by decide +kernel
theorem dX7_back_30 : decode cX7_back 30 = .ok (.invokevirtual 197, 3) := by decide +kernel
theorem dX7_back_33 : decode cX7_back 33 = .ok (.aload_n 0, 1) := by decide +kernel
theorem dX7_back_34 : decode cX7_back 34 = .ok (.getfield 26, 3) := by decide +kernel
theorem dX7_back_37 : decode cX7_back 37 = .ok (.getfield 238, 3) := by decide +kernel
theorem dX7_back_40 : decode cX7_back 40 = .ok (.ireturn, 1) := by decide +kernel
theorem dX7_sheet_0 : decode cX7_sheet 0 = .ok (.aload_n 0, 1) := by decide +kernel
theorem dX7_sheet_1 : decode cX7_sheet 1 = .ok (.iload_n 1, 1) := by decide +kernel
theorem dX7_sheet_2 : decode cX7_sheet 2 = .ok (.invokevirtual 241, 3) := by decide +kernel
theorem dX7_sheet_5 : decode cX7_sheet 5 = .ok (.astore 4, 2) := by decide +kernel
theorem dX7_sheet_7 : decode cX7_sheet 7 = .ok (.aload 4, 2) := by decide +kernel
theorem dX7_sheet_9 : decode cX7_sheet 9 = .ok (.ifnull 18, 3) := by decide +kernel
theorem dX7_sheet_12 : decode cX7_sheet 12 = .ok (.iload_n 2, 1) := by decide +kernel
theorem dX7_sheet_13 : decode cX7_sheet 13 = .ok (.iconst 0, 1) := by decide +kernel
theorem dX7_sheet_14 : decode cX7_sheet 14 = .ok (.iconst 2, 1) := by decide +kernel
theorem dX7_sheet_15 : decode cX7_sheet 15 = .ok (.invokestatic 85, 3) := by decide +kernel
theorem dX7_sheet_18 : decode cX7_sheet 18 = .ok (.ifCond .ne 9, 3) := by decide +kernel
theorem dX7_sheet_21 : decode cX7_sheet 21 = .ok (.iload_n 3, 1) := by decide +kernel
theorem dX7_sheet_22 : decode cX7_sheet 22 = .ok (.bipush 40, 2) := by decide +kernel
theorem dX7_sheet_24 : decode cX7_sheet 24 = .ok (.if_icmp .le 5, 3) := by decide +kernel
theorem dX7_sheet_27 : decode cX7_sheet 27 = .ok (.iconst (-1), 1) := by decide +kernel
theorem dX7_sheet_28 : decode cX7_sheet 28 = .ok (.ireturn, 1) := by decide +kernel
theorem dX7_sheet_29 : decode cX7_sheet 29 = .ok (.iload_n 3, 1) := by decide +kernel
theorem dX7_sheet_30 : decode cX7_sheet 30 = .ok (.ifCond .ge 6, 3) := by decide +kernel
theorem dX7_sheet_33 : decode cX7_sheet 33 = .ok (.bipush (-14), 2) := by decide +kernel
theorem dX7_sheet_35 : decode cX7_sheet 35 = .ok (.ireturn, 1) := by decide +kernel
theorem dX7_sheet_36 : decode cX7_sheet 36 = .ok (.aload 4, 2) := by decide +kernel
theorem dX7_sheet_38 : decode cX7_sheet 38 = .ok (.iload_n 2, 1) := by decide +kernel
theorem dX7_sheet_39 : decode cX7_sheet 39 = .ok (.iload_n 3, 1) := by decide +kernel
theorem dX7_sheet_40 : decode cX7_sheet 40 = .ok (.invokevirtual 245, 3) := by decide +kernel
theorem dX7_sheet_43 : decode cX7_sheet 43 = .ok (.iconst 1, 1) := by decide +kernel
theorem dX7_sheet_44 : decode cX7_sheet 44 = .ok (.ireturn, 1) := by decide +kernel
theorem dX7_lay_0 : decode cX7_lay 0 = .ok (.aload_n 0, 1) := by decide +kernel
theorem dX7_lay_1 : decode cX7_lay 1 = .ok (.iload_n 1, 1) := by decide +kernel
theorem dX7_lay_2 : decode cX7_lay 2 = .ok (.invokevirtual 241, 3) := by decide +kernel
theorem dX7_lay_5 : decode cX7_lay 5 = .ok (.astore 4, 2) := by decide +kernel
theorem dX7_lay_7 : decode cX7_lay 7 = .ok (.aload 4, 2) := by decide +kernel
theorem dX7_lay_9 : decode cX7_lay 9 = .ok (.ifnonnull 5, 3) := by decide +kernel
theorem dX7_lay_12 : decode cX7_lay 12 = .ok (.iconst (-1), 1) := by decide +kernel
theorem dX7_lay_13 : decode cX7_lay 13 = .ok (.ireturn, 1) := by decide +kernel
theorem dX7_lay_14 : decode cX7_lay 14 = .ok (.aload 4, 2) := by decide +kernel
theorem dX7_lay_16 : decode cX7_lay 16 = .ok (.iload_n 2, 1) := by decide +kernel
theorem dX7_lay_17 : decode cX7_lay 17 = .ok (.iload_n 3, 1) := by decide +kernel
theorem dX7_lay_18 : decode cX7_lay 18 = .ok (.invokevirtual 248, 3) := by decide +kernel
theorem dX7_lay_21 : decode cX7_lay 21 = .ok (.istore 5, 2) := by decide +kernel
theorem dX7_lay_23 : decode cX7_lay 23 = .ok (.iload 5, 2) := by decide +kernel
theorem dX7_lay_25 : decode cX7_lay 25 = .ok (.ifCond .ne 7, 3) := by decide +kernel
theorem dX7_lay_28 : decode cX7_lay 28 = .ok (.iconst 1, 1) := by decide +kernel
theorem dX7_lay_29 : decode cX7_lay 29 = .ok (.goto 8, 3) := by decide +kernel
theorem dX7_lay_32 : decode cX7_lay 32 = .ok (.bipush (-10), 2) := by decide +kernel
theorem dX7_lay_34 : decode cX7_lay 34 = .ok (.iload 5, 2) := by decide +kernel
theorem dX7_lay_36 : decode cX7_lay 36 = .ok (.isub, 1) := by decide +kernel
theorem dX7_lay_37 : decode cX7_lay 37 = .ok (.ireturn, 1) := by decide +kernel
theorem dX7_read_0 : decode cX7_read 0 = .ok (.aload_n 0, 1) := by decide +kernel
theorem dX7_read_1 : decode cX7_read 1 = .ok (.iload_n 1, 1) := by decide +kernel
theorem dX7_read_2 : decode cX7_read 2 = .ok (.invokevirtual 241, 3) := by decide +kernel
theorem dX7_read_5 : decode cX7_read 5 = .ok (.astore 5, 2) := by decide +kernel
theorem dX7_read_7 : decode cX7_read 7 = .ok (.aload 5, 2) := by decide +kernel
theorem dX7_read_9 : decode cX7_read 9 = .ok (.ifnull 23, 3) := by decide +kernel
theorem dX7_read_12 : decode cX7_read 12 = .ok (.iload_n 2, 1) := by decide +kernel
theorem dX7_read_13 : decode cX7_read 13 = .ok (.iconst 0, 1) := by decide +kernel
theorem dX7_read_14 : decode cX7_read 14 = .ok (.iconst 2, 1) := by decide +kernel
theorem dX7_read_15 : decode cX7_read 15 = .ok (.invokestatic 85, 3) := by decide +kernel
theorem dX7_read_18 : decode cX7_read 18 = .ok (.ifCond .ne 14, 3) := by decide +kernel
theorem dX7_read_21 : decode cX7_read 21 = .ok (.iload 4, 2) := by decide +kernel
theorem dX7_read_23 : decode cX7_read 23 = .ok (.iconst 0, 1) := by decide +kernel
theorem dX7_read_24 : decode cX7_read 24 = .ok (.bipush 20, 2) := by decide +kernel
theorem dX7_read_26 : decode cX7_read 26 = .ok (.invokestatic 85, 3) := by decide +kernel
theorem dX7_read_29 : decode cX7_read 29 = .ok (.ifCond .eq 5, 3) := by decide +kernel
theorem dX7_read_32 : decode cX7_read 32 = .ok (.iconst (-1), 1) := by decide +kernel
theorem dX7_read_33 : decode cX7_read 33 = .ok (.ireturn, 1) := by decide +kernel
theorem dX7_read_34 : decode cX7_read 34 = .ok (.aload 5, 2) := by decide +kernel
theorem dX7_read_36 : decode cX7_read 36 = .ok (.iload_n 2, 1) := by decide +kernel
theorem dX7_read_37 : decode cX7_read 37 = .ok (.iload_n 3, 1) := by decide +kernel
theorem dX7_read_38 : decode cX7_read 38 = .ok (.iload 4, 2) := by decide +kernel
theorem dX7_read_40 : decode cX7_read 40 = .ok (.invokevirtual 250, 3) := by decide +kernel
theorem dX7_read_43 : decode cX7_read 43 = .ok (.istore 6, 2) := by decide +kernel
theorem dX7_read_45 : decode cX7_read 45 = .ok (.iconst 0, 1) := by decide +kernel
theorem dX7_read_46 : decode cX7_read 46 = .ok (.istore 7, 2) := by decide +kernel
theorem dX7_read_48 : decode cX7_read 48 = .ok (.iload 7, 2) := by decide +kernel
theorem dX7_read_50 : decode cX7_read 50 = .ok (.iload 6, 2) := by decide +kernel
theorem dX7_read_52 : decode cX7_read 52 = .ok (.if_icmp .ge 45, 3) := by decide +kernel
theorem dX7_read_55 : decode cX7_read 55 = .ok (.aload 5, 2) := by decide +kernel
theorem dX7_read_57 : decode cX7_read 57 = .ok (.iload_n 3, 1) := by decide +kernel
theorem dX7_read_58 : decode cX7_read 58 = .ok (.iconst 2, 1) := by decide +kernel
theorem dX7_read_59 : decode cX7_read 59 = .ok (.iload 7, 2) := by decide +kernel
theorem dX7_read_61 : decode cX7_read 61 = .ok (.imul, 1) := by decide +kernel
theorem dX7_read_62 : decode cX7_read 62 = .ok (.iadd, 1) := by decide +kernel
theorem dX7_read_63 : decode cX7_read 63 = .ok (.invokevirtual 254, 3) := by decide +kernel
theorem dX7_read_66 : decode cX7_read 66 = .ok (.aload 5, 2) := by decide +kernel
theorem dX7_read_68 : decode cX7_read 68 = .ok (.iload_n 3, 1) := by decide +kernel
theorem dX7_read_69 : decode cX7_read 69 = .ok (.iconst 2, 1) := by decide +kernel
theorem dX7_read_70 : decode cX7_read 70 = .ok (.iload 7, 2) := by decide +kernel
theorem dX7_read_72 : decode cX7_read 72 = .ok (.imul, 1) := by decide +kernel
theorem dX7_read_73 : decode cX7_read 73 = .ok (.iadd, 1) := by decide +kernel
theorem dX7_read_74 : decode cX7_read 74 = .ok (.iconst 1, 1) := by decide +kernel
theorem dX7_read_75 : decode cX7_read 75 = .ok (.iadd, 1) := by decide +kernel
theorem dX7_read_76 : decode cX7_read 76 = .ok (.invokevirtual 254, 3) := by decide +kernel
theorem dX7_read_79 : decode cX7_read 79 = .ok (.invokestatic 140, 3) := by decide +kernel
theorem dX7_read_82 : decode cX7_read 82 = .ok (.ifCond .eq 9, 3) := by decide +kernel
theorem dX7_read_85 : decode cX7_read 85 = .ok (.bipush (-20), 2) := by decide +kernel
theorem dX7_read_87 : decode cX7_read 87 = .ok (.iload 7, 2) := by decide +kernel
theorem dX7_read_89 : decode cX7_read 89 = .ok (.isub, 1) := by decide +kernel
theorem dX7_read_90 : decode cX7_read 90 = .ok (.ireturn, 1) := by decide +kernel
theorem dX7_read_91 : decode cX7_read 91 = .ok (.iinc 7 1, 3) := by decide +kernel
theorem dX7_read_94 : decode cX7_read 94 = .ok (.goto (-46), 3) := by decide +kernel
theorem dX7_read_97 : decode cX7_read 97 = .ok (.iconst 0, 1) := by decide +kernel
theorem dX7_read_98 : decode cX7_read 98 = .ok (.istore 7, 2) := by decide +kernel
theorem dX7_read_100 : decode cX7_read 100 = .ok (.iload 7, 2) := by decide +kernel
theorem dX7_read_102 : decode cX7_read 102 = .ok (.iload 6, 2) := by decide +kernel
theorem dX7_read_104 : decode cX7_read 104 = .ok (.if_icmp .ge 38, 3) := by decide +kernel
theorem dX7_read_107 : decode cX7_read 107 = .ok (.aload_n 0, 1) := by decide +kernel
theorem dX7_read_108 : decode cX7_read 108 = .ok (.aload 5, 2) := by decide +kernel
theorem dX7_read_110 : decode cX7_read 110 = .ok (.iload_n 3, 1) := by decide +kernel
theorem dX7_read_111 : decode cX7_read 111 = .ok (.iconst 2, 1) := by decide +kernel
theorem dX7_read_112 : decode cX7_read 112 = .ok (.iload 7, 2) := by decide +kernel
theorem dX7_read_114 : decode cX7_read 114 = .ok (.imul, 1) := by decide +kernel
theorem dX7_read_115 : decode cX7_read 115 = .ok (.iadd, 1) := by decide +kernel
theorem dX7_read_116 : decode cX7_read 116 = .ok (.invokevirtual 254, 3) := by decide +kernel
theorem dX7_read_119 : decode cX7_read 119 = .ok (.aload 5, 2) := by decide +kernel
theorem dX7_read_121 : decode cX7_read 121 = .ok (.iload_n 3, 1) := by decide +kernel
theorem dX7_read_122 : decode cX7_read 122 = .ok (.iconst 2, 1) := by decide +kernel
theorem dX7_read_123 : decode cX7_read 123 = .ok (.iload 7, 2) := by decide +kernel
theorem dX7_read_125 : decode cX7_read 125 = .ok (.imul, 1) := by decide +kernel
theorem dX7_read_126 : decode cX7_read 126 = .ok (.iadd, 1) := by decide +kernel
theorem dX7_read_127 : decode cX7_read 127 = .ok (.iconst 1, 1) := by decide +kernel
theorem dX7_read_128 : decode cX7_read 128 = .ok (.iadd, 1) := by decide +kernel
theorem dX7_read_129 : decode cX7_read 129 = .ok (.invokevirtual 254, 3) := by decide +kernel
theorem dX7_read_132 : decode cX7_read 132 = .ok (.invokevirtual 144, 3) := by decide +kernel
theorem dX7_read_135 : decode cX7_read 135 = .ok (.pop, 1) := by decide +kernel
theorem dX7_read_136 : decode cX7_read 136 = .ok (.iinc 7 1, 3) := by decide +kernel
theorem dX7_read_139 : decode cX7_read 139 = .ok (.goto (-39), 3) := by decide +kernel
theorem dX7_read_142 : decode cX7_read 142 = .ok (.aload_n 0, 1) := by decide +kernel
theorem dX7_read_143 : decode cX7_read 143 = .ok (.iload 6, 2) := by decide +kernel
theorem dX7_read_145 : decode cX7_read 145 = .ok (.iload 4, 2) := by decide +kernel
theorem dX7_read_147 : decode cX7_read 147 = .ok (.if_icmp .ne 7, 3) := by decide +kernel
theorem dX7_read_150 : decode cX7_read 150 = .ok (.iconst 0, 1) := by decide +kernel
theorem dX7_read_151 : decode cX7_read 151 = .ok (.goto 9, 3) := by decide +kernel
theorem dX7_read_154 : decode cX7_read 154 = .ok (.aload 5, 2) := by decide +kernel
theorem dX7_read_156 : decode cX7_read 156 = .ok (.iload_n 2, 1) := by decide +kernel
theorem dX7_read_157 : decode cX7_read 157 = .ok (.invokevirtual 257, 3) := by decide +kernel
theorem dX7_read_160 : decode cX7_read 160 = .ok (.putfield 260, 3) := by decide +kernel
theorem dX7_read_163 : decode cX7_read 163 = .ok (.iload 6, 2) := by decide +kernel
theorem dX7_read_165 : decode cX7_read 165 = .ok (.ireturn, 1) := by decide +kernel
theorem dX7_torn_0 : decode cX7_torn 0 = .ok (.aload_n 0, 1) := by decide +kernel
theorem dX7_torn_1 : decode cX7_torn 1 = .ok (.getfield 260, 3) := by decide +kernel
theorem dX7_torn_4 : decode cX7_torn 4 = .ok (.ireturn, 1) := by decide +kernel
theorem dX7_count_0 : decode cX7_count 0 = .ok (.iload_n 1, 1) := by decide +kernel
theorem dX7_count_1 : decode cX7_count 1 = .ok (.tableswitch 73 0 4 #[35, 43, 48, 53, 64], 35) := by decide +kernel
theorem dX7_count_36 : decode cX7_count 36 = .ok (.aload_n 0, 1) := by decide +kernel
theorem dX7_count_37 : decode cX7_count 37 = .ok (.getfield 10, 3) := by decide +kernel
theorem dX7_count_40 : decode cX7_count 40 = .ok (.getfield 263, 3) := by decide +kernel
theorem dX7_count_43 : decode cX7_count 43 = .ok (.ireturn, 1) := by decide +kernel
theorem dX7_count_44 : decode cX7_count 44 = .ok (.aload_n 0, 1) := by decide +kernel
theorem dX7_count_45 : decode cX7_count 45 = .ok (.getfield 112, 3) := by decide +kernel
theorem dX7_count_48 : decode cX7_count 48 = .ok (.ireturn, 1) := by decide +kernel
theorem dX7_count_49 : decode cX7_count 49 = .ok (.aload_n 0, 1) := by decide +kernel
theorem dX7_count_50 : decode cX7_count 50 = .ok (.invokevirtual 266, 3) := by decide +kernel
theorem dX7_count_53 : decode cX7_count 53 = .ok (.ireturn, 1) := by decide +kernel
theorem dX7_count_54 : decode cX7_count 54 = .ok (.aload_n 0, 1) := by decide +kernel
theorem dX7_count_55 : decode cX7_count 55 = .ok (.getfield 19, 3) := by decide +kernel
theorem dX7_count_58 : decode cX7_count 58 = .ok (.getfield 72, 3) := by decide +kernel
theorem dX7_count_61 : decode cX7_count 61 = .ok (.getfield 82, 3) := by decide +kernel
theorem dX7_count_64 : decode cX7_count 64 = .ok (.ireturn, 1) := by decide +kernel
theorem dX7_count_65 : decode cX7_count 65 = .ok (.aload_n 0, 1) := by decide +kernel
theorem dX7_count_66 : decode cX7_count 66 = .ok (.iconst 0, 1) := by decide +kernel
theorem dX7_count_67 : decode cX7_count 67 = .ok (.invokevirtual 241, 3) := by decide +kernel
theorem dX7_count_70 : decode cX7_count 70 = .ok (.invokestatic 269, 3) := by decide +kernel
theorem dX7_count_73 : decode cX7_count 73 = .ok (.ireturn, 1) := by decide +kernel
theorem dX7_count_74 : decode cX7_count 74 = .ok (.iconst (-1), 1) := by decide +kernel
theorem dX7_count_75 : decode cX7_count 75 = .ok (.ireturn, 1) := by decide +kernel
theorem dX7_outside_0 : decode cX7_outside 0 = .ok (.iload_n 0, 1) := by decide +kernel
theorem dX7_outside_1 : decode cX7_outside 1 = .ok (.iload_n 1, 1) := by decide +kernel
theorem dX7_outside_2 : decode cX7_outside 2 = .ok (.if_icmp .lt 8, 3) := by decide +kernel
theorem dX7_outside_5 : decode cX7_outside 5 = .ok (.iload_n 0, 1) := by decide +kernel
theorem dX7_outside_6 : decode cX7_outside 6 = .ok (.iload_n 2, 1) := by decide +kernel
theorem dX7_outside_7 : decode cX7_outside 7 = .ok (.if_icmp .le 7, 3) := by decide +kernel
theorem dX7_outside_10 : decode cX7_outside 10 = .ok (.iconst 1, 1) := by decide +kernel
theorem dX7_outside_11 : decode cX7_outside 11 = .ok (.goto 4, 3) := by decide +kernel
theorem dX7_outside_14 : decode cX7_outside 14 = .ok (.iconst 0, 1) := by decide +kernel
theorem dX7_outside_15 : decode cX7_outside 15 = .ok (.ireturn, 1) := by decide +kernel
theorem dX7_isBadTurn_0 : decode cX7_isBadTurn 0 = .ok (.iload_n 0, 1) := by decide +kernel
theorem dX7_isBadTurn_1 : decode cX7_isBadTurn 1 = .ok (.iconst 1, 1) := by decide +kernel
theorem dX7_isBadTurn_2 : decode cX7_isBadTurn 2 = .ok (.sipush 400, 3) := by decide +kernel
theorem dX7_isBadTurn_5 : decode cX7_isBadTurn 5 = .ok (.invokestatic 85, 3) := by decide +kernel
theorem dX7_isBadTurn_8 : decode cX7_isBadTurn 8 = .ok (.ifCond .ne 13, 3) := by decide +kernel
theorem dX7_isBadTurn_11 : decode cX7_isBadTurn 11 = .ok (.iload_n 1, 1) := by decide +kernel
theorem dX7_isBadTurn_12 : decode cX7_isBadTurn 12 = .ok (.iconst 1, 1) := by decide +kernel
theorem dX7_isBadTurn_13 : decode cX7_isBadTurn 13 = .ok (.bipush 9, 2) := by decide +kernel
theorem dX7_isBadTurn_15 : decode cX7_isBadTurn 15 = .ok (.invokestatic 85, 3) := by decide +kernel
theorem dX7_isBadTurn_18 : decode cX7_isBadTurn 18 = .ok (.ifCond .eq 7, 3) := by decide +kernel
theorem dX7_isBadTurn_21 : decode cX7_isBadTurn 21 = .ok (.iconst 1, 1) := by decide +kernel
theorem dX7_isBadTurn_22 : decode cX7_isBadTurn 22 = .ok (.goto 4, 3) := by decide +kernel
theorem dX7_isBadTurn_25 : decode cX7_isBadTurn 25 = .ok (.iconst 0, 1) := by decide +kernel
theorem dX7_isBadTurn_26 : decode cX7_isBadTurn 26 = .ok (.ireturn, 1) := by decide +kernel
theorem dX7_isBadWash_0 : decode cX7_isBadWash 0 = .ok (.iload_n 0, 1) := by decide +kernel
theorem dX7_isBadWash_1 : decode cX7_isBadWash 1 = .ok (.iconst 1, 1) := by decide +kernel
theorem dX7_isBadWash_2 : decode cX7_isBadWash 2 = .ok (.bipush 99, 2) := by decide +kernel
theorem dX7_isBadWash_4 : decode cX7_isBadWash 4 = .ok (.invokestatic 85, 3) := by decide +kernel
theorem dX7_isBadWash_7 : decode cX7_isBadWash 7 = .ok (.ifCond .ne 13, 3) := by decide +kernel
theorem dX7_isBadWash_10 : decode cX7_isBadWash 10 = .ok (.iload_n 1, 1) := by decide +kernel
theorem dX7_isBadWash_11 : decode cX7_isBadWash 11 = .ok (.iconst 0, 1) := by decide +kernel
theorem dX7_isBadWash_12 : decode cX7_isBadWash 12 = .ok (.bipush 99, 2) := by decide +kernel
theorem dX7_isBadWash_14 : decode cX7_isBadWash 14 = .ok (.invokestatic 85, 3) := by decide +kernel
theorem dX7_isBadWash_17 : decode cX7_isBadWash 17 = .ok (.ifCond .eq 7, 3) := by decide +kernel
theorem dX7_isBadWash_20 : decode cX7_isBadWash 20 = .ok (.iconst 1, 1) := by decide +kernel
theorem dX7_isBadWash_21 : decode cX7_isBadWash 21 = .ok (.goto 4, 3) := by decide +kernel
theorem dX7_isBadWash_24 : decode cX7_isBadWash 24 = .ok (.iconst 0, 1) := by decide +kernel
theorem dX7_isBadWash_25 : decode cX7_isBadWash 25 = .ok (.ireturn, 1) := by decide +kernel
theorem dX7_isBadShare_0 : decode cX7_isBadShare 0 = .ok (.iload_n 0, 1) := by decide +kernel
theorem dX7_isBadShare_1 : decode cX7_isBadShare 1 = .ok (.iconst 0, 1) := by decide +kernel
theorem dX7_isBadShare_2 : decode cX7_isBadShare 2 = .ok (.bipush 99, 2) := by decide +kernel
theorem dX7_isBadShare_4 : decode cX7_isBadShare 4 = .ok (.invokestatic 85, 3) := by decide +kernel
theorem dX7_isBadShare_7 : decode cX7_isBadShare 7 = .ok (.ifCond .ne 13, 3) := by decide +kernel
theorem dX7_isBadShare_10 : decode cX7_isBadShare 10 = .ok (.iload_n 1, 1) := by decide +kernel
theorem dX7_isBadShare_11 : decode cX7_isBadShare 11 = .ok (.iconst 1, 1) := by decide +kernel
theorem dX7_isBadShare_12 : decode cX7_isBadShare 12 = .ok (.bipush 99, 2) := by decide +kernel
theorem dX7_isBadShare_14 : decode cX7_isBadShare 14 = .ok (.invokestatic 85, 3) := by decide +kernel
theorem dX7_isBadShare_17 : decode cX7_isBadShare 17 = .ok (.ifCond .eq 7, 3) := by decide +kernel
theorem dX7_isBadShare_20 : decode cX7_isBadShare 20 = .ok (.iconst 1, 1) := by decide +kernel
theorem dX7_isBadShare_21 : decode cX7_isBadShare 21 = .ok (.goto 4, 3) := by decide +kernel
theorem dX7_isBadShare_24 : decode cX7_isBadShare 24 = .ok (.iconst 0, 1) := by decide +kernel
theorem dX7_isBadShare_25 : decode cX7_isBadShare 25 = .ok (.ireturn, 1) := by decide +kernel
theorem dX7_isBadWater_0 : decode cX7_isBadWater 0 = .ok (.iload_n 0, 1) := by decide +kernel
theorem dX7_isBadWater_1 : decode cX7_isBadWater 1 = .ok (.iconst 0, 1) := by decide +kernel
theorem dX7_isBadWater_2 : decode cX7_isBadWater 2 = .ok (.ldc_w 273, 3) := by decide +kernel
theorem dX7_isBadWater_5 : decode cX7_isBadWater 5 = .ok (.invokestatic 85, 3) := by decide +kernel
theorem dX7_isBadWater_8 : decode cX7_isBadWater 8 = .ok (.ifCond .ne 13, 3) := by decide +kernel
theorem dX7_isBadWater_11 : decode cX7_isBadWater 11 = .ok (.iload_n 1, 1) := by decide +kernel
theorem dX7_isBadWater_12 : decode cX7_isBadWater 12 = .ok (.iconst 0, 1) := by decide +kernel
theorem dX7_isBadWater_13 : decode cX7_isBadWater 13 = .ok (.bipush 6, 2) := by decide +kernel
theorem dX7_isBadWater_15 : decode cX7_isBadWater 15 = .ok (.invokestatic 85, 3) := by decide +kernel
theorem dX7_isBadWater_18 : decode cX7_isBadWater 18 = .ok (.ifCond .eq 7, 3) := by decide +kernel
theorem dX7_isBadWater_21 : decode cX7_isBadWater 21 = .ok (.iconst 1, 1) := by decide +kernel
theorem dX7_isBadWater_22 : decode cX7_isBadWater 22 = .ok (.goto 4, 3) := by decide +kernel
theorem dX7_isBadWater_25 : decode cX7_isBadWater 25 = .ok (.iconst 0, 1) := by decide +kernel
theorem dX7_isBadWater_26 : decode cX7_isBadWater 26 = .ok (.ireturn, 1) := by decide +kernel
theorem dX7_isBadRod_0 : decode cX7_isBadRod 0 = .ok (.iload_n 0, 1) := by decide +kernel
theorem dX7_isBadRod_1 : decode cX7_isBadRod 1 = .ok (.iconst 0, 1) := by decide +kernel
theorem dX7_isBadRod_2 : decode cX7_isBadRod 2 = .ok (.bipush 9, 2) := by decide +kernel
theorem dX7_isBadRod_4 : decode cX7_isBadRod 4 = .ok (.invokestatic 85, 3) := by decide +kernel
theorem dX7_isBadRod_7 : decode cX7_isBadRod 7 = .ok (.ifCond .ne 31, 3) := by decide +kernel
theorem dX7_isBadRod_10 : decode cX7_isBadRod 10 = .ok (.iload_n 1, 1) := by decide +kernel
theorem dX7_isBadRod_11 : decode cX7_isBadRod 11 = .ok (.iconst 0, 1) := by decide +kernel
theorem dX7_isBadRod_12 : decode cX7_isBadRod 12 = .ok (.bipush 9, 2) := by decide +kernel
theorem dX7_isBadRod_14 : decode cX7_isBadRod 14 = .ok (.invokestatic 85, 3) := by decide +kernel
theorem dX7_isBadRod_17 : decode cX7_isBadRod 17 = .ok (.ifCond .ne 21, 3) := by decide +kernel
theorem dX7_isBadRod_20 : decode cX7_isBadRod 20 = .ok (.iload_n 2, 1) := by decide +kernel
theorem dX7_isBadRod_21 : decode cX7_isBadRod 21 = .ok (.iconst 0, 1) := by decide +kernel
theorem dX7_isBadRod_22 : decode cX7_isBadRod 22 = .ok (.bipush 9, 2) := by decide +kernel
theorem dX7_isBadRod_24 : decode cX7_isBadRod 24 = .ok (.invokestatic 85, 3) := by decide +kernel
theorem dX7_isBadRod_27 : decode cX7_isBadRod 27 = .ok (.ifCond .ne 11, 3) := by decide +kernel
theorem dX7_isBadRod_30 : decode cX7_isBadRod 30 = .ok (.iload_n 0, 1) := by decide +kernel
theorem dX7_isBadRod_31 : decode cX7_isBadRod 31 = .ok (.iload_n 1, 1) := by decide +kernel
theorem dX7_isBadRod_32 : decode cX7_isBadRod 32 = .ok (.iadd, 1) := by decide +kernel
theorem dX7_isBadRod_33 : decode cX7_isBadRod 33 = .ok (.iload_n 2, 1) := by decide +kernel
theorem dX7_isBadRod_34 : decode cX7_isBadRod 34 = .ok (.iadd, 1) := by decide +kernel
theorem dX7_isBadRod_35 : decode cX7_isBadRod 35 = .ok (.ifCond .ne 7, 3) := by decide +kernel
theorem dX7_isBadRod_38 : decode cX7_isBadRod 38 = .ok (.iconst 1, 1) := by decide +kernel
theorem dX7_isBadRod_39 : decode cX7_isBadRod 39 = .ok (.goto 4, 3) := by decide +kernel
theorem dX7_isBadRod_42 : decode cX7_isBadRod 42 = .ok (.iconst 0, 1) := by decide +kernel
theorem dX7_isBadRod_43 : decode cX7_isBadRod 43 = .ok (.ireturn, 1) := by decide +kernel
theorem dX7_isBadRun_0 : decode cX7_isBadRun 0 = .ok (.aload_n 0, 1) := by decide +kernel
theorem dX7_isBadRun_1 : decode cX7_isBadRun 1 = .ok (.getfield 10, 3) := by decide +kernel
theorem dX7_isBadRun_4 : decode cX7_isBadRun 4 = .ok (.iload_n 1, 1) := by decide +kernel
theorem dX7_isBadRun_5 : decode cX7_isBadRun 5 = .ok (.invokevirtual 135, 3) := by decide +kernel
theorem dX7_isBadRun_8 : decode cX7_isBadRun 8 = .ok (.ifCond .eq 24, 3) := by decide +kernel
theorem dX7_isBadRun_11 : decode cX7_isBadRun 11 = .ok (.iload_n 2, 1) := by decide +kernel
theorem dX7_isBadRun_12 : decode cX7_isBadRun 12 = .ok (.iconst 0, 1) := by decide +kernel
theorem dX7_isBadRun_13 : decode cX7_isBadRun 13 = .ok (.sipush 400, 3) := by decide +kernel
theorem dX7_isBadRun_16 : decode cX7_isBadRun 16 = .ok (.invokestatic 85, 3) := by decide +kernel
theorem dX7_isBadRun_19 : decode cX7_isBadRun 19 = .ok (.ifCond .ne 13, 3) := by decide +kernel
theorem dX7_isBadRun_22 : decode cX7_isBadRun 22 = .ok (.iload_n 3, 1) := by decide +kernel
theorem dX7_isBadRun_23 : decode cX7_isBadRun 23 = .ok (.iconst 1, 1) := by decide +kernel
theorem dX7_isBadRun_24 : decode cX7_isBadRun 24 = .ok (.bipush 9, 2) := by decide +kernel
theorem dX7_isBadRun_26 : decode cX7_isBadRun 26 = .ok (.invokestatic 85, 3) := by decide +kernel
theorem dX7_isBadRun_29 : decode cX7_isBadRun 29 = .ok (.ifCond .eq 7, 3) := by decide +kernel
theorem dX7_isBadRun_32 : decode cX7_isBadRun 32 = .ok (.iconst 1, 1) := by decide +kernel
theorem dX7_isBadRun_33 : decode cX7_isBadRun 33 = .ok (.goto 4, 3) := by decide +kernel
theorem dX7_isBadRun_36 : decode cX7_isBadRun 36 = .ok (.iconst 0, 1) := by decide +kernel
theorem dX7_isBadRun_37 : decode cX7_isBadRun 37 = .ok (.ireturn, 1) := by decide +kernel
theorem dX7_turnChurn_0 : decode cX7_turnChurn 0 = .ok (.iconst 0, 1) := by decide +kernel
theorem dX7_turnChurn_1 : decode cX7_turnChurn 1 = .ok (.istore_n 3, 1) := by decide +kernel
theorem dX7_turnChurn_2 : decode cX7_turnChurn 2 = .ok (.iconst 0, 1) := by decide +kernel
theorem dX7_turnChurn_3 : decode cX7_turnChurn 3 = .ok (.istore 4, 2) := by decide +kernel
theorem dX7_turnChurn_5 : decode cX7_turnChurn 5 = .ok (.iload 4, 2) := by decide +kernel
theorem dX7_turnChurn_7 : decode cX7_turnChurn 7 = .ok (.iload_n 1, 1) := by decide +kernel
theorem dX7_turnChurn_8 : decode cX7_turnChurn 8 = .ok (.if_icmp .ge 27, 3) := by decide +kernel
theorem dX7_turnChurn_11 : decode cX7_turnChurn 11 = .ok (.aload_n 0, 1) := by decide +kernel
theorem dX7_turnChurn_12 : decode cX7_turnChurn 12 = .ok (.getfield 26, 3) := by decide +kernel
theorem dX7_turnChurn_15 : decode cX7_turnChurn 15 = .ok (.aload_n 0, 1) := by decide +kernel
theorem dX7_turnChurn_16 : decode cX7_turnChurn 16 = .ok (.getfield 10, 3) := by decide +kernel
theorem dX7_turnChurn_19 : decode cX7_turnChurn 19 = .ok (.iload_n 2, 1) := by decide +kernel
theorem dX7_turnChurn_20 : decode cX7_turnChurn 20 = .ok (.invokevirtual 162, 3) := by decide +kernel
theorem dX7_turnChurn_23 : decode cX7_turnChurn 23 = .ok (.ifCond .eq 6, 3) := by decide +kernel
theorem dX7_turnChurn_26 : decode cX7_turnChurn 26 = .ok (.iinc 3 1, 3) := by decide +kernel
theorem dX7_turnChurn_29 : decode cX7_turnChurn 29 = .ok (.iinc 4 1, 3) := by decide +kernel
theorem dX7_turnChurn_32 : decode cX7_turnChurn 32 = .ok (.goto (-27), 3) := by decide +kernel
theorem dX7_turnChurn_35 : decode cX7_turnChurn 35 = .ok (.iload_n 3, 1) := by decide +kernel
theorem dX7_turnChurn_36 : decode cX7_turnChurn 36 = .ok (.ireturn, 1) := by decide +kernel
theorem dX7_turnTrialTillCome_0 : decode cX7_turnTrialTillCome 0 = .ok (.iconst 1, 1) := by decide +kernel
theorem dX7_turnTrialTillCome_1 : decode cX7_turnTrialTillCome 1 = .ok (.istore_n 3, 1) := by decide +kernel
theorem dX7_turnTrialTillCome_2 : decode cX7_turnTrialTillCome 2 = .ok (.iload_n 3, 1) := by decide +kernel
theorem dX7_turnTrialTillCome_3 : decode cX7_turnTrialTillCome 3 = .ok (.iload_n 2, 1) := by decide +kernel
theorem dX7_turnTrialTillCome_4 : decode cX7_turnTrialTillCome 4 = .ok (.if_icmp .gt 57, 3) := by decide +kernel
theorem dX7_turnTrialTillCome_7 : decode cX7_turnTrialTillCome 7 = .ok (.aload_n 0, 1) := by decide +kernel
theorem dX7_turnTrialTillCome_8 : decode cX7_turnTrialTillCome 8 = .ok (.getfield 30, 3) := by decide +kernel
theorem dX7_turnTrialTillCome_11 : decode cX7_turnTrialTillCome 11 = .ok (.aload_n 0, 1) := by decide +kernel
theorem dX7_turnTrialTillCome_12 : decode cX7_turnTrialTillCome 12 = .ok (.getfield 10, 3) := by decide +kernel
theorem dX7_turnTrialTillCome_15 : decode cX7_turnTrialTillCome 15 = .ok (.iload_n 1, 1) := by decide +kernel
theorem dX7_turnTrialTillCome_16 : decode cX7_turnTrialTillCome 16 = .ok (.invokevirtual 162, 3) := by decide +kernel
theorem dX7_turnTrialTillCome_19 : decode cX7_turnTrialTillCome 19 = .ok (.istore 4, 2) := by decide +kernel
theorem dX7_turnTrialTillCome_21 : decode cX7_turnTrialTillCome 21 = .ok (.aload_n 0, 1) := by decide +kernel
theorem dX7_turnTrialTillCome_22 : decode cX7_turnTrialTillCome 22 = .ok (.getfield 30, 3) := by decide +kernel
theorem dX7_turnTrialTillCome_25 : decode cX7_turnTrialTillCome 25 = .ok (.invokevirtual 190, 3) := by decide +kernel
theorem dX7_turnTrialTillCome_28 : decode cX7_turnTrialTillCome 28 = .ok (.ifCond .eq 5, 3) := by decide +kernel
theorem dX7_turnTrialTillCome_31 : decode cX7_turnTrialTillCome 31 = .ok (.iload_n 3, 1) := by decide +kernel
theorem dX7_turnTrialTillCome_32 : decode cX7_turnTrialTillCome 32 = .ok (.ireturn, 1) := by decide +kernel
theorem dX7_turnTrialTillCome_33 : decode cX7_turnTrialTillCome 33 = .ok (.iload 4, 2) := by decide +kernel
theorem dX7_turnTrialTillCome_35 : decode cX7_turnTrialTillCome 35 = .ok (.ifCond .eq 17, 3) := by decide +kernel
theorem dX7_turnTrialTillCome_38 : decode cX7_turnTrialTillCome 38 = .ok (.aload_n 0, 1) := by decide +kernel
theorem dX7_turnTrialTillCome_39 : decode cX7_turnTrialTillCome 39 = .ok (.getfield 30, 3) := by decide +kernel
theorem dX7_turnTrialTillCome_42 : decode cX7_turnTrialTillCome 42 = .ok (.aload_n 0, 1) := by decide +kernel
theorem dX7_turnTrialTillCome_43 : decode cX7_turnTrialTillCome 43 = .ok (.getfield 10, 3) := by decide +kernel
theorem dX7_turnTrialTillCome_46 : decode cX7_turnTrialTillCome 46 = .ok (.invokevirtual 274, 3) := by decide +kernel
theorem dX7_turnTrialTillCome_49 : decode cX7_turnTrialTillCome 49 = .ok (.ifCond .ne 6, 3) := by decide +kernel
theorem dX7_turnTrialTillCome_52 : decode cX7_turnTrialTillCome 52 = .ok (.bipush (-4), 2) := by decide +kernel
theorem dX7_turnTrialTillCome_54 : decode cX7_turnTrialTillCome 54 = .ok (.ireturn, 1) := by decide +kernel
theorem dX7_turnTrialTillCome_55 : decode cX7_turnTrialTillCome 55 = .ok (.iinc 3 1, 3) := by decide +kernel
theorem dX7_turnTrialTillCome_58 : decode cX7_turnTrialTillCome 58 = .ok (.goto (-56), 3) := by decide +kernel
theorem dX7_turnTrialTillCome_61 : decode cX7_turnTrialTillCome 61 = .ok (.bipush (-4), 2) := by decide +kernel
theorem dX7_turnTrialTillCome_63 : decode cX7_turnTrialTillCome 63 = .ok (.ireturn, 1) := by decide +kernel
theorem dX7_findBest_0 : decode cX7_findBest 0 = .ok (.aload_n 0, 1) := by decide +kernel
theorem dX7_findBest_1 : decode cX7_findBest 1 = .ok (.getfield 36, 3) := by decide +kernel
theorem dX7_findBest_4 : decode cX7_findBest 4 = .ok (.iconst 0, 1) := by decide +kernel
theorem dX7_findBest_5 : decode cX7_findBest 5 = .ok (.putfield 173, 3) := by decide +kernel
theorem dX7_findBest_8 : decode cX7_findBest 8 = .ok (.iconst 0, 1) := by decide +kernel
theorem dX7_findBest_9 : decode cX7_findBest 9 = .ok (.istore_n 2, 1) := by decide +kernel
theorem dX7_findBest_10 : decode cX7_findBest 10 = .ok (.iload_n 2, 1) := by decide +kernel
theorem dX7_findBest_11 : decode cX7_findBest 11 = .ok (.sipush 400, 3) := by decide +kernel
theorem dX7_findBest_14 : decode cX7_findBest 14 = .ok (.if_icmp .gt 96, 3) := by decide +kernel
theorem dX7_findBest_17 : decode cX7_findBest 17 = .ok (.iconst 1, 1) := by decide +kernel
theorem dX7_findBest_18 : decode cX7_findBest 18 = .ok (.istore_n 3, 1) := by decide +kernel
theorem dX7_findBest_19 : decode cX7_findBest 19 = .ok (.iload_n 3, 1) := by decide +kernel
theorem dX7_findBest_20 : decode cX7_findBest 20 = .ok (.bipush 9, 2) := by decide +kernel
theorem dX7_findBest_22 : decode cX7_findBest 22 = .ok (.if_icmp .gt 82, 3) := by decide +kernel
theorem dX7_findBest_25 : decode cX7_findBest 25 = .ok (.aload_n 0, 1) := by decide +kernel
theorem dX7_findBest_26 : decode cX7_findBest 26 = .ok (.getfield 30, 3) := by decide +kernel
theorem dX7_findBest_29 : decode cX7_findBest 29 = .ok (.aload_n 0, 1) := by decide +kernel
theorem dX7_findBest_30 : decode cX7_findBest 30 = .ok (.getfield 10, 3) := by decide +kernel
theorem dX7_findBest_33 : decode cX7_findBest 33 = .ok (.iload_n 1, 1) := by decide +kernel
theorem dX7_findBest_34 : decode cX7_findBest 34 = .ok (.iload_n 2, 1) := by decide +kernel
theorem dX7_findBest_35 : decode cX7_findBest 35 = .ok (.invokevirtual 108, 3) := by decide +kernel
theorem dX7_findBest_38 : decode cX7_findBest 38 = .ok (.aload_n 0, 1) := by decide +kernel
theorem dX7_findBest_39 : decode cX7_findBest 39 = .ok (.iload_n 3, 1) := by decide +kernel
theorem dX7_findBest_40 : decode cX7_findBest 40 = .ok (.sipush 400, 3) := by decide +kernel
theorem dX7_findBest_43 : decode cX7_findBest 43 = .ok (.invokevirtual 166, 3) := by decide +kernel
theorem dX7_findBest_46 : decode cX7_findBest 46 = .ok (.istore 4, 2) := by decide +kernel
theorem dX7_findBest_48 : decode cX7_findBest 48 = .ok (.iload 4, 2) := by decide +kernel
theorem dX7_findBest_50 : decode cX7_findBest 50 = .ok (.bipush (-4), 2) := by decide +kernel
theorem dX7_findBest_52 : decode cX7_findBest 52 = .ok (.if_icmp .eq 46, 3) := by decide +kernel
theorem dX7_findBest_55 : decode cX7_findBest 55 = .ok (.aload_n 0, 1) := by decide +kernel
theorem dX7_findBest_56 : decode cX7_findBest 56 = .ok (.getfield 10, 3) := by decide +kernel
theorem dX7_findBest_59 : decode cX7_findBest 59 = .ok (.aload_n 0, 1) := by decide +kernel
theorem dX7_findBest_60 : decode cX7_findBest 60 = .ok (.getfield 30, 3) := by decide +kernel
theorem dX7_findBest_63 : decode cX7_findBest 63 = .ok (.aload_n 0, 1) := by decide +kernel
theorem dX7_findBest_64 : decode cX7_findBest 64 = .ok (.getfield 10, 3) := by decide +kernel
theorem dX7_findBest_67 : decode cX7_findBest 67 = .ok (.invokevirtual 274, 3) := by decide +kernel
theorem dX7_findBest_70 : decode cX7_findBest 70 = .ok (.invokevirtual 184, 3) := by decide +kernel
theorem dX7_findBest_73 : decode cX7_findBest 73 = .ok (.ifCond .eq 25, 3) := by decide +kernel
theorem dX7_findBest_76 : decode cX7_findBest 76 = .ok (.aload_n 0, 1) := by decide +kernel
theorem dX7_findBest_77 : decode cX7_findBest 77 = .ok (.getfield 36, 3) := by decide +kernel
theorem dX7_findBest_80 : decode cX7_findBest 80 = .ok (.iload_n 2, 1) := by decide +kernel
theorem dX7_findBest_81 : decode cX7_findBest 81 = .ok (.iload_n 3, 1) := by decide +kernel
theorem dX7_findBest_82 : decode cX7_findBest 82 = .ok (.iload 4, 2) := by decide +kernel
theorem dX7_findBest_84 : decode cX7_findBest 84 = .ok (.aload_n 0, 1) := by decide +kernel
theorem dX7_findBest_85 : decode cX7_findBest 85 = .ok (.getfield 30, 3) := by decide +kernel
theorem dX7_findBest_88 : decode cX7_findBest 88 = .ok (.aload_n 0, 1) := by decide +kernel
theorem dX7_findBest_89 : decode cX7_findBest 89 = .ok (.getfield 10, 3) := by decide +kernel
theorem dX7_findBest_92 : decode cX7_findBest 92 = .ok (.invokevirtual 278, 3) := by decide +kernel
theorem dX7_findBest_95 : decode cX7_findBest 95 = .ok (.invokevirtual 281, 3) := by decide +kernel
theorem dX7_findBest_98 : decode cX7_findBest 98 = .ok (.iinc 3 1, 3) := by decide +kernel
theorem dX7_findBest_101 : decode cX7_findBest 101 = .ok (.goto (-82), 3) := by decide +kernel
theorem dX7_findBest_104 : decode cX7_findBest 104 = .ok (.iinc 2 20, 3) := by decide +kernel
theorem dX7_findBest_107 : decode cX7_findBest 107 = .ok (.goto (-97), 3) := by decide +kernel
theorem dX7_findBest_110 : decode cX7_findBest 110 = .ok (.return_, 1) := by decide +kernel
theorem dX7_isAsSeen_0 : decode cX7_isAsSeen 0 = .ok (.iconst 0, 1) := by decide +kernel
theorem dX7_isAsSeen_1 : decode cX7_isAsSeen 1 = .ok (.istore_n 3, 1) := by decide +kernel
theorem dX7_isAsSeen_2 : decode cX7_isAsSeen 2 = .ok (.iload_n 3, 1) := by decide +kernel
theorem dX7_isAsSeen_3 : decode cX7_isAsSeen 3 = .ok (.aload_n 0, 1) := by decide +kernel
theorem dX7_isAsSeen_4 : decode cX7_isAsSeen 4 = .ok (.getfield 112, 3) := by decide +kernel
theorem dX7_isAsSeen_7 : decode cX7_isAsSeen 7 = .ok (.if_icmp .ge 112, 3) := by decide +kernel
theorem dX7_isAsSeen_10 : decode cX7_isAsSeen 10 = .ok (.iload_n 3, 1) := by decide +kernel
theorem dX7_isAsSeen_11 : decode cX7_isAsSeen 11 = .ok (.aload_n 0, 1) := by decide +kernel
theorem dX7_isAsSeen_12 : decode cX7_isAsSeen 12 = .ok (.getfield 54, 3) := by decide +kernel
theorem dX7_isAsSeen_15 : decode cX7_isAsSeen 15 = .ok (.arraylength, 1) := by decide +kernel
theorem dX7_isAsSeen_16 : decode cX7_isAsSeen 16 = .ok (.if_icmp .ge 103, 3) := by decide +kernel
theorem dX7_isAsSeen_19 : decode cX7_isAsSeen 19 = .ok (.iload_n 3, 1) := by decide +kernel
theorem dX7_isAsSeen_20 : decode cX7_isAsSeen 20 = .ok (.aload_n 0, 1) := by decide +kernel
theorem dX7_isAsSeen_21 : decode cX7_isAsSeen 21 = .ok (.getfield 58, 3) := by decide +kernel
theorem dX7_isAsSeen_24 : decode cX7_isAsSeen 24 = .ok (.arraylength, 1) := by decide +kernel
theorem dX7_isAsSeen_25 : decode cX7_isAsSeen 25 = .ok (.if_icmp .ge 94, 3) := by decide +kernel
theorem dX7_isAsSeen_28 : decode cX7_isAsSeen 28 = .ok (.aload_n 0, 1) := by decide +kernel
theorem dX7_isAsSeen_29 : decode cX7_isAsSeen 29 = .ok (.getfield 58, 3) := by decide +kernel
theorem dX7_isAsSeen_32 : decode cX7_isAsSeen 32 = .ok (.iload_n 3, 1) := by decide +kernel
theorem dX7_isAsSeen_33 : decode cX7_isAsSeen 33 = .ok (.iaload, 1) := by decide +kernel
theorem dX7_isAsSeen_34 : decode cX7_isAsSeen 34 = .ok (.ifCond .le 7, 3) := by decide +kernel
theorem dX7_isAsSeen_37 : decode cX7_isAsSeen 37 = .ok (.iconst 1, 1) := by decide +kernel
theorem dX7_isAsSeen_38 : decode cX7_isAsSeen 38 = .ok (.goto 4, 3) := by decide +kernel
theorem dX7_isAsSeen_41 : decode cX7_isAsSeen 41 = .ok (.iconst 0, 1) := by decide +kernel
theorem dX7_isAsSeen_42 : decode cX7_isAsSeen 42 = .ok (.istore 4, 2) := by decide +kernel
theorem dX7_isAsSeen_44 : decode cX7_isAsSeen 44 = .ok (.iload 4, 2) := by decide +kernel
theorem dX7_isAsSeen_46 : decode cX7_isAsSeen 46 = .ok (.ifCond .eq 12, 3) := by decide +kernel
theorem dX7_isAsSeen_49 : decode cX7_isAsSeen 49 = .ok (.aload_n 0, 1) := by decide +kernel
theorem dX7_isAsSeen_50 : decode cX7_isAsSeen 50 = .ok (.getfield 58, 3) := by decide +kernel
theorem dX7_isAsSeen_53 : decode cX7_isAsSeen 53 = .ok (.iload_n 3, 1) := by decide +kernel
theorem dX7_isAsSeen_54 : decode cX7_isAsSeen 54 = .ok (.iaload, 1) := by decide +kernel
theorem dX7_isAsSeen_55 : decode cX7_isAsSeen 55 = .ok (.goto 6, 3) := by decide +kernel
theorem dX7_isAsSeen_58 : decode cX7_isAsSeen 58 = .ok (.sipush 400, 3) := by decide +kernel
theorem dX7_isAsSeen_61 : decode cX7_isAsSeen 61 = .ok (.istore 5, 2) := by decide +kernel
theorem dX7_isAsSeen_63 : decode cX7_isAsSeen 63 = .ok (.aload_n 0, 1) := by decide +kernel
theorem dX7_isAsSeen_64 : decode cX7_isAsSeen 64 = .ok (.getfield 30, 3) := by decide +kernel
theorem dX7_isAsSeen_67 : decode cX7_isAsSeen 67 = .ok (.aload_n 0, 1) := by decide +kernel
theorem dX7_isAsSeen_68 : decode cX7_isAsSeen 68 = .ok (.getfield 10, 3) := by decide +kernel
theorem dX7_isAsSeen_71 : decode cX7_isAsSeen 71 = .ok (.aload_n 0, 1) := by decide +kernel
theorem dX7_isAsSeen_72 : decode cX7_isAsSeen 72 = .ok (.getfield 54, 3) := by decide +kernel
theorem dX7_isAsSeen_75 : decode cX7_isAsSeen 75 = .ok (.iload_n 3, 1) := by decide +kernel
theorem dX7_isAsSeen_76 : decode cX7_isAsSeen 76 = .ok (.iaload, 1) := by decide +kernel
theorem dX7_isAsSeen_77 : decode cX7_isAsSeen 77 = .ok (.iload_n 1, 1) := by decide +kernel
theorem dX7_isAsSeen_78 : decode cX7_isAsSeen 78 = .ok (.invokevirtual 108, 3) := by decide +kernel
theorem dX7_isAsSeen_81 : decode cX7_isAsSeen 81 = .ok (.aload_n 0, 1) := by decide +kernel
theorem dX7_isAsSeen_82 : decode cX7_isAsSeen 82 = .ok (.iload_n 2, 1) := by decide +kernel
theorem dX7_isAsSeen_83 : decode cX7_isAsSeen 83 = .ok (.iload 5, 2) := by decide +kernel
theorem dX7_isAsSeen_85 : decode cX7_isAsSeen 85 = .ok (.invokevirtual 166, 3) := by decide +kernel
theorem dX7_isAsSeen_88 : decode cX7_isAsSeen 88 = .ok (.istore 6, 2) := by decide +kernel
theorem dX7_isAsSeen_90 : decode cX7_isAsSeen 90 = .ok (.iload 6, 2) := by decide +kernel
theorem dX7_isAsSeen_92 : decode cX7_isAsSeen 92 = .ok (.iload 4, 2) := by decide +kernel
theorem dX7_isAsSeen_94 : decode cX7_isAsSeen 94 = .ok (.ifCond .eq 12, 3) := by decide +kernel
theorem dX7_isAsSeen_97 : decode cX7_isAsSeen 97 = .ok (.aload_n 0, 1) := by decide +kernel
theorem dX7_isAsSeen_98 : decode cX7_isAsSeen 98 = .ok (.getfield 58, 3) := by decide +kernel
theorem dX7_isAsSeen_101 : decode cX7_isAsSeen 101 = .ok (.iload_n 3, 1) := by decide +kernel
theorem dX7_isAsSeen_102 : decode cX7_isAsSeen 102 = .ok (.iaload, 1) := by decide +kernel
theorem dX7_isAsSeen_103 : decode cX7_isAsSeen 103 = .ok (.goto 5, 3) := by decide +kernel
theorem dX7_isAsSeen_106 : decode cX7_isAsSeen 106 = .ok (.bipush (-4), 2) := by decide +kernel
theorem dX7_isAsSeen_108 : decode cX7_isAsSeen 108 = .ok (.if_icmp .eq 5, 3) := by decide +kernel
theorem dX7_isAsSeen_111 : decode cX7_isAsSeen 111 = .ok (.iconst 0, 1) := by decide +kernel
theorem dX7_isAsSeen_112 : decode cX7_isAsSeen 112 = .ok (.ireturn, 1) := by decide +kernel
theorem dX7_isAsSeen_113 : decode cX7_isAsSeen 113 = .ok (.iinc 3 1, 3) := by decide +kernel
theorem dX7_isAsSeen_116 : decode cX7_isAsSeen 116 = .ok (.goto (-114), 3) := by decide +kernel
theorem dX7_isAsSeen_119 : decode cX7_isAsSeen 119 = .ok (.iconst 1, 1) := by decide +kernel
theorem dX7_isAsSeen_120 : decode cX7_isAsSeen 120 = .ok (.ireturn, 1) := by decide +kernel
theorem dX7_tryDeed_0 : decode cX7_tryDeed 0 = .ok (.aload_n 0, 1) := by decide +kernel
theorem dX7_tryDeed_1 : decode cX7_tryDeed 1 = .ok (.getfield 30, 3) := by decide +kernel
theorem dX7_tryDeed_4 : decode cX7_tryDeed 4 = .ok (.aload_n 0, 1) := by decide +kernel
theorem dX7_tryDeed_5 : decode cX7_tryDeed 5 = .ok (.getfield 26, 3) := by decide +kernel
theorem dX7_tryDeed_8 : decode cX7_tryDeed 8 = .ok (.invokevirtual 197, 3) := by decide +kernel
theorem dX7_tryDeed_11 : decode cX7_tryDeed 11 = .ok (.iload_n 1, 1) := by decide +kernel
theorem dX7_tryDeed_12 : decode cX7_tryDeed 12 = .ok (.iconst 1, 1) := by decide +kernel
theorem dX7_tryDeed_13 : decode cX7_tryDeed 13 = .ok (.if_icmp .ne 13, 3) := by decide +kernel
theorem dX7_tryDeed_16 : decode cX7_tryDeed 16 = .ok (.aload_n 0, 1) := by decide +kernel
theorem dX7_tryDeed_17 : decode cX7_tryDeed 17 = .ok (.getfield 30, 3) := by decide +kernel
theorem dX7_tryDeed_20 : decode cX7_tryDeed 20 = .ok (.invokevirtual 148, 3) := by decide +kernel
theorem dX7_tryDeed_23 : decode cX7_tryDeed 23 = .ok (.goto 60, 3) := by decide +kernel
theorem dX7_tryDeed_26 : decode cX7_tryDeed 26 = .ok (.iload_n 1, 1) := by decide +kernel
theorem dX7_tryDeed_27 : decode cX7_tryDeed 27 = .ok (.iconst 2, 1) := by decide +kernel
theorem dX7_tryDeed_28 : decode cX7_tryDeed 28 = .ok (.if_icmp .ne 29, 3) := by decide +kernel
theorem dX7_tryDeed_31 : decode cX7_tryDeed 31 = .ok (.aload_n 0, 1) := by decide +kernel
theorem dX7_tryDeed_32 : decode cX7_tryDeed 32 = .ok (.getfield 30, 3) := by decide +kernel
theorem dX7_tryDeed_35 : decode cX7_tryDeed 35 = .ok (.sipush 400, 3) := by decide +kernel
theorem dX7_tryDeed_38 : decode cX7_tryDeed 38 = .ok (.aload_n 0, 1) := by decide +kernel
theorem dX7_tryDeed_39 : decode cX7_tryDeed 39 = .ok (.getfield 30, 3) := by decide +kernel
theorem dX7_tryDeed_42 : decode cX7_tryDeed 42 = .ok (.getfield 68, 3) := by decide +kernel
theorem dX7_tryDeed_45 : decode cX7_tryDeed 45 = .ok (.bipush 20, 2) := by decide +kernel
theorem dX7_tryDeed_47 : decode cX7_tryDeed 47 = .ok (.iadd, 1) := by decide +kernel
theorem dX7_tryDeed_48 : decode cX7_tryDeed 48 = .ok (.invokestatic 285, 3) := by decide +kernel
theorem dX7_tryDeed_51 : decode cX7_tryDeed 51 = .ok (.putfield 68, 3) := by decide +kernel
theorem dX7_tryDeed_54 : decode cX7_tryDeed 54 = .ok (.goto 29, 3) := by decide +kernel
theorem dX7_tryDeed_57 : decode cX7_tryDeed 57 = .ok (.iload_n 1, 1) := by decide +kernel
theorem dX7_tryDeed_58 : decode cX7_tryDeed 58 = .ok (.iconst 3, 1) := by decide +kernel
theorem dX7_tryDeed_59 : decode cX7_tryDeed 59 = .ok (.if_icmp .ne 24, 3) := by decide +kernel
theorem dX7_tryDeed_62 : decode cX7_tryDeed 62 = .ok (.aload_n 0, 1) := by decide +kernel
theorem dX7_tryDeed_63 : decode cX7_tryDeed 63 = .ok (.getfield 30, 3) := by decide +kernel
theorem dX7_tryDeed_66 : decode cX7_tryDeed 66 = .ok (.iconst 0, 1) := by decide +kernel
theorem dX7_tryDeed_67 : decode cX7_tryDeed 67 = .ok (.aload_n 0, 1) := by decide +kernel
theorem dX7_tryDeed_68 : decode cX7_tryDeed 68 = .ok (.getfield 30, 3) := by decide +kernel
theorem dX7_tryDeed_71 : decode cX7_tryDeed 71 = .ok (.getfield 68, 3) := by decide +kernel
theorem dX7_tryDeed_74 : decode cX7_tryDeed 74 = .ok (.bipush 20, 2) := by decide +kernel
theorem dX7_tryDeed_76 : decode cX7_tryDeed 76 = .ok (.isub, 1) := by decide +kernel
theorem dX7_tryDeed_77 : decode cX7_tryDeed 77 = .ok (.invokestatic 290, 3) := by decide +kernel
theorem dX7_tryDeed_80 : decode cX7_tryDeed 80 = .ok (.putfield 68, 3) := by decide +kernel
theorem dX7_tryDeed_83 : decode cX7_tryDeed 83 = .ok (.return_, 1) := by decide +kernel
theorem dX7_workWater_0 : decode cX7_workWater 0 = .ok (.iload_n 1, 1) := by decide +kernel
theorem dX7_workWater_1 : decode cX7_workWater 1 = .ok (.istore_n 3, 1) := by decide +kernel
theorem dX7_workWater_2 : decode cX7_workWater 2 = .ok (.iconst 0, 1) := by decide +kernel
theorem dX7_workWater_3 : decode cX7_workWater 3 = .ok (.istore 4, 2) := by decide +kernel
theorem dX7_workWater_5 : decode cX7_workWater 5 = .ok (.iload 4, 2) := by decide +kernel
theorem dX7_workWater_7 : decode cX7_workWater 7 = .ok (.aload_n 0, 1) := by decide +kernel
theorem dX7_workWater_8 : decode cX7_workWater 8 = .ok (.getfield 61, 3) := by decide +kernel
theorem dX7_workWater_11 : decode cX7_workWater 11 = .ok (.arraylength, 1) := by decide +kernel
theorem dX7_workWater_12 : decode cX7_workWater 12 = .ok (.if_icmp .ge 25, 3) := by decide +kernel
theorem dX7_workWater_15 : decode cX7_workWater 15 = .ok (.aload_n 0, 1) := by decide +kernel
theorem dX7_workWater_16 : decode cX7_workWater 16 = .ok (.getfield 61, 3) := by decide +kernel
theorem dX7_workWater_19 : decode cX7_workWater 19 = .ok (.iload 4, 2) := by decide +kernel
theorem dX7_workWater_21 : decode cX7_workWater 21 = .ok (.iload_n 3, 1) := by decide +kernel
theorem dX7_workWater_22 : decode cX7_workWater 22 = .ok (.bipush 10, 2) := by decide +kernel
theorem dX7_workWater_24 : decode cX7_workWater 24 = .ok (.irem, 1) := by decide +kernel
theorem dX7_workWater_25 : decode cX7_workWater 25 = .ok (.iastore, 1) := by decide +kernel
theorem dX7_workWater_26 : decode cX7_workWater 26 = .ok (.iload_n 3, 1) := by decide +kernel
theorem dX7_workWater_27 : decode cX7_workWater 27 = .ok (.bipush 10, 2) := by decide +kernel
theorem dX7_workWater_29 : decode cX7_workWater 29 = .ok (.idiv, 1) := by decide +kernel
theorem dX7_workWater_30 : decode cX7_workWater 30 = .ok (.istore_n 3, 1) := by decide +kernel
theorem dX7_workWater_31 : decode cX7_workWater 31 = .ok (.iinc 4 1, 3) := by decide +kernel
theorem dX7_workWater_34 : decode cX7_workWater 34 = .ok (.goto (-29), 3) := by decide +kernel
theorem dX7_workWater_37 : decode cX7_workWater 37 = .ok (.iconst 0, 1) := by decide +kernel
theorem dX7_workWater_38 : decode cX7_workWater 38 = .ok (.istore 4, 2) := by decide +kernel
theorem dX7_workWater_40 : decode cX7_workWater 40 = .ok (.iload 4, 2) := by decide +kernel
theorem dX7_workWater_42 : decode cX7_workWater 42 = .ok (.iload_n 2, 1) := by decide +kernel
theorem dX7_workWater_43 : decode cX7_workWater 43 = .ok (.if_icmp .ge 57, 3) := by decide +kernel
theorem dX7_workWater_46 : decode cX7_workWater 46 = .ok (.iconst 1, 1) := by decide +kernel
theorem dX7_workWater_47 : decode cX7_workWater 47 = .ok (.istore 5, 2) := by decide +kernel
theorem dX7_workWater_49 : decode cX7_workWater 49 = .ok (.iload 5, 2) := by decide +kernel
theorem dX7_workWater_51 : decode cX7_workWater 51 = .ok (.aload_n 0, 1) := by decide +kernel
theorem dX7_workWater_52 : decode cX7_workWater 52 = .ok (.getfield 61, 3) := by decide +kernel
theorem dX7_workWater_55 : decode cX7_workWater 55 = .ok (.arraylength, 1) := by decide +kernel
theorem dX7_workWater_56 : decode cX7_workWater 56 = .ok (.if_icmp .ge 38, 3) := by decide +kernel
theorem dX7_workWater_59 : decode cX7_workWater 59 = .ok (.aload_n 0, 1) := by decide +kernel
theorem dX7_workWater_60 : decode cX7_workWater 60 = .ok (.getfield 61, 3) := by decide +kernel
theorem dX7_workWater_63 : decode cX7_workWater 63 = .ok (.iload 5, 2) := by decide +kernel
theorem dX7_workWater_65 : decode cX7_workWater 65 = .ok (.iconst 1, 1) := by decide +kernel
theorem dX7_workWater_66 : decode cX7_workWater 66 = .ok (.isub, 1) := by decide +kernel
theorem dX7_workWater_67 : decode cX7_workWater 67 = .ok (.dup2, 1) := by decide +kernel
theorem dX7_workWater_68 : decode cX7_workWater 68 = .ok (.iaload, 1) := by decide +kernel
theorem dX7_workWater_69 : decode cX7_workWater 69 = .ok (.iconst 2, 1) := by decide +kernel
theorem dX7_workWater_70 : decode cX7_workWater 70 = .ok (.aload_n 0, 1) := by decide +kernel
theorem dX7_workWater_71 : decode cX7_workWater 71 = .ok (.getfield 61, 3) := by decide +kernel
theorem dX7_workWater_74 : decode cX7_workWater 74 = .ok (.iload 5, 2) := by decide +kernel
theorem dX7_workWater_76 : decode cX7_workWater 76 = .ok (.iaload, 1) := by decide +kernel
theorem dX7_workWater_77 : decode cX7_workWater 77 = .ok (.imul, 1) := by decide +kernel
theorem dX7_workWater_78 : decode cX7_workWater 78 = .ok (.iadd, 1) := by decide +kernel
theorem dX7_workWater_79 : decode cX7_workWater 79 = .ok (.iastore, 1) := by decide +kernel
theorem dX7_workWater_80 : decode cX7_workWater 80 = .ok (.aload_n 0, 1) := by decide +kernel
theorem dX7_workWater_81 : decode cX7_workWater 81 = .ok (.getfield 61, 3) := by decide +kernel
theorem dX7_workWater_84 : decode cX7_workWater 84 = .ok (.iload 5, 2) := by decide +kernel
theorem dX7_workWater_86 : decode cX7_workWater 86 = .ok (.iconst 0, 1) := by decide +kernel
theorem dX7_workWater_87 : decode cX7_workWater 87 = .ok (.iastore, 1) := by decide +kernel
theorem dX7_workWater_88 : decode cX7_workWater 88 = .ok (.iinc 5 1, 3) := by decide +kernel
theorem dX7_workWater_91 : decode cX7_workWater 91 = .ok (.goto (-42), 3) := by decide +kernel
theorem dX7_workWater_94 : decode cX7_workWater 94 = .ok (.iinc 4 1, 3) := by decide +kernel
theorem dX7_workWater_97 : decode cX7_workWater 97 = .ok (.goto (-57), 3) := by decide +kernel
theorem dX7_workWater_100 : decode cX7_workWater 100 = .ok (.return_, 1) := by decide +kernel
theorem dX7_chancesAbove_0 : decode cX7_chancesAbove 0 = .ok (.iload_n 0, 1) := by decide +kernel
theorem dX7_chancesAbove_1 : decode cX7_chancesAbove 1 = .ok (.iconst 1, 1) := by decide +kernel
theorem dX7_chancesAbove_2 : decode cX7_chancesAbove 2 = .ok (.iadd, 1) := by decide +kernel
theorem dX7_chancesAbove_3 : decode cX7_chancesAbove 3 = .ok (.bipush 16, 2) := by decide +kernel
theorem dX7_chancesAbove_5 : decode cX7_chancesAbove 5 = .ok (.if_icmp .le 7, 3) := by decide +kernel
theorem dX7_chancesAbove_8 : decode cX7_chancesAbove 8 = .ok (.iload_n 1, 1) := by decide +kernel
theorem dX7_chancesAbove_9 : decode cX7_chancesAbove 9 = .ok (.goto 4, 3) := by decide +kernel
theorem dX7_chancesAbove_12 : decode cX7_chancesAbove 12 = .ok (.iconst 0, 1) := by decide +kernel
theorem dX7_chancesAbove_13 : decode cX7_chancesAbove 13 = .ok (.iload_n 0, 1) := by decide +kernel
theorem dX7_chancesAbove_14 : decode cX7_chancesAbove 14 = .ok (.bipush 16, 2) := by decide +kernel
theorem dX7_chancesAbove_16 : decode cX7_chancesAbove 16 = .ok (.if_icmp .le 7, 3) := by decide +kernel
theorem dX7_chancesAbove_19 : decode cX7_chancesAbove 19 = .ok (.iload_n 2, 1) := by decide +kernel
theorem dX7_chancesAbove_20 : decode cX7_chancesAbove 20 = .ok (.goto 4, 3) := by decide +kernel
theorem dX7_chancesAbove_23 : decode cX7_chancesAbove 23 = .ok (.iconst 0, 1) := by decide +kernel
theorem dX7_chancesAbove_24 : decode cX7_chancesAbove 24 = .ok (.iadd, 1) := by decide +kernel
theorem dX7_chancesAbove_25 : decode cX7_chancesAbove 25 = .ok (.iload_n 0, 1) := by decide +kernel
theorem dX7_chancesAbove_26 : decode cX7_chancesAbove 26 = .ok (.iconst 1, 1) := by decide +kernel
theorem dX7_chancesAbove_27 : decode cX7_chancesAbove 27 = .ok (.isub, 1) := by decide +kernel
theorem dX7_chancesAbove_28 : decode cX7_chancesAbove 28 = .ok (.bipush 16, 2) := by decide +kernel
theorem dX7_chancesAbove_30 : decode cX7_chancesAbove 30 = .ok (.if_icmp .le 7, 3) := by decide +kernel
theorem dX7_chancesAbove_33 : decode cX7_chancesAbove 33 = .ok (.iload_n 3, 1) := by decide +kernel
theorem dX7_chancesAbove_34 : decode cX7_chancesAbove 34 = .ok (.goto 4, 3) := by decide +kernel
theorem dX7_chancesAbove_37 : decode cX7_chancesAbove 37 = .ok (.iconst 0, 1) := by decide +kernel
theorem dX7_chancesAbove_38 : decode cX7_chancesAbove 38 = .ok (.iadd, 1) := by decide +kernel
theorem dX7_chancesAbove_39 : decode cX7_chancesAbove 39 = .ok (.ireturn, 1) := by decide +kernel
theorem dX7_imageAt_0 : decode cX7_imageAt 0 = .ok (.iload_n 1, 1) := by decide +kernel
theorem dX7_imageAt_1 : decode cX7_imageAt 1 = .ok (.ifCond .lt 21, 3) := by decide +kernel
theorem dX7_imageAt_4 : decode cX7_imageAt 4 = .ok (.iload_n 1, 1) := by decide +kernel
theorem dX7_imageAt_5 : decode cX7_imageAt 5 = .ok (.aload_n 0, 1) := by decide +kernel
theorem dX7_imageAt_6 : decode cX7_imageAt 6 = .ok (.getfield 43, 3) := by decide +kernel
theorem dX7_imageAt_9 : decode cX7_imageAt 9 = .ok (.arraylength, 1) := by decide +kernel
theorem dX7_imageAt_10 : decode cX7_imageAt 10 = .ok (.if_icmp .ge 12, 3) := by decide +kernel
theorem dX7_imageAt_13 : decode cX7_imageAt 13 = .ok (.aload_n 0, 1) := by decide +kernel
theorem dX7_imageAt_14 : decode cX7_imageAt 14 = .ok (.getfield 43, 3) := by decide +kernel
theorem dX7_imageAt_17 : decode cX7_imageAt 17 = .ok (.iload_n 1, 1) := by decide +kernel
theorem dX7_imageAt_18 : decode cX7_imageAt 18 = .ok (.aaload, 1) := by decide +kernel
theorem dX7_imageAt_19 : decode cX7_imageAt 19 = .ok (.goto 4, 3) := by decide +kernel
theorem dX7_imageAt_22 : decode cX7_imageAt 22 = .ok (.aconst_null, 1) := by decide +kernel
theorem dX7_imageAt_23 : decode cX7_imageAt 23 = .ok (.areturn, 1) := by decide +kernel
theorem dX7_sheetAt_0 : decode cX7_sheetAt 0 = .ok (.iload_n 1, 1) := by decide +kernel
theorem dX7_sheetAt_1 : decode cX7_sheetAt 1 = .ok (.ifCond .lt 21, 3) := by decide +kernel
theorem dX7_sheetAt_4 : decode cX7_sheetAt 4 = .ok (.iload_n 1, 1) := by decide +kernel
theorem dX7_sheetAt_5 : decode cX7_sheetAt 5 = .ok (.aload_n 0, 1) := by decide +kernel
theorem dX7_sheetAt_6 : decode cX7_sheetAt 6 = .ok (.getfield 50, 3) := by decide +kernel
theorem dX7_sheetAt_9 : decode cX7_sheetAt 9 = .ok (.arraylength, 1) := by decide +kernel
theorem dX7_sheetAt_10 : decode cX7_sheetAt 10 = .ok (.if_icmp .ge 12, 3) := by decide +kernel
theorem dX7_sheetAt_13 : decode cX7_sheetAt 13 = .ok (.aload_n 0, 1) := by decide +kernel
theorem dX7_sheetAt_14 : decode cX7_sheetAt 14 = .ok (.getfield 50, 3) := by decide +kernel
theorem dX7_sheetAt_17 : decode cX7_sheetAt 17 = .ok (.iload_n 1, 1) := by decide +kernel
theorem dX7_sheetAt_18 : decode cX7_sheetAt 18 = .ok (.aaload, 1) := by decide +kernel
theorem dX7_sheetAt_19 : decode cX7_sheetAt 19 = .ok (.goto 4, 3) := by decide +kernel
theorem dX7_sheetAt_22 : decode cX7_sheetAt 22 = .ok (.aconst_null, 1) := by decide +kernel
theorem dX7_sheetAt_23 : decode cX7_sheetAt 23 = .ok (.areturn, 1) := by decide +kernel
theorem dX7_cellsOf_0 : decode cX7_cellsOf 0 = .ok (.aload_n 0, 1) := by decide +kernel
theorem dX7_cellsOf_1 : decode cX7_cellsOf 1 = .ok (.ifnull 17, 3) := by decide +kernel
theorem dX7_cellsOf_4 : decode cX7_cellsOf 4 = .ok (.aload_n 0, 1) := by decide +kernel
theorem dX7_cellsOf_5 : decode cX7_cellsOf 5 = .ok (.invokevirtual 293, 3) := by decide +kernel
theorem dX7_cellsOf_8 : decode cX7_cellsOf 8 = .ok (.ifCond .eq 10, 3) := by decide +kernel
theorem dX7_cellsOf_11 : decode cX7_cellsOf 11 = .ok (.aload_n 0, 1) := by decide +kernel
theorem dX7_cellsOf_12 : decode cX7_cellsOf 12 = .ok (.getfield 296, 3) := by decide +kernel
theorem dX7_cellsOf_15 : decode cX7_cellsOf 15 = .ok (.goto 5, 3) := by decide +kernel
theorem dX7_cellsOf_18 : decode cX7_cellsOf 18 = .ok (.bipush (-4), 2) := by decide +kernel
theorem dX7_cellsOf_20 : decode cX7_cellsOf 20 = .ok (.ireturn, 1) := by decide +kernel
theorem dX7_imagesThere_0 : decode cX7_imagesThere 0 = .ok (.iconst 0, 1) := by decide +kernel
theorem dX7_imagesThere_1 : decode cX7_imagesThere 1 = .ok (.istore_n 1, 1) := by decide +kernel
theorem dX7_imagesThere_2 : decode cX7_imagesThere 2 = .ok (.aload_n 0, 1) := by decide +kernel
theorem dX7_imagesThere_3 : decode cX7_imagesThere 3 = .ok (.getfield 43, 3) := by decide +kernel
theorem dX7_imagesThere_6 : decode cX7_imagesThere 6 = .ok (.astore_n 2, 1) := by decide +kernel
theorem dX7_imagesThere_7 : decode cX7_imagesThere 7 = .ok (.aload_n 2, 1) := by decide +kernel
theorem dX7_imagesThere_8 : decode cX7_imagesThere 8 = .ok (.arraylength, 1) := by decide +kernel
theorem dX7_imagesThere_9 : decode cX7_imagesThere 9 = .ok (.istore_n 3, 1) := by decide +kernel
theorem dX7_imagesThere_10 : decode cX7_imagesThere 10 = .ok (.iconst 0, 1) := by decide +kernel
theorem dX7_imagesThere_11 : decode cX7_imagesThere 11 = .ok (.istore 4, 2) := by decide +kernel
theorem dX7_imagesThere_13 : decode cX7_imagesThere 13 = .ok (.iload 4, 2) := by decide +kernel
theorem dX7_imagesThere_15 : decode cX7_imagesThere 15 = .ok (.iload_n 3, 1) := by decide +kernel
theorem dX7_imagesThere_16 : decode cX7_imagesThere 16 = .ok (.if_icmp .ge 26, 3) := by decide +kernel
theorem dX7_imagesThere_19 : decode cX7_imagesThere 19 = .ok (.aload_n 2, 1) := by decide +kernel
theorem dX7_imagesThere_20 : decode cX7_imagesThere 20 = .ok (.iload 4, 2) := by decide +kernel
theorem dX7_imagesThere_22 : decode cX7_imagesThere 22 = .ok (.aaload, 1) := by decide +kernel
theorem dX7_imagesThere_23 : decode cX7_imagesThere 23 = .ok (.astore 5, 2) := by decide +kernel
theorem dX7_imagesThere_25 : decode cX7_imagesThere 25 = .ok (.aload 5, 2) := by decide +kernel
theorem dX7_imagesThere_27 : decode cX7_imagesThere 27 = .ok (.getfield 115, 3) := by decide +kernel
theorem dX7_imagesThere_30 : decode cX7_imagesThere 30 = .ok (.ifCond .eq 6, 3) := by decide +kernel
theorem dX7_imagesThere_33 : decode cX7_imagesThere 33 = .ok (.iinc 1 1, 3) := by decide +kernel
theorem dX7_imagesThere_36 : decode cX7_imagesThere 36 = .ok (.iinc 4 1, 3) := by decide +kernel
theorem dX7_imagesThere_39 : decode cX7_imagesThere 39 = .ok (.goto (-26), 3) := by decide +kernel
theorem dX7_imagesThere_42 : decode cX7_imagesThere 42 = .ok (.iload_n 1, 1) := by decide +kernel
theorem dX7_imagesThere_43 : decode cX7_imagesThere 43 = .ok (.ireturn, 1) := by decide +kernel
theorem dX7_power_0 : decode cX7_power 0 = .ok (.lconst 1, 1) := by decide +kernel
theorem dX7_power_1 : decode cX7_power 1 = .ok (.lstore_n 3, 1) := by decide +kernel
theorem dX7_power_2 : decode cX7_power 2 = .ok (.iconst 0, 1) := by decide +kernel
theorem dX7_power_3 : decode cX7_power 3 = .ok (.istore 5, 2) := by decide +kernel
theorem dX7_power_5 : decode cX7_power 5 = .ok (.iload 5, 2) := by decide +kernel
theorem dX7_power_7 : decode cX7_power 7 = .ok (.iload_n 2, 1) := by decide +kernel
theorem dX7_power_8 : decode cX7_power 8 = .ok (.if_icmp .ge 13, 3) := by decide +kernel
theorem dX7_power_11 : decode cX7_power 11 = .ok (.lload_n 3, 1) := by decide +kernel
theorem dX7_power_12 : decode cX7_power 12 = .ok (.lload_n 0, 1) := by decide +kernel
theorem dX7_power_13 : decode cX7_power 13 = .ok (.lmul, 1) := by decide +kernel
theorem dX7_power_14 : decode cX7_power 14 = .ok (.lstore_n 3, 1) := by decide +kernel
theorem dX7_power_15 : decode cX7_power 15 = .ok (.iinc 5 1, 3) := by decide +kernel
theorem dX7_power_18 : decode cX7_power 18 = .ok (.goto (-13), 3) := by decide +kernel
theorem dX7_power_21 : decode cX7_power 21 = .ok (.lload_n 3, 1) := by decide +kernel
theorem dX7_power_22 : decode cX7_power 22 = .ok (.lreturn, 1) := by decide +kernel
theorem dX7_lowest_0 : decode cX7_lowest 0 = .ok (.lload_n 2, 1) := by decide +kernel
theorem dX7_lowest_1 : decode cX7_lowest 1 = .ok (.lstore 5, 2) := by decide +kernel
theorem dX7_lowest_3 : decode cX7_lowest 3 = .ok (.lload_n 0, 1) := by decide +kernel
theorem dX7_lowest_4 : decode cX7_lowest 4 = .ok (.lstore 7, 2) := by decide +kernel
theorem dX7_lowest_6 : decode cX7_lowest 6 = .ok (.iconst 0, 1) := by decide +kernel
theorem dX7_lowest_7 : decode cX7_lowest 7 = .ok (.istore 9, 2) := by decide +kernel
theorem dX7_lowest_9 : decode cX7_lowest 9 = .ok (.iload 9, 2) := by decide +kernel
theorem dX7_lowest_11 : decode cX7_lowest 11 = .ok (.sipush 1000, 3) := by decide +kernel
theorem dX7_lowest_14 : decode cX7_lowest 14 = .ok (.if_icmp .ge 31, 3) := by decide +kernel
theorem dX7_lowest_17 : decode cX7_lowest 17 = .ok (.lload 7, 2) := by decide +kernel
theorem dX7_lowest_19 : decode cX7_lowest 19 = .ok (.lconst 0, 1) := by decide +kernel
theorem dX7_lowest_20 : decode cX7_lowest 20 = .ok (.lcmp, 1) := by decide +kernel
theorem dX7_lowest_21 : decode cX7_lowest 21 = .ok (.ifCond .eq 24, 3) := by decide +kernel
theorem dX7_lowest_24 : decode cX7_lowest 24 = .ok (.lload 5, 2) := by decide +kernel
theorem dX7_lowest_26 : decode cX7_lowest 26 = .ok (.lload 7, 2) := by decide +kernel
theorem dX7_lowest_28 : decode cX7_lowest 28 = .ok (.lrem, 1) := by decide +kernel
theorem dX7_lowest_29 : decode cX7_lowest 29 = .ok (.lstore 10, 2) := by decide +kernel
theorem dX7_lowest_31 : decode cX7_lowest 31 = .ok (.lload 7, 2) := by decide +kernel
theorem dX7_lowest_33 : decode cX7_lowest 33 = .ok (.lstore 5, 2) := by decide +kernel
theorem dX7_lowest_35 : decode cX7_lowest 35 = .ok (.lload 10, 2) := by decide +kernel
theorem dX7_lowest_37 : decode cX7_lowest 37 = .ok (.lstore 7, 2) := by decide +kernel
theorem dX7_lowest_39 : decode cX7_lowest 39 = .ok (.iinc 9 1, 3) := by decide +kernel
theorem dX7_lowest_42 : decode cX7_lowest 42 = .ok (.goto (-33), 3) := by decide +kernel
theorem dX7_lowest_45 : decode cX7_lowest 45 = .ok (.iload 4, 2) := by decide +kernel
theorem dX7_lowest_47 : decode cX7_lowest 47 = .ok (.ifCond .ne 7, 3) := by decide +kernel
theorem dX7_lowest_50 : decode cX7_lowest 50 = .ok (.lload_n 0, 1) := by decide +kernel
theorem dX7_lowest_51 : decode cX7_lowest 51 = .ok (.goto 4, 3) := by decide +kernel
theorem dX7_lowest_54 : decode cX7_lowest 54 = .ok (.lload_n 2, 1) := by decide +kernel
theorem dX7_lowest_55 : decode cX7_lowest 55 = .ok (.lstore 9, 2) := by decide +kernel
theorem dX7_lowest_57 : decode cX7_lowest 57 = .ok (.lload 5, 2) := by decide +kernel
theorem dX7_lowest_59 : decode cX7_lowest 59 = .ok (.lconst 0, 1) := by decide +kernel
theorem dX7_lowest_60 : decode cX7_lowest 60 = .ok (.lcmp, 1) := by decide +kernel
theorem dX7_lowest_61 : decode cX7_lowest 61 = .ok (.ifCond .le 11, 3) := by decide +kernel
theorem dX7_lowest_64 : decode cX7_lowest 64 = .ok (.lload 9, 2) := by decide +kernel
theorem dX7_lowest_66 : decode cX7_lowest 66 = .ok (.lload 5, 2) := by decide +kernel
theorem dX7_lowest_68 : decode cX7_lowest 68 = .ok (.ldiv, 1) := by decide +kernel
theorem dX7_lowest_69 : decode cX7_lowest 69 = .ok (.goto 5, 3) := by decide +kernel
theorem dX7_lowest_72 : decode cX7_lowest 72 = .ok (.lload 9, 2) := by decide +kernel
theorem dX7_lowest_74 : decode cX7_lowest 74 = .ok (.lreturn, 1) := by decide +kernel
