theorem dX0_init_0 : decode cX0_init 0 = .ok (.aload_n 0, 1) := by decide +kernel
theorem dX0_init_1 : decode cX0_init 1 = .ok (.invokespecial 1, 3) := by decide +kernel
theorem dX0_init_4 : decode cX0_init 4 = .ok (.return_, 1) := by decide +kernel
theorem dX0_offer_0 : decode cX0_offer 0 = .ok (.aload_n 0, 1) := by decide +kernel
theorem dX0_offer_1 : decode cX0_offer 1 = .ok (.getfield 7, 3) := by decide +kernel
theorem dX0_offer_4 : decode cX0_offer 4 = .ok (.ifCond .eq 30, 3) := by decide +kernel
theorem dX0_offer_7 : decode cX0_offer 7 = .ok (.iload 4, 2) := by decide +kernel
theorem dX0_offer_9 : decode cX0_offer 9 = .ok (.aload_n 0, 1) := by decide +kernel
theorem dX0_offer_10 : decode cX0_offer 10 = .ok (.getfield 13, 3) := by decide +kernel
theorem dX0_offer_13 : decode cX0_offer 13 = .ok (.if_icmp .gt 20, 3) := by decide +kernel
theorem dX0_offer_16 : decode cX0_offer 16 = .ok (.iload 4, 2) := by decide +kernel
theorem dX0_offer_18 : decode cX0_offer 18 = .ok (.aload_n 0, 1) := by decide +kernel
theorem dX0_offer_19 : decode cX0_offer 19 = .ok (.getfield 13, 3) := by decide +kernel
theorem dX0_offer_22 : decode cX0_offer 22 = .ok (.if_icmp .ne 12, 3) := by decide +kernel
theorem dX0_offer_25 : decode cX0_offer 25 = .ok (.iload_n 3, 1) := by decide +kernel
theorem dX0_offer_26 : decode cX0_offer 26 = .ok (.aload_n 0, 1) := by decide +kernel
theorem dX0_offer_27 : decode cX0_offer 27 = .ok (.getfield 17, 3) := by decide +kernel
theorem dX0_offer_30 : decode cX0_offer 30 = .ok (.if_icmp .lt 4, 3) := by decide +kernel
theorem dX0_offer_33 : decode cX0_offer 33 = .ok (.return_, 1) := by decide +kernel
theorem dX0_offer_34 : decode cX0_offer 34 = .ok (.aload_n 0, 1) := by decide +kernel
theorem dX0_offer_35 : decode cX0_offer 35 = .ok (.iconst 1, 1) := by decide +kernel
theorem dX0_offer_36 : decode cX0_offer 36 = .ok (.putfield 7, 3) := by decide +kernel
theorem dX0_offer_39 : decode cX0_offer 39 = .ok (.aload_n 0, 1) := by decide +kernel
theorem dX0_offer_40 : decode cX0_offer 40 = .ok (.iload_n 1, 1) := by decide +kernel
theorem dX0_offer_41 : decode cX0_offer 41 = .ok (.putfield 20, 3) := by decide +kernel
theorem dX0_offer_44 : decode cX0_offer 44 = .ok (.aload_n 0, 1) := by decide +kernel
theorem dX0_offer_45 : decode cX0_offer 45 = .ok (.iload_n 2, 1) := by decide +kernel
theorem dX0_offer_46 : decode cX0_offer 46 = .ok (.putfield 23, 3) := by decide +kernel
theorem dX0_offer_49 : decode cX0_offer 49 = .ok (.aload_n 0, 1) := by decide +kernel
theorem dX0_offer_50 : decode cX0_offer 50 = .ok (.iload_n 3, 1) := by decide +kernel
theorem dX0_offer_51 : decode cX0_offer 51 = .ok (.putfield 17, 3) := by decide +kernel
theorem dX0_offer_54 : decode cX0_offer 54 = .ok (.aload_n 0, 1) := by decide +kernel
theorem dX0_offer_55 : decode cX0_offer 55 = .ok (.iload 4, 2) := by decide +kernel
theorem dX0_offer_57 : decode cX0_offer 57 = .ok (.putfield 13, 3) := by decide +kernel
theorem dX0_offer_60 : decode cX0_offer 60 = .ok (.return_, 1) := by decide +kernel
theorem dX0_tell_0 : decode cX0_tell 0 = .ok (.iload_n 1, 1) := by decide +kernel
theorem dX0_tell_1 : decode cX0_tell 1 = .ok (.tableswitch 42 0 2 #[27, 32, 37], 27) := by decide +kernel
theorem dX0_tell_28 : decode cX0_tell 28 = .ok (.aload_n 0, 1) := by decide +kernel
theorem dX0_tell_29 : decode cX0_tell 29 = .ok (.getfield 20, 3) := by decide +kernel
theorem dX0_tell_32 : decode cX0_tell 32 = .ok (.ireturn, 1) := by decide +kernel
theorem dX0_tell_33 : decode cX0_tell 33 = .ok (.aload_n 0, 1) := by decide +kernel
theorem dX0_tell_34 : decode cX0_tell 34 = .ok (.getfield 23, 3) := by decide +kernel
theorem dX0_tell_37 : decode cX0_tell 37 = .ok (.ireturn, 1) := by decide +kernel
theorem dX0_tell_38 : decode cX0_tell 38 = .ok (.aload_n 0, 1) := by decide +kernel
theorem dX0_tell_39 : decode cX0_tell 39 = .ok (.getfield 17, 3) := by decide +kernel
theorem dX0_tell_42 : decode cX0_tell 42 = .ok (.ireturn, 1) := by decide +kernel
theorem dX0_tell_43 : decode cX0_tell 43 = .ok (.aload_n 0, 1) := by decide +kernel
theorem dX0_tell_44 : decode cX0_tell 44 = .ok (.getfield 13, 3) := by decide +kernel
theorem dX0_tell_47 : decode cX0_tell 47 = .ok (.ireturn, 1) := by decide +kernel
theorem dX1_init_0 : decode cX1_init 0 = .ok (.aload_n 0, 1) := by decide +kernel
theorem dX1_init_1 : decode cX1_init 1 = .ok (.invokespecial 3, 3) := by decide +kernel
theorem dX1_init_4 : decode cX1_init 4 = .ok (.aload_n 0, 1) := by decide +kernel
theorem dX1_init_5 : decode cX1_init 5 = .ok (.bipush 7, 2) := by decide +kernel
theorem dX1_init_7 : decode cX1_init 7 = .ok (.newarray .int, 2) := by decide +kernel
theorem dX1_init_9 : decode cX1_init 9 = .ok (.putfield 11, 3) := by decide +kernel
theorem dX1_init_12 : decode cX1_init 12 = .ok (.aload_n 0, 1) := by decide +kernel
theorem dX1_init_13 : decode cX1_init 13 = .ok (.bipush (-4), 2) := by decide +kernel
theorem dX1_init_15 : decode cX1_init 15 = .ok (.putfield 15, 3) := by decide +kernel
theorem dX1_init_18 : decode cX1_init 18 = .ok (.return_, 1) := by decide +kernel
theorem dX1_fillWith_0 : decode cX1_fillWith 0 = .ok (.aload_n 0, 1) := by decide +kernel
theorem dX1_fillWith_1 : decode cX1_fillWith 1 = .ok (.aload_n 1, 1) := by decide +kernel
theorem dX1_fillWith_2 : decode cX1_fillWith 2 = .ok (.iload_n 2, 1) := by decide +kernel
theorem dX1_fillWith_3 : decode cX1_fillWith 3 = .ok (.invokevirtual 19, 3) := by decide +kernel
theorem dX1_fillWith_6 : decode cX1_fillWith 6 = .ok (.putfield 25, 3) := by decide +kernel
theorem dX1_fillWith_9 : decode cX1_fillWith 9 = .ok (.aload_n 0, 1) := by decide +kernel
theorem dX1_fillWith_10 : decode cX1_fillWith 10 = .ok (.aload_n 1, 1) := by decide +kernel
theorem dX1_fillWith_11 : decode cX1_fillWith 11 = .ok (.iload_n 2, 1) := by decide +kernel
theorem dX1_fillWith_12 : decode cX1_fillWith 12 = .ok (.invokevirtual 28, 3) := by decide +kernel
theorem dX1_fillWith_15 : decode cX1_fillWith 15 = .ok (.putfield 31, 3) := by decide +kernel
theorem dX1_fillWith_18 : decode cX1_fillWith 18 = .ok (.aload_n 0, 1) := by decide +kernel
theorem dX1_fillWith_19 : decode cX1_fillWith 19 = .ok (.iload_n 3, 1) := by decide +kernel
theorem dX1_fillWith_20 : decode cX1_fillWith 20 = .ok (.putfield 34, 3) := by decide +kernel
theorem dX1_fillWith_23 : decode cX1_fillWith 23 = .ok (.aload_n 0, 1) := by decide +kernel
theorem dX1_fillWith_24 : decode cX1_fillWith 24 = .ok (.iconst 0, 1) := by decide +kernel
theorem dX1_fillWith_25 : decode cX1_fillWith 25 = .ok (.putfield 37, 3) := by decide +kernel
theorem dX1_fillWith_28 : decode cX1_fillWith 28 = .ok (.aload_n 0, 1) := by decide +kernel
theorem dX1_fillWith_29 : decode cX1_fillWith 29 = .ok (.iconst 0, 1) := by decide +kernel
theorem dX1_fillWith_30 : decode cX1_fillWith 30 = .ok (.putfield 40, 3) := by decide +kernel
theorem dX1_fillWith_33 : decode cX1_fillWith 33 = .ok (.aload_n 0, 1) := by decide +kernel
theorem dX1_fillWith_34 : decode cX1_fillWith 34 = .ok (.bipush (-4), 2) := by decide +kernel
theorem dX1_fillWith_36 : decode cX1_fillWith 36 = .ok (.putfield 15, 3) := by decide +kernel
theorem dX1_fillWith_39 : decode cX1_fillWith 39 = .ok (.iconst 0, 1) := by decide +kernel
theorem dX1_fillWith_40 : decode cX1_fillWith 40 = .ok (.istore 4, 2) := by decide +kernel
theorem dX1_fillWith_42 : decode cX1_fillWith 42 = .ok (.iload 4, 2) := by decide +kernel
theorem dX1_fillWith_44 : decode cX1_fillWith 44 = .ok (.aload_n 0, 1) := by decide +kernel
theorem dX1_fillWith_45 : decode cX1_fillWith 45 = .ok (.getfield 11, 3) := by decide +kernel
theorem dX1_fillWith_48 : decode cX1_fillWith 48 = .ok (.arraylength, 1) := by decide +kernel
theorem dX1_fillWith_49 : decode cX1_fillWith 49 = .ok (.if_icmp .ge 42, 3) := by decide +kernel
theorem dX1_fillWith_52 : decode cX1_fillWith 52 = .ok (.aload_n 0, 1) := by decide +kernel
theorem dX1_fillWith_53 : decode cX1_fillWith 53 = .ok (.getfield 11, 3) := by decide +kernel
theorem dX1_fillWith_56 : decode cX1_fillWith 56 = .ok (.iload 4, 2) := by decide +kernel
theorem dX1_fillWith_58 : decode cX1_fillWith 58 = .ok (.iload 4, 2) := by decide +kernel
theorem dX1_fillWith_60 : decode cX1_fillWith 60 = .ok (.aload_n 1, 1) := by decide +kernel
theorem dX1_fillWith_61 : decode cX1_fillWith 61 = .ok (.getfield 43, 3) := by decide +kernel
theorem dX1_fillWith_64 : decode cX1_fillWith 64 = .ok (.arraylength, 1) := by decide +kernel
theorem dX1_fillWith_65 : decode cX1_fillWith 65 = .ok (.if_icmp .ge 18, 3) := by decide +kernel
theorem dX1_fillWith_68 : decode cX1_fillWith 68 = .ok (.aload_n 0, 1) := by decide +kernel
theorem dX1_fillWith_69 : decode cX1_fillWith 69 = .ok (.getfield 25, 3) := by decide +kernel
theorem dX1_fillWith_72 : decode cX1_fillWith 72 = .ok (.aload_n 1, 1) := by decide +kernel
theorem dX1_fillWith_73 : decode cX1_fillWith 73 = .ok (.getfield 43, 3) := by decide +kernel
theorem dX1_fillWith_76 : decode cX1_fillWith 76 = .ok (.iload 4, 2) := by decide +kernel
theorem dX1_fillWith_78 : decode cX1_fillWith 78 = .ok (.iaload, 1) := by decide +kernel
theorem dX1_fillWith_79 : decode cX1_fillWith 79 = .ok (.imul, 1) := by decide +kernel
theorem dX1_fillWith_80 : decode cX1_fillWith 80 = .ok (.goto 4, 3) := by decide +kernel
theorem dX1_fillWith_83 : decode cX1_fillWith 83 = .ok (.iconst 0, 1) := by decide +kernel
theorem dX1_fillWith_84 : decode cX1_fillWith 84 = .ok (.iastore, 1) := by decide +kernel
theorem dX1_fillWith_85 : decode cX1_fillWith 85 = .ok (.iinc 4 1, 3) := by decide +kernel
theorem dX1_fillWith_88 : decode cX1_fillWith 88 = .ok (.goto (-46), 3) := by decide +kernel
theorem dX1_fillWith_91 : decode cX1_fillWith 91 = .ok (.return_, 1) := by decide +kernel
theorem dX1_becomeLike_0 : decode cX1_becomeLike 0 = .ok (.aload_n 0, 1) := by decide +kernel
theorem dX1_becomeLike_1 : decode cX1_becomeLike 1 = .ok (.aload_n 1, 1) := by decide +kernel
theorem dX1_becomeLike_2 : decode cX1_becomeLike 2 = .ok (.getfield 25, 3) := by decide +kernel
theorem dX1_becomeLike_5 : decode cX1_becomeLike 5 = .ok (.putfield 25, 3) := by decide +kernel
theorem dX1_becomeLike_8 : decode cX1_becomeLike 8 = .ok (.aload_n 0, 1) := by decide +kernel
theorem dX1_becomeLike_9 : decode cX1_becomeLike 9 = .ok (.aload_n 1, 1) := by decide +kernel
theorem dX1_becomeLike_10 : decode cX1_becomeLike 10 = .ok (.getfield 34, 3) := by decide +kernel
theorem dX1_becomeLike_13 : decode cX1_becomeLike 13 = .ok (.putfield 34, 3) := by decide +kernel
theorem dX1_becomeLike_16 : decode cX1_becomeLike 16 = .ok (.aload_n 0, 1) := by decide +kernel
theorem dX1_becomeLike_17 : decode cX1_becomeLike 17 = .ok (.aload_n 1, 1) := by decide +kernel
theorem dX1_becomeLike_18 : decode cX1_becomeLike 18 = .ok (.getfield 31, 3) := by decide +kernel
theorem dX1_becomeLike_21 : decode cX1_becomeLike 21 = .ok (.putfield 31, 3) := by decide +kernel
theorem dX1_becomeLike_24 : decode cX1_becomeLike 24 = .ok (.aload_n 0, 1) := by decide +kernel
theorem dX1_becomeLike_25 : decode cX1_becomeLike 25 = .ok (.aload_n 1, 1) := by decide +kernel
theorem dX1_becomeLike_26 : decode cX1_becomeLike 26 = .ok (.getfield 37, 3) := by decide +kernel
theorem dX1_becomeLike_29 : decode cX1_becomeLike 29 = .ok (.putfield 37, 3) := by decide +kernel
theorem dX1_becomeLike_32 : decode cX1_becomeLike 32 = .ok (.aload_n 0, 1) := by decide +kernel
theorem dX1_becomeLike_33 : decode cX1_becomeLike 33 = .ok (.aload_n 1, 1) := by decide +kernel
theorem dX1_becomeLike_34 : decode cX1_becomeLike 34 = .ok (.getfield 40, 3) := by decide +kernel
theorem dX1_becomeLike_37 : decode cX1_becomeLike 37 = .ok (.putfield 40, 3) := by decide +kernel
theorem dX1_becomeLike_40 : decode cX1_becomeLike 40 = .ok (.aload_n 0, 1) := by decide +kernel
theorem dX1_becomeLike_41 : decode cX1_becomeLike 41 = .ok (.aload_n 1, 1) := by decide +kernel
theorem dX1_becomeLike_42 : decode cX1_becomeLike 42 = .ok (.getfield 15, 3) := by decide +kernel
theorem dX1_becomeLike_45 : decode cX1_becomeLike 45 = .ok (.putfield 15, 3) := by decide +kernel
theorem dX1_becomeLike_48 : decode cX1_becomeLike 48 = .ok (.aload_n 1, 1) := by decide +kernel
theorem dX1_becomeLike_49 : decode cX1_becomeLike 49 = .ok (.getfield 11, 3) := by decide +kernel
theorem dX1_becomeLike_52 : decode cX1_becomeLike 52 = .ok (.iconst 0, 1) := by decide +kernel
theorem dX1_becomeLike_53 : decode cX1_becomeLike 53 = .ok (.aload_n 0, 1) := by decide +kernel
theorem dX1_becomeLike_54 : decode cX1_becomeLike 54 = .ok (.getfield 11, 3) := by decide +kernel
theorem dX1_becomeLike_57 : decode cX1_becomeLike 57 = .ok (.iconst 0, 1) := by decide +kernel
theorem dX1_becomeLike_58 : decode cX1_becomeLike 58 = .ok (.aload_n 0, 1) := by decide +kernel
theorem dX1_becomeLike_59 : decode cX1_becomeLike 59 = .ok (.getfield 11, 3) := by decide +kernel
theorem dX1_becomeLike_62 : decode cX1_becomeLike 62 = .ok (.arraylength, 1) := by decide +kernel
theorem dX1_becomeLike_63 : decode cX1_becomeLike 63 = .ok (.invokestatic 46, 3) := by decide +kernel
theorem dX1_becomeLike_66 : decode cX1_becomeLike 66 = .ok (.return_, 1) := by decide +kernel
theorem dX1_halve_0 : decode cX1_halve 0 = .ok (.aload_n 0, 1) := by decide +kernel
theorem dX1_halve_1 : decode cX1_halve 1 = .ok (.dup, 1) := by decide +kernel
theorem dX1_halve_2 : decode cX1_halve 2 = .ok (.getfield 25, 3) := by decide +kernel
theorem dX1_halve_5 : decode cX1_halve 5 = .ok (.iconst 2, 1) := by decide +kernel
theorem dX1_halve_6 : decode cX1_halve 6 = .ok (.idiv, 1) := by decide +kernel
theorem dX1_halve_7 : decode cX1_halve 7 = .ok (.putfield 25, 3) := by decide +kernel
theorem dX1_halve_10 : decode cX1_halve 10 = .ok (.aload_n 0, 1) := by decide +kernel
theorem dX1_halve_11 : decode cX1_halve 11 = .ok (.dup, 1) := by decide +kernel
theorem dX1_halve_12 : decode cX1_halve 12 = .ok (.getfield 37, 3) := by decide +kernel
theorem dX1_halve_15 : decode cX1_halve 15 = .ok (.iconst 2, 1) := by decide +kernel
theorem dX1_halve_16 : decode cX1_halve 16 = .ok (.idiv, 1) := by decide +kernel
theorem dX1_halve_17 : decode cX1_halve 17 = .ok (.putfield 37, 3) := by decide +kernel
theorem dX1_halve_20 : decode cX1_halve 20 = .ok (.iconst 0, 1) := by decide +kernel
theorem dX1_halve_21 : decode cX1_halve 21 = .ok (.istore_n 1, 1) := by decide +kernel
theorem dX1_halve_22 : decode cX1_halve 22 = .ok (.iload_n 1, 1) := by decide +kernel
theorem dX1_halve_23 : decode cX1_halve 23 = .ok (.aload_n 0, 1) := by decide +kernel
theorem dX1_halve_24 : decode cX1_halve 24 = .ok (.getfield 11, 3) := by decide +kernel
theorem dX1_halve_27 : decode cX1_halve 27 = .ok (.arraylength, 1) := by decide +kernel
theorem dX1_halve_28 : decode cX1_halve 28 = .ok (.if_icmp .ge 19, 3) := by decide +kernel
theorem dX1_halve_31 : decode cX1_halve 31 = .ok (.aload_n 0, 1) := by decide +kernel
theorem dX1_halve_32 : decode cX1_halve 32 = .ok (.getfield 11, 3) := by decide +kernel
theorem dX1_halve_35 : decode cX1_halve 35 = .ok (.iload_n 1, 1) := by decide +kernel
theorem dX1_halve_36 : decode cX1_halve 36 = .ok (.dup2, 1) := by decide +kernel
theorem dX1_halve_37 : decode cX1_halve 37 = .ok (.iaload, 1) := by decide +kernel
theorem dX1_halve_38 : decode cX1_halve 38 = .ok (.iconst 2, 1) := by decide +kernel
theorem dX1_halve_39 : decode cX1_halve 39 = .ok (.idiv, 1) := by decide +kernel
theorem dX1_halve_40 : decode cX1_halve 40 = .ok (.iastore, 1) := by decide +kernel
theorem dX1_halve_41 : decode cX1_halve 41 = .ok (.iinc 1 1, 3) := by decide +kernel
theorem dX1_halve_44 : decode cX1_halve 44 = .ok (.goto (-22), 3) := by decide +kernel
theorem dX1_halve_47 : decode cX1_halve 47 = .ok (.return_, 1) := by decide +kernel
theorem dX1_hasCome_0 : decode cX1_hasCome 0 = .ok (.aload_n 0, 1) := by decide +kernel
theorem dX1_hasCome_1 : decode cX1_hasCome 1 = .ok (.getfield 15, 3) := by decide +kernel
theorem dX1_hasCome_4 : decode cX1_hasCome 4 = .ok (.bipush (-4), 2) := by decide +kernel
theorem dX1_hasCome_6 : decode cX1_hasCome 6 = .ok (.if_icmp .eq 7, 3) := by decide +kernel
theorem dX1_hasCome_9 : decode cX1_hasCome 9 = .ok (.iconst 1, 1) := by decide +kernel
theorem dX1_hasCome_10 : decode cX1_hasCome 10 = .ok (.goto 4, 3) := by decide +kernel
theorem dX1_hasCome_13 : decode cX1_hasCome 13 = .ok (.iconst 0, 1) := by decide +kernel
theorem dX1_hasCome_14 : decode cX1_hasCome 14 = .ok (.ireturn, 1) := by decide +kernel
theorem dX1_isSwollen_0 : decode cX1_isSwollen 0 = .ok (.aload_n 0, 1) := by decide +kernel
theorem dX1_isSwollen_1 : decode cX1_isSwollen 1 = .ok (.getfield 37, 3) := by decide +kernel
theorem dX1_isSwollen_4 : decode cX1_isSwollen 4 = .ok (.aload_n 1, 1) := by decide +kernel
theorem dX1_isSwollen_5 : decode cX1_isSwollen 5 = .ok (.getfield 52, 3) := by decide +kernel
theorem dX1_isSwollen_8 : decode cX1_isSwollen 8 = .ok (.iconst 4, 1) := by decide +kernel
theorem dX1_isSwollen_9 : decode cX1_isSwollen 9 = .ok (.iaload, 1) := by decide +kernel
theorem dX1_isSwollen_10 : decode cX1_isSwollen 10 = .ok (.imul, 1) := by decide +kernel
theorem dX1_isSwollen_11 : decode cX1_isSwollen 11 = .ok (.bipush 100, 2) := by decide +kernel
theorem dX1_isSwollen_13 : decode cX1_isSwollen 13 = .ok (.idiv, 1) := by decide +kernel
theorem dX1_isSwollen_14 : decode cX1_isSwollen 14 = .ok (.istore_n 2, 1) := by decide +kernel
theorem dX1_isSwollen_15 : decode cX1_isSwollen 15 = .ok (.aload_n 0, 1) := by decide +kernel
theorem dX1_isSwollen_16 : decode cX1_isSwollen 16 = .ok (.invokevirtual 55, 3) := by decide +kernel
theorem dX1_isSwollen_19 : decode cX1_isSwollen 19 = .ok (.ifCond .ne 22, 3) := by decide +kernel
theorem dX1_isSwollen_22 : decode cX1_isSwollen 22 = .ok (.aload_n 0, 1) := by decide +kernel
theorem dX1_isSwollen_23 : decode cX1_isSwollen 23 = .ok (.getfield 25, 3) := by decide +kernel
theorem dX1_isSwollen_26 : decode cX1_isSwollen 26 = .ok (.iload_n 2, 1) := by decide +kernel
theorem dX1_isSwollen_27 : decode cX1_isSwollen 27 = .ok (.iadd, 1) := by decide +kernel
theorem dX1_isSwollen_28 : decode cX1_isSwollen 28 = .ok (.aload_n 1, 1) := by decide +kernel
theorem dX1_isSwollen_29 : decode cX1_isSwollen 29 = .ok (.getfield 52, 3) := by decide +kernel
theorem dX1_isSwollen_32 : decode cX1_isSwollen 32 = .ok (.iconst 0, 1) := by decide +kernel
theorem dX1_isSwollen_33 : decode cX1_isSwollen 33 = .ok (.iaload, 1) := by decide +kernel
theorem dX1_isSwollen_34 : decode cX1_isSwollen 34 = .ok (.if_icmp .lt 7, 3) := by decide +kernel
theorem dX1_isSwollen_37 : decode cX1_isSwollen 37 = .ok (.iconst 1, 1) := by decide +kernel
theorem dX1_isSwollen_38 : decode cX1_isSwollen 38 = .ok (.goto 4, 3) := by decide +kernel
theorem dX1_isSwollen_41 : decode cX1_isSwollen 41 = .ok (.iconst 0, 1) := by decide +kernel
theorem dX1_isSwollen_42 : decode cX1_isSwollen 42 = .ok (.ireturn, 1) := by decide +kernel
theorem dX1_hardness_0 : decode cX1_hardness 0 = .ok (.aload_n 0, 1) := by decide +kernel
theorem dX1_hardness_1 : decode cX1_hardness 1 = .ok (.getfield 34, 3) := by decide +kernel
theorem dX1_hardness_4 : decode cX1_hardness 4 = .ok (.aload_n 1, 1) := by decide +kernel
theorem dX1_hardness_5 : decode cX1_hardness 5 = .ok (.invokevirtual 59, 3) := by decide +kernel
theorem dX1_hardness_8 : decode cX1_hardness 8 = .ok (.isub, 1) := by decide +kernel
theorem dX1_hardness_9 : decode cX1_hardness 9 = .ok (.aload_n 1, 1) := by decide +kernel
theorem dX1_hardness_10 : decode cX1_hardness 10 = .ok (.getfield 52, 3) := by decide +kernel
theorem dX1_hardness_13 : decode cX1_hardness 13 = .ok (.iconst 2, 1) := by decide +kernel
theorem dX1_hardness_14 : decode cX1_hardness 14 = .ok (.iaload, 1) := by decide +kernel
theorem dX1_hardness_15 : decode cX1_hardness 15 = .ok (.imul, 1) := by decide +kernel
theorem dX1_hardness_16 : decode cX1_hardness 16 = .ok (.bipush 100, 2) := by decide +kernel
theorem dX1_hardness_18 : decode cX1_hardness 18 = .ok (.invokestatic 63, 3) := by decide +kernel
theorem dX1_hardness_21 : decode cX1_hardness 21 = .ok (.istore_n 2, 1) := by decide +kernel
theorem dX1_hardness_22 : decode cX1_hardness 22 = .ok (.iconst 0, 1) := by decide +kernel
theorem dX1_hardness_23 : decode cX1_hardness 23 = .ok (.bipush 100, 2) := by decide +kernel
theorem dX1_hardness_25 : decode cX1_hardness 25 = .ok (.aload_n 0, 1) := by decide +kernel
theorem dX1_hardness_26 : decode cX1_hardness 26 = .ok (.getfield 31, 3) := by decide +kernel
theorem dX1_hardness_29 : decode cX1_hardness 29 = .ok (.iload_n 2, 1) := by decide +kernel
theorem dX1_hardness_30 : decode cX1_hardness 30 = .ok (.isub, 1) := by decide +kernel
theorem dX1_hardness_31 : decode cX1_hardness 31 = .ok (.invokestatic 69, 3) := by decide +kernel
theorem dX1_hardness_34 : decode cX1_hardness 34 = .ok (.invokestatic 72, 3) := by decide +kernel
theorem dX1_hardness_37 : decode cX1_hardness 37 = .ok (.ireturn, 1) := by decide +kernel
theorem dX1_turnOnce_0 : decode cX1_turnOnce 0 = .ok (.aload_n 0, 1) := by decide +kernel
theorem dX1_turnOnce_1 : decode cX1_turnOnce 1 = .ok (.aload_n 1, 1) := by decide +kernel
theorem dX1_turnOnce_2 : decode cX1_turnOnce 2 = .ok (.invokevirtual 75, 3) := by decide +kernel
theorem dX1_turnOnce_5 : decode cX1_turnOnce 5 = .ok (.ifCond .ne 7, 3) := by decide +kernel
theorem dX1_turnOnce_8 : decode cX1_turnOnce 8 = .ok (.iconst 1, 1) := by decide +kernel
theorem dX1_turnOnce_9 : decode cX1_turnOnce 9 = .ok (.goto 4, 3) := by decide +kernel
theorem dX1_turnOnce_12 : decode cX1_turnOnce 12 = .ok (.iconst 0, 1) := by decide +kernel
theorem dX1_turnOnce_13 : decode cX1_turnOnce 13 = .ok (.istore_n 3, 1) := by decide +kernel
theorem dX1_turnOnce_14 : decode cX1_turnOnce 14 = .ok (.iload_n 3, 1) := by decide +kernel
theorem dX1_turnOnce_15 : decode cX1_turnOnce 15 = .ok (.ifCond .eq 24, 3) := by decide +kernel
theorem dX1_turnOnce_18 : decode cX1_turnOnce 18 = .ok (.aload_n 0, 1) := by decide +kernel
theorem dX1_turnOnce_19 : decode cX1_turnOnce 19 = .ok (.aload_n 1, 1) := by decide +kernel
theorem dX1_turnOnce_20 : decode cX1_turnOnce 20 = .ok (.iload_n 2, 1) := by decide +kernel
theorem dX1_turnOnce_21 : decode cX1_turnOnce 21 = .ok (.invokevirtual 79, 3) := by decide +kernel
theorem dX1_turnOnce_24 : decode cX1_turnOnce 24 = .ok (.aload_n 0, 1) := by decide +kernel
theorem dX1_turnOnce_25 : decode cX1_turnOnce 25 = .ok (.aload_n 0, 1) := by decide +kernel
theorem dX1_turnOnce_26 : decode cX1_turnOnce 26 = .ok (.aload_n 1, 1) := by decide +kernel
theorem dX1_turnOnce_27 : decode cX1_turnOnce 27 = .ok (.iload_n 2, 1) := by decide +kernel
theorem dX1_turnOnce_28 : decode cX1_turnOnce 28 = .ok (.invokevirtual 83, 3) := by decide +kernel
theorem dX1_turnOnce_31 : decode cX1_turnOnce 31 = .ok (.invokevirtual 87, 3) := by decide +kernel
theorem dX1_turnOnce_34 : decode cX1_turnOnce 34 = .ok (.aload_n 0, 1) := by decide +kernel
theorem dX1_turnOnce_35 : decode cX1_turnOnce 35 = .ok (.aload_n 1, 1) := by decide +kernel
theorem dX1_turnOnce_36 : decode cX1_turnOnce 36 = .ok (.invokevirtual 91, 3) := by decide +kernel
theorem dX1_turnOnce_39 : decode cX1_turnOnce 39 = .ok (.aload_n 0, 1) := by decide +kernel
theorem dX1_turnOnce_40 : decode cX1_turnOnce 40 = .ok (.dup, 1) := by decide +kernel
theorem dX1_turnOnce_41 : decode cX1_turnOnce 41 = .ok (.getfield 40, 3) := by decide +kernel
theorem dX1_turnOnce_44 : decode cX1_turnOnce 44 = .ok (.iconst 1, 1) := by decide +kernel
theorem dX1_turnOnce_45 : decode cX1_turnOnce 45 = .ok (.iadd, 1) := by decide +kernel
theorem dX1_turnOnce_46 : decode cX1_turnOnce 46 = .ok (.putfield 40, 3) := by decide +kernel
theorem dX1_turnOnce_49 : decode cX1_turnOnce 49 = .ok (.aload_n 1, 1) := by decide +kernel
theorem dX1_turnOnce_50 : decode cX1_turnOnce 50 = .ok (.getfield 52, 3) := by decide +kernel
theorem dX1_turnOnce_53 : decode cX1_turnOnce 53 = .ok (.bipush 6, 2) := by decide +kernel
theorem dX1_turnOnce_55 : decode cX1_turnOnce 55 = .ok (.iaload, 1) := by decide +kernel
theorem dX1_turnOnce_56 : decode cX1_turnOnce 56 = .ok (.istore 4, 2) := by decide +kernel
theorem dX1_turnOnce_58 : decode cX1_turnOnce 58 = .ok (.iload 4, 2) := by decide +kernel
theorem dX1_turnOnce_60 : decode cX1_turnOnce 60 = .ok (.ifCond .le 29, 3) := by decide +kernel
theorem dX1_turnOnce_63 : decode cX1_turnOnce 63 = .ok (.aload_n 0, 1) := by decide +kernel
theorem dX1_turnOnce_64 : decode cX1_turnOnce 64 = .ok (.getfield 40, 3) := by decide +kernel
theorem dX1_turnOnce_67 : decode cX1_turnOnce 67 = .ok (.iload 4, 2) := by decide +kernel
theorem dX1_turnOnce_69 : decode cX1_turnOnce 69 = .ok (.irem, 1) := by decide +kernel
theorem dX1_turnOnce_70 : decode cX1_turnOnce 70 = .ok (.ifCond .ne 19, 3) := by decide +kernel
theorem dX1_turnOnce_73 : decode cX1_turnOnce 73 = .ok (.aload_n 0, 1) := by decide +kernel
theorem dX1_turnOnce_74 : decode cX1_turnOnce 74 = .ok (.sipush 400, 3) := by decide +kernel
theorem dX1_turnOnce_77 : decode cX1_turnOnce 77 = .ok (.aload_n 0, 1) := by decide +kernel
theorem dX1_turnOnce_78 : decode cX1_turnOnce 78 = .ok (.getfield 34, 3) := by decide +kernel
theorem dX1_turnOnce_81 : decode cX1_turnOnce 81 = .ok (.iload_n 2, 1) := by decide +kernel
theorem dX1_turnOnce_82 : decode cX1_turnOnce 82 = .ok (.iadd, 1) := by decide +kernel
theorem dX1_turnOnce_83 : decode cX1_turnOnce 83 = .ok (.invokestatic 69, 3) := by decide +kernel
theorem dX1_turnOnce_86 : decode cX1_turnOnce 86 = .ok (.putfield 34, 3) := by decide +kernel
theorem dX1_turnOnce_89 : decode cX1_turnOnce 89 = .ok (.iload_n 3, 1) := by decide +kernel
theorem dX1_turnOnce_90 : decode cX1_turnOnce 90 = .ok (.ireturn, 1) := by decide +kernel
theorem dX1_beatIn_0 : decode cX1_beatIn 0 = .ok (.aload_n 0, 1) := by decide +kernel
theorem dX1_beatIn_1 : decode cX1_beatIn 1 = .ok (.invokevirtual 55, 3) := by decide +kernel
theorem dX1_beatIn_4 : decode cX1_beatIn 4 = .ok (.ifCond .ne 26, 3) := by decide +kernel
theorem dX1_beatIn_7 : decode cX1_beatIn 7 = .ok (.aload_n 0, 1) := by decide +kernel
theorem dX1_beatIn_8 : decode cX1_beatIn 8 = .ok (.sipush 1000, 3) := by decide +kernel
theorem dX1_beatIn_11 : decode cX1_beatIn 11 = .ok (.aload_n 0, 1) := by decide +kernel
theorem dX1_beatIn_12 : decode cX1_beatIn 12 = .ok (.getfield 37, 3) := by decide +kernel
theorem dX1_beatIn_15 : decode cX1_beatIn 15 = .ok (.aload_n 1, 1) := by decide +kernel
theorem dX1_beatIn_16 : decode cX1_beatIn 16 = .ok (.getfield 52, 3) := by decide +kernel
theorem dX1_beatIn_19 : decode cX1_beatIn 19 = .ok (.iconst 3, 1) := by decide +kernel
theorem dX1_beatIn_20 : decode cX1_beatIn 20 = .ok (.iaload, 1) := by decide +kernel
theorem dX1_beatIn_21 : decode cX1_beatIn 21 = .ok (.iload_n 2, 1) := by decide +kernel
theorem dX1_beatIn_22 : decode cX1_beatIn 22 = .ok (.imul, 1) := by decide +kernel
theorem dX1_beatIn_23 : decode cX1_beatIn 23 = .ok (.iadd, 1) := by decide +kernel
theorem dX1_beatIn_24 : decode cX1_beatIn 24 = .ok (.invokestatic 69, 3) := by decide +kernel
theorem dX1_beatIn_27 : decode cX1_beatIn 27 = .ok (.putfield 37, 3) := by decide +kernel
theorem dX1_beatIn_30 : decode cX1_beatIn 30 = .ok (.return_, 1) := by decide +kernel
theorem dX1_rate_0 : decode cX1_rate 0 = .ok (.aload_n 0, 1) := by decide +kernel
theorem dX1_rate_1 : decode cX1_rate 1 = .ok (.invokevirtual 55, 3) := by decide +kernel
theorem dX1_rate_4 : decode cX1_rate 4 = .ok (.ifCond .eq 13, 3) := by decide +kernel
theorem dX1_rate_7 : decode cX1_rate 7 = .ok (.bipush 100, 2) := by decide +kernel
theorem dX1_rate_9 : decode cX1_rate 9 = .ok (.bipush 20, 2) := by decide +kernel
theorem dX1_rate_11 : decode cX1_rate 11 = .ok (.iload_n 2, 1) := by decide +kernel
theorem dX1_rate_12 : decode cX1_rate 12 = .ok (.imul, 1) := by decide +kernel
theorem dX1_rate_13 : decode cX1_rate 13 = .ok (.invokestatic 69, 3) := by decide +kernel
theorem dX1_rate_16 : decode cX1_rate 16 = .ok (.ireturn, 1) := by decide +kernel
theorem dX1_rate_17 : decode cX1_rate 17 = .ok (.aload_n 0, 1) := by decide +kernel
theorem dX1_rate_18 : decode cX1_rate 18 = .ok (.aload_n 1, 1) := by decide +kernel
theorem dX1_rate_19 : decode cX1_rate 19 = .ok (.invokevirtual 95, 3) := by decide +kernel
theorem dX1_rate_22 : decode cX1_rate 22 = .ok (.istore_n 3, 1) := by decide +kernel
theorem dX1_rate_23 : decode cX1_rate 23 = .ok (.bipush 100, 2) := by decide +kernel
theorem dX1_rate_25 : decode cX1_rate 25 = .ok (.iload_n 3, 1) := by decide +kernel
theorem dX1_rate_26 : decode cX1_rate 26 = .ok (.bipush 100, 2) := by decide +kernel
theorem dX1_rate_28 : decode cX1_rate 28 = .ok (.iload_n 3, 1) := by decide +kernel
theorem dX1_rate_29 : decode cX1_rate 29 = .ok (.isub, 1) := by decide +kernel
theorem dX1_rate_30 : decode cX1_rate 30 = .ok (.imul, 1) := by decide +kernel
theorem dX1_rate_31 : decode cX1_rate 31 = .ok (.aload_n 0, 1) := by decide +kernel
theorem dX1_rate_32 : decode cX1_rate 32 = .ok (.getfield 37, 3) := by decide +kernel
theorem dX1_rate_35 : decode cX1_rate 35 = .ok (.imul, 1) := by decide +kernel
theorem dX1_rate_36 : decode cX1_rate 36 = .ok (.sipush 25000, 3) := by decide +kernel
theorem dX1_rate_39 : decode cX1_rate 39 = .ok (.idiv, 1) := by decide +kernel
theorem dX1_rate_40 : decode cX1_rate 40 = .ok (.invokestatic 69, 3) := by decide +kernel
theorem dX1_rate_43 : decode cX1_rate 43 = .ok (.ireturn, 1) := by decide +kernel
theorem dX1_joinDrops_0 : decode cX1_joinDrops 0 = .ok (.aload_n 0, 1) := by decide +kernel
theorem dX1_joinDrops_1 : decode cX1_joinDrops 1 = .ok (.getfield 11, 3) := by decide +kernel
theorem dX1_joinDrops_4 : decode cX1_joinDrops 4 = .ok (.arraylength, 1) := by decide +kernel
theorem dX1_joinDrops_5 : decode cX1_joinDrops 5 = .ok (.iconst 2, 1) := by decide +kernel
theorem dX1_joinDrops_6 : decode cX1_joinDrops 6 = .ok (.isub, 1) := by decide +kernel
theorem dX1_joinDrops_7 : decode cX1_joinDrops 7 = .ok (.istore_n 2, 1) := by decide +kernel
theorem dX1_joinDrops_8 : decode cX1_joinDrops 8 = .ok (.iload_n 2, 1) := by decide +kernel
theorem dX1_joinDrops_9 : decode cX1_joinDrops 9 = .ok (.ifCond .lt 46, 3) := by decide +kernel
theorem dX1_joinDrops_12 : decode cX1_joinDrops 12 = .ok (.iload_n 1, 1) := by decide +kernel
theorem dX1_joinDrops_13 : decode cX1_joinDrops 13 = .ok (.aload_n 0, 1) := by decide +kernel
theorem dX1_joinDrops_14 : decode cX1_joinDrops 14 = .ok (.getfield 11, 3) := by decide +kernel
theorem dX1_joinDrops_17 : decode cX1_joinDrops 17 = .ok (.iload_n 2, 1) := by decide +kernel
theorem dX1_joinDrops_18 : decode cX1_joinDrops 18 = .ok (.iaload, 1) := by decide +kernel
theorem dX1_joinDrops_19 : decode cX1_joinDrops 19 = .ok (.imul, 1) := by decide +kernel
theorem dX1_joinDrops_20 : decode cX1_joinDrops 20 = .ok (.sipush 200, 3) := by decide +kernel
theorem dX1_joinDrops_23 : decode cX1_joinDrops 23 = .ok (.idiv, 1) := by decide +kernel
theorem dX1_joinDrops_24 : decode cX1_joinDrops 24 = .ok (.istore_n 3, 1) := by decide +kernel
theorem dX1_joinDrops_25 : decode cX1_joinDrops 25 = .ok (.aload_n 0, 1) := by decide +kernel
theorem dX1_joinDrops_26 : decode cX1_joinDrops 26 = .ok (.getfield 11, 3) := by decide +kernel
theorem dX1_joinDrops_29 : decode cX1_joinDrops 29 = .ok (.iload_n 2, 1) := by decide +kernel
theorem dX1_joinDrops_30 : decode cX1_joinDrops 30 = .ok (.dup2, 1) := by decide +kernel
theorem dX1_joinDrops_31 : decode cX1_joinDrops 31 = .ok (.iaload, 1) := by decide +kernel
theorem dX1_joinDrops_32 : decode cX1_joinDrops 32 = .ok (.iconst 2, 1) := by decide +kernel
theorem dX1_joinDrops_33 : decode cX1_joinDrops 33 = .ok (.iload_n 3, 1) := by decide +kernel
theorem dX1_joinDrops_34 : decode cX1_joinDrops 34 = .ok (.imul, 1) := by decide +kernel
theorem dX1_joinDrops_35 : decode cX1_joinDrops 35 = .ok (.isub, 1) := by decide +kernel
theorem dX1_joinDrops_36 : decode cX1_joinDrops 36 = .ok (.iastore, 1) := by decide +kernel
theorem dX1_joinDrops_37 : decode cX1_joinDrops 37 = .ok (.aload_n 0, 1) := by decide +kernel
theorem dX1_joinDrops_38 : decode cX1_joinDrops 38 = .ok (.getfield 11, 3) := by decide +kernel
theorem dX1_joinDrops_41 : decode cX1_joinDrops 41 = .ok (.iload_n 2, 1) := by decide +kernel
theorem dX1_joinDrops_42 : decode cX1_joinDrops 42 = .ok (.iconst 1, 1) := by decide +kernel
theorem dX1_joinDrops_43 : decode cX1_joinDrops 43 = .ok (.iadd, 1) := by decide +kernel
theorem dX1_joinDrops_44 : decode cX1_joinDrops 44 = .ok (.dup2, 1) := by decide +kernel
theorem dX1_joinDrops_45 : decode cX1_joinDrops 45 = .ok (.iaload, 1) := by decide +kernel
theorem dX1_joinDrops_46 : decode cX1_joinDrops 46 = .ok (.iload_n 3, 1) := by decide +kernel
theorem dX1_joinDrops_47 : decode cX1_joinDrops 47 = .ok (.iadd, 1) := by decide +kernel
theorem dX1_joinDrops_48 : decode cX1_joinDrops 48 = .ok (.iastore, 1) := by decide +kernel
theorem dX1_joinDrops_49 : decode cX1_joinDrops 49 = .ok (.iinc 2 (-1), 3) := by decide +kernel
theorem dX1_joinDrops_52 : decode cX1_joinDrops 52 = .ok (.goto (-44), 3) := by decide +kernel
theorem dX1_joinDrops_55 : decode cX1_joinDrops 55 = .ok (.return_, 1) := by decide +kernel
theorem dX1_breakIfDue_0 : decode cX1_breakIfDue 0 = .ok (.aload_n 0, 1) := by decide +kernel
theorem dX1_breakIfDue_1 : decode cX1_breakIfDue 1 = .ok (.invokevirtual 55, 3) := by decide +kernel
theorem dX1_breakIfDue_4 : decode cX1_breakIfDue 4 = .ok (.ifCond .eq 4, 3) := by decide +kernel
theorem dX1_breakIfDue_7 : decode cX1_breakIfDue 7 = .ok (.return_, 1) := by decide +kernel
theorem dX1_breakIfDue_8 : decode cX1_breakIfDue 8 = .ok (.aload_n 0, 1) := by decide +kernel
theorem dX1_breakIfDue_9 : decode cX1_breakIfDue 9 = .ok (.iconst 0, 1) := by decide +kernel
theorem dX1_breakIfDue_10 : decode cX1_breakIfDue 10 = .ok (.invokevirtual 99, 3) := by decide +kernel
theorem dX1_breakIfDue_13 : decode cX1_breakIfDue 13 = .ok (.istore_n 2, 1) := by decide +kernel
theorem dX1_breakIfDue_14 : decode cX1_breakIfDue 14 = .ok (.iload_n 2, 1) := by decide +kernel
theorem dX1_breakIfDue_15 : decode cX1_breakIfDue 15 = .ok (.ifCond .le 32, 3) := by decide +kernel
theorem dX1_breakIfDue_18 : decode cX1_breakIfDue 18 = .ok (.iconst 2, 1) := by decide +kernel
theorem dX1_breakIfDue_19 : decode cX1_breakIfDue 19 = .ok (.aload_n 0, 1) := by decide +kernel
theorem dX1_breakIfDue_20 : decode cX1_breakIfDue 20 = .ok (.aload_n 1, 1) := by decide +kernel
theorem dX1_breakIfDue_21 : decode cX1_breakIfDue 21 = .ok (.getfield 52, 3) := by decide +kernel
theorem dX1_breakIfDue_24 : decode cX1_breakIfDue 24 = .ok (.iconst 5, 1) := by decide +kernel
theorem dX1_breakIfDue_25 : decode cX1_breakIfDue 25 = .ok (.iaload, 1) := by decide +kernel
theorem dX1_breakIfDue_26 : decode cX1_breakIfDue 26 = .ok (.invokevirtual 99, 3) := by decide +kernel
theorem dX1_breakIfDue_29 : decode cX1_breakIfDue 29 = .ok (.imul, 1) := by decide +kernel
theorem dX1_breakIfDue_30 : decode cX1_breakIfDue 30 = .ok (.iload_n 2, 1) := by decide +kernel
theorem dX1_breakIfDue_31 : decode cX1_breakIfDue 31 = .ok (.if_icmp .lt 16, 3) := by decide +kernel
theorem dX1_breakIfDue_34 : decode cX1_breakIfDue 34 = .ok (.aload_n 0, 1) := by decide +kernel
theorem dX1_breakIfDue_35 : decode cX1_breakIfDue 35 = .ok (.aload_n 0, 1) := by decide +kernel
theorem dX1_breakIfDue_36 : decode cX1_breakIfDue 36 = .ok (.getfield 40, 3) := by decide +kernel
theorem dX1_breakIfDue_39 : decode cX1_breakIfDue 39 = .ok (.putfield 15, 3) := by decide +kernel
theorem dX1_breakIfDue_42 : decode cX1_breakIfDue 42 = .ok (.aload_n 0, 1) := by decide +kernel
theorem dX1_breakIfDue_43 : decode cX1_breakIfDue 43 = .ok (.iconst 0, 1) := by decide +kernel
theorem dX1_breakIfDue_44 : decode cX1_breakIfDue 44 = .ok (.putfield 37, 3) := by decide +kernel
theorem dX1_breakIfDue_47 : decode cX1_breakIfDue 47 = .ok (.return_, 1) := by decide +kernel
theorem dX1_fatFrom_0 : decode cX1_fatFrom 0 = .ok (.iconst 0, 1) := by decide +kernel
theorem dX1_fatFrom_1 : decode cX1_fatFrom 1 = .ok (.istore_n 2, 1) := by decide +kernel
theorem dX1_fatFrom_2 : decode cX1_fatFrom 2 = .ok (.iconst 0, 1) := by decide +kernel
theorem dX1_fatFrom_3 : decode cX1_fatFrom 3 = .ok (.iload_n 1, 1) := by decide +kernel
theorem dX1_fatFrom_4 : decode cX1_fatFrom 4 = .ok (.invokestatic 72, 3) := by decide +kernel
theorem dX1_fatFrom_7 : decode cX1_fatFrom 7 = .ok (.istore_n 3, 1) := by decide +kernel
theorem dX1_fatFrom_8 : decode cX1_fatFrom 8 = .ok (.iload_n 3, 1) := by decide +kernel
theorem dX1_fatFrom_9 : decode cX1_fatFrom 9 = .ok (.aload_n 0, 1) := by decide +kernel
theorem dX1_fatFrom_10 : decode cX1_fatFrom 10 = .ok (.getfield 11, 3) := by decide +kernel
theorem dX1_fatFrom_13 : decode cX1_fatFrom 13 = .ok (.arraylength, 1) := by decide +kernel
theorem dX1_fatFrom_14 : decode cX1_fatFrom 14 = .ok (.if_icmp .ge 20, 3) := by decide +kernel
theorem dX1_fatFrom_17 : decode cX1_fatFrom 17 = .ok (.iload_n 2, 1) := by decide +kernel
theorem dX1_fatFrom_18 : decode cX1_fatFrom 18 = .ok (.aload_n 0, 1) := by decide +kernel
theorem dX1_fatFrom_19 : decode cX1_fatFrom 19 = .ok (.getfield 11, 3) := by decide +kernel
theorem dX1_fatFrom_22 : decode cX1_fatFrom 22 = .ok (.iload_n 3, 1) := by decide +kernel
theorem dX1_fatFrom_23 : decode cX1_fatFrom 23 = .ok (.iaload, 1) := by decide +kernel
theorem dX1_fatFrom_24 : decode cX1_fatFrom 24 = .ok (.iload_n 3, 1) := by decide +kernel
theorem dX1_fatFrom_25 : decode cX1_fatFrom 25 = .ok (.ishl, 1) := by decide +kernel
theorem dX1_fatFrom_26 : decode cX1_fatFrom 26 = .ok (.iadd, 1) := by decide +kernel
theorem dX1_fatFrom_27 : decode cX1_fatFrom 27 = .ok (.istore_n 2, 1) := by decide +kernel
theorem dX1_fatFrom_28 : decode cX1_fatFrom 28 = .ok (.iinc 3 1, 3) := by decide +kernel
theorem dX1_fatFrom_31 : decode cX1_fatFrom 31 = .ok (.goto (-23), 3) := by decide +kernel
theorem dX1_fatFrom_34 : decode cX1_fatFrom 34 = .ok (.iload_n 2, 1) := by decide +kernel
theorem dX1_fatFrom_35 : decode cX1_fatFrom 35 = .ok (.ireturn, 1) := by decide +kernel
theorem dX1_left_0 : decode cX1_left 0 = .ok (.aload_n 0, 1) := by decide +kernel
theorem dX1_left_1 : decode cX1_left 1 = .ok (.iconst 0, 1) := by decide +kernel
theorem dX1_left_2 : decode cX1_left 2 = .ok (.invokevirtual 99, 3) := by decide +kernel
theorem dX1_left_5 : decode cX1_left 5 = .ok (.aload_n 0, 1) := by decide +kernel
theorem dX1_left_6 : decode cX1_left 6 = .ok (.aload_n 1, 1) := by decide +kernel
theorem dX1_left_7 : decode cX1_left 7 = .ok (.getfield 52, 3) := by decide +kernel
theorem dX1_left_10 : decode cX1_left 10 = .ok (.iconst 5, 1) := by decide +kernel
theorem dX1_left_11 : decode cX1_left 11 = .ok (.iaload, 1) := by decide +kernel
theorem dX1_left_12 : decode cX1_left 12 = .ok (.invokevirtual 99, 3) := by decide +kernel
theorem dX1_left_15 : decode cX1_left 15 = .ok (.isub, 1) := by decide +kernel
theorem dX1_left_16 : decode cX1_left 16 = .ok (.ireturn, 1) := by decide +kernel
theorem dX1_isMostlyGreatest_0 : decode cX1_isMostlyGreatest 0 = .ok (.bipush 10, 2) := by decide +kernel
theorem dX1_isMostlyGreatest_2 : decode cX1_isMostlyGreatest 2 = .ok (.aload_n 0, 1) := by decide +kernel
theorem dX1_isMostlyGreatest_3 : decode cX1_isMostlyGreatest 3 = .ok (.bipush 6, 2) := by decide +kernel
theorem dX1_isMostlyGreatest_5 : decode cX1_isMostlyGreatest 5 = .ok (.invokevirtual 99, 3) := by decide +kernel
theorem dX1_isMostlyGreatest_8 : decode cX1_isMostlyGreatest 8 = .ok (.imul, 1) := by decide +kernel
theorem dX1_isMostlyGreatest_9 : decode cX1_isMostlyGreatest 9 = .ok (.bipush 9, 2) := by decide +kernel
theorem dX1_isMostlyGreatest_11 : decode cX1_isMostlyGreatest 11 = .ok (.aload_n 0, 1) := by decide +kernel
theorem dX1_isMostlyGreatest_12 : decode cX1_isMostlyGreatest 12 = .ok (.iconst 0, 1) := by decide +kernel
theorem dX1_isMostlyGreatest_13 : decode cX1_isMostlyGreatest 13 = .ok (.invokevirtual 99, 3) := by decide +kernel
theorem dX1_isMostlyGreatest_16 : decode cX1_isMostlyGreatest 16 = .ok (.imul, 1) := by decide +kernel
theorem dX1_isMostlyGreatest_17 : decode cX1_isMostlyGreatest 17 = .ok (.if_icmp .lt 7, 3) := by decide +kernel
theorem dX1_isMostlyGreatest_20 : decode cX1_isMostlyGreatest 20 = .ok (.iconst 1, 1) := by decide +kernel
theorem dX1_isMostlyGreatest_21 : decode cX1_isMostlyGreatest 21 = .ok (.goto 4, 3) := by decide +kernel
theorem dX1_isMostlyGreatest_24 : decode cX1_isMostlyGreatest 24 = .ok (.iconst 0, 1) := by decide +kernel
theorem dX1_isMostlyGreatest_25 : decode cX1_isMostlyGreatest 25 = .ok (.ireturn, 1) := by decide +kernel
theorem dX1_dropsOf_0 : decode cX1_dropsOf 0 = .ok (.iload_n 1, 1) := by decide +kernel
theorem dX1_dropsOf_1 : decode cX1_dropsOf 1 = .ok (.ifCond .lt 21, 3) := by decide +kernel
theorem dX1_dropsOf_4 : decode cX1_dropsOf 4 = .ok (.iload_n 1, 1) := by decide +kernel
theorem dX1_dropsOf_5 : decode cX1_dropsOf 5 = .ok (.aload_n 0, 1) := by decide +kernel
theorem dX1_dropsOf_6 : decode cX1_dropsOf 6 = .ok (.getfield 11, 3) := by decide +kernel
theorem dX1_dropsOf_9 : decode cX1_dropsOf 9 = .ok (.arraylength, 1) := by decide +kernel
theorem dX1_dropsOf_10 : decode cX1_dropsOf 10 = .ok (.if_icmp .ge 12, 3) := by decide +kernel
theorem dX1_dropsOf_13 : decode cX1_dropsOf 13 = .ok (.aload_n 0, 1) := by decide +kernel
theorem dX1_dropsOf_14 : decode cX1_dropsOf 14 = .ok (.getfield 11, 3) := by decide +kernel
theorem dX1_dropsOf_17 : decode cX1_dropsOf 17 = .ok (.iload_n 1, 1) := by decide +kernel
theorem dX1_dropsOf_18 : decode cX1_dropsOf 18 = .ok (.iaload, 1) := by decide +kernel
theorem dX1_dropsOf_19 : decode cX1_dropsOf 19 = .ok (.goto 4, 3) := by decide +kernel
theorem dX1_dropsOf_22 : decode cX1_dropsOf 22 = .ok (.iconst (-1), 1) := by decide +kernel
theorem dX1_dropsOf_23 : decode cX1_dropsOf 23 = .ok (.ireturn, 1) := by decide +kernel
theorem dX1_tell_0 : decode cX1_tell 0 = .ok (.iload_n 2, 1) := by decide +kernel
theorem dX1_tell_1 : decode cX1_tell 1 = .ok (.tableswitch 118 0 9 #[55, 60, 65, 71, 76, 81, 86, 92, 98, 112], 55) := by decide +kernel
theorem dX1_tell_56 : decode cX1_tell 56 = .ok (.aload_n 0, 1) := by decide +kernel
theorem dX1_tell_57 : decode cX1_tell 57 = .ok (.getfield 25, 3) := by decide +kernel
theorem dX1_tell_60 : decode cX1_tell 60 = .ok (.ireturn, 1) := by decide +kernel
theorem dX1_tell_61 : decode cX1_tell 61 = .ok (.aload_n 0, 1) := by decide +kernel
theorem dX1_tell_62 : decode cX1_tell 62 = .ok (.getfield 34, 3) := by decide +kernel
theorem dX1_tell_65 : decode cX1_tell 65 = .ok (.ireturn, 1) := by decide +kernel
theorem dX1_tell_66 : decode cX1_tell 66 = .ok (.aload_n 0, 1) := by decide +kernel
theorem dX1_tell_67 : decode cX1_tell 67 = .ok (.aload_n 1, 1) := by decide +kernel
theorem dX1_tell_68 : decode cX1_tell 68 = .ok (.invokevirtual 95, 3) := by decide +kernel
theorem dX1_tell_71 : decode cX1_tell 71 = .ok (.ireturn, 1) := by decide +kernel
theorem dX1_tell_72 : decode cX1_tell 72 = .ok (.aload_n 0, 1) := by decide +kernel
theorem dX1_tell_73 : decode cX1_tell 73 = .ok (.getfield 37, 3) := by decide +kernel
theorem dX1_tell_76 : decode cX1_tell 76 = .ok (.ireturn, 1) := by decide +kernel
theorem dX1_tell_77 : decode cX1_tell 77 = .ok (.aload_n 0, 1) := by decide +kernel
theorem dX1_tell_78 : decode cX1_tell 78 = .ok (.getfield 40, 3) := by decide +kernel
theorem dX1_tell_81 : decode cX1_tell 81 = .ok (.ireturn, 1) := by decide +kernel
theorem dX1_tell_82 : decode cX1_tell 82 = .ok (.aload_n 0, 1) := by decide +kernel
theorem dX1_tell_83 : decode cX1_tell 83 = .ok (.getfield 15, 3) := by decide +kernel
theorem dX1_tell_86 : decode cX1_tell 86 = .ok (.ireturn, 1) := by decide +kernel
theorem dX1_tell_87 : decode cX1_tell 87 = .ok (.aload_n 0, 1) := by decide +kernel
theorem dX1_tell_88 : decode cX1_tell 88 = .ok (.aload_n 1, 1) := by decide +kernel
theorem dX1_tell_89 : decode cX1_tell 89 = .ok (.invokevirtual 102, 3) := by decide +kernel
theorem dX1_tell_92 : decode cX1_tell 92 = .ok (.ireturn, 1) := by decide +kernel
theorem dX1_tell_93 : decode cX1_tell 93 = .ok (.aload_n 0, 1) := by decide +kernel
theorem dX1_tell_94 : decode cX1_tell 94 = .ok (.iconst 0, 1) := by decide +kernel
theorem dX1_tell_95 : decode cX1_tell 95 = .ok (.invokevirtual 99, 3) := by decide +kernel
theorem dX1_tell_98 : decode cX1_tell 98 = .ok (.ireturn, 1) := by decide +kernel
theorem dX1_tell_99 : decode cX1_tell 99 = .ok (.aload_n 0, 1) := by decide +kernel
theorem dX1_tell_100 : decode cX1_tell 100 = .ok (.aload_n 1, 1) := by decide +kernel
theorem dX1_tell_101 : decode cX1_tell 101 = .ok (.invokevirtual 75, 3) := by decide +kernel
theorem dX1_tell_104 : decode cX1_tell 104 = .ok (.ifCond .eq 7, 3) := by decide +kernel
theorem dX1_tell_107 : decode cX1_tell 107 = .ok (.iconst 1, 1) := by decide +kernel
theorem dX1_tell_108 : decode cX1_tell 108 = .ok (.goto 4, 3) := by decide +kernel
theorem dX1_tell_111 : decode cX1_tell 111 = .ok (.iconst 0, 1) := by decide +kernel
theorem dX1_tell_112 : decode cX1_tell 112 = .ok (.ireturn, 1) := by decide +kernel
theorem dX1_tell_113 : decode cX1_tell 113 = .ok (.aload_n 0, 1) := by decide +kernel
theorem dX1_tell_114 : decode cX1_tell 114 = .ok (.aload_n 1, 1) := by decide +kernel
theorem dX1_tell_115 : decode cX1_tell 115 = .ok (.invokevirtual 105, 3) := by decide +kernel
theorem dX1_tell_118 : decode cX1_tell 118 = .ok (.ireturn, 1) := by decide +kernel
theorem dX1_tell_119 : decode cX1_tell 119 = .ok (.iconst (-1), 1) := by decide +kernel
theorem dX1_tell_120 : decode cX1_tell 120 = .ok (.ireturn, 1) := by decide +kernel
theorem dX1_outcome_0 : decode cX1_outcome 0 = .ok (.aload_n 0, 1) := by decide +kernel
theorem dX1_outcome_1 : decode cX1_outcome 1 = .ok (.aload_n 1, 1) := by decide +kernel
theorem dX1_outcome_2 : decode cX1_outcome 2 = .ok (.invokevirtual 75, 3) := by decide +kernel
theorem dX1_outcome_5 : decode cX1_outcome 5 = .ok (.ifCond .eq 5, 3) := by decide +kernel
theorem dX1_outcome_8 : decode cX1_outcome 8 = .ok (.iconst 2, 1) := by decide +kernel
theorem dX1_outcome_9 : decode cX1_outcome 9 = .ok (.ireturn, 1) := by decide +kernel
theorem dX1_outcome_10 : decode cX1_outcome 10 = .ok (.aload_n 0, 1) := by decide +kernel
theorem dX1_outcome_11 : decode cX1_outcome 11 = .ok (.invokevirtual 55, 3) := by decide +kernel
theorem dX1_outcome_14 : decode cX1_outcome 14 = .ok (.ifCond .ne 5, 3) := by decide +kernel
theorem dX1_outcome_17 : decode cX1_outcome 17 = .ok (.iconst 0, 1) := by decide +kernel
theorem dX1_outcome_18 : decode cX1_outcome 18 = .ok (.ireturn, 1) := by decide +kernel
theorem dX1_outcome_19 : decode cX1_outcome 19 = .ok (.aload_n 0, 1) := by decide +kernel
theorem dX1_outcome_20 : decode cX1_outcome 20 = .ok (.aload_n 1, 1) := by decide +kernel
theorem dX1_outcome_21 : decode cX1_outcome 21 = .ok (.invokevirtual 95, 3) := by decide +kernel
theorem dX1_outcome_24 : decode cX1_outcome 24 = .ok (.aload_n 1, 1) := by decide +kernel
theorem dX1_outcome_25 : decode cX1_outcome 25 = .ok (.getfield 52, 3) := by decide +kernel
theorem dX1_outcome_28 : decode cX1_outcome 28 = .ok (.bipush 7, 2) := by decide +kernel
theorem dX1_outcome_30 : decode cX1_outcome 30 = .ok (.iaload, 1) := by decide +kernel
theorem dX1_outcome_31 : decode cX1_outcome 31 = .ok (.if_icmp .ge 5, 3) := by decide +kernel
theorem dX1_outcome_34 : decode cX1_outcome 34 = .ok (.iconst 3, 1) := by decide +kernel
theorem dX1_outcome_35 : decode cX1_outcome 35 = .ok (.ireturn, 1) := by decide +kernel
theorem dX1_outcome_36 : decode cX1_outcome 36 = .ok (.aload_n 0, 1) := by decide +kernel
theorem dX1_outcome_37 : decode cX1_outcome 37 = .ok (.invokevirtual 108, 3) := by decide +kernel
theorem dX1_outcome_40 : decode cX1_outcome 40 = .ok (.ifCond .eq 5, 3) := by decide +kernel
theorem dX1_outcome_43 : decode cX1_outcome 43 = .ok (.iconst 5, 1) := by decide +kernel
theorem dX1_outcome_44 : decode cX1_outcome 44 = .ok (.ireturn, 1) := by decide +kernel
theorem dX1_outcome_45 : decode cX1_outcome 45 = .ok (.bipush 10, 2) := by decide +kernel
theorem dX1_outcome_47 : decode cX1_outcome 47 = .ok (.aload_n 0, 1) := by decide +kernel
theorem dX1_outcome_48 : decode cX1_outcome 48 = .ok (.aload_n 1, 1) := by decide +kernel
theorem dX1_outcome_49 : decode cX1_outcome 49 = .ok (.invokevirtual 102, 3) := by decide +kernel
theorem dX1_outcome_52 : decode cX1_outcome 52 = .ok (.imul, 1) := by decide +kernel
theorem dX1_outcome_53 : decode cX1_outcome 53 = .ok (.aload_n 0, 1) := by decide +kernel
theorem dX1_outcome_54 : decode cX1_outcome 54 = .ok (.iconst 0, 1) := by decide +kernel
theorem dX1_outcome_55 : decode cX1_outcome 55 = .ok (.invokevirtual 99, 3) := by decide +kernel
theorem dX1_outcome_58 : decode cX1_outcome 58 = .ok (.if_icmp .le 7, 3) := by decide +kernel
theorem dX1_outcome_61 : decode cX1_outcome 61 = .ok (.iconst 4, 1) := by decide +kernel
theorem dX1_outcome_62 : decode cX1_outcome 62 = .ok (.goto 4, 3) := by decide +kernel
theorem dX1_outcome_65 : decode cX1_outcome 65 = .ok (.iconst 1, 1) := by decide +kernel
theorem dX1_outcome_66 : decode cX1_outcome 66 = .ok (.ireturn, 1) := by decide +kernel
theorem dX2_init_0 : decode cX2_init 0 = .ok (.aload_n 0, 1) := by decide +kernel
theorem dX2_init_1 : decode cX2_init 1 = .ok (.invokespecial 1, 3) := by decide +kernel
theorem dX2_init_4 : decode cX2_init 4 = .ok (.aload_n 0, 1) := by decide +kernel
theorem dX2_init_5 : decode cX2_init 5 = .ok (.new 7, 3) := by decide +kernel
theorem dX2_init_8 : decode cX2_init 8 = .ok (.dup, 1) := by decide +kernel
theorem dX2_init_9 : decode cX2_init 9 = .ok (.invokespecial 9, 3) := by decide +kernel
theorem dX2_init_12 : decode cX2_init 12 = .ok (.putfield 10, 3) := by decide +kernel
theorem dX2_init_15 : decode cX2_init 15 = .ok (.return_, 1) := by decide +kernel
theorem dX4_init_0 : decode cX4_init 0 = .ok (.aload_n 0, 1) := by decide +kernel
theorem dX4_init_1 : decode cX4_init 1 = .ok (.invokespecial 1, 3) := by decide +kernel
theorem dX4_init_4 : decode cX4_init 4 = .ok (.aload_n 0, 1) := by decide +kernel
theorem dX4_init_5 : decode cX4_init 5 = .ok (.bipush 40, 2) := by decide +kernel
theorem dX4_init_7 : decode cX4_init 7 = .ok (.newarray .int, 2) := by decide +kernel
theorem dX4_init_9 : decode cX4_init 9 = .ok (.putfield 9, 3) := by decide +kernel
theorem dX4_init_12 : decode cX4_init 12 = .ok (.aload_n 0, 1) := by decide +kernel
theorem dX4_init_13 : decode cX4_init 13 = .ok (.iconst (-1), 1) := by decide +kernel
theorem dX4_init_14 : decode cX4_init 14 = .ok (.putfield 13, 3) := by decide +kernel
theorem dX4_init_17 : decode cX4_init 17 = .ok (.return_, 1) := by decide +kernel
theorem dX4_isThere_0 : decode cX4_isThere 0 = .ok (.aload_n 0, 1) := by decide +kernel
theorem dX4_isThere_1 : decode cX4_isThere 1 = .ok (.getfield 13, 3) := by decide +kernel
theorem dX4_isThere_4 : decode cX4_isThere 4 = .ok (.iconst (-1), 1) := by decide +kernel
theorem dX4_isThere_5 : decode cX4_isThere 5 = .ok (.if_icmp .eq 7, 3) := by decide +kernel
theorem dX4_isThere_8 : decode cX4_isThere 8 = .ok (.iconst 1, 1) := by decide +kernel
theorem dX4_isThere_9 : decode cX4_isThere 9 = .ok (.goto 4, 3) := by decide +kernel
theorem dX4_isThere_12 : decode cX4_isThere 12 = .ok (.iconst 0, 1) := by decide +kernel
theorem dX4_isThere_13 : decode cX4_isThere 13 = .ok (.ireturn, 1) := by decide +kernel
theorem dX4_renew_0 : decode cX4_renew 0 = .ok (.aload_n 0, 1) := by decide +kernel
theorem dX4_renew_1 : decode cX4_renew 1 = .ok (.iload_n 1, 1) := by decide +kernel
theorem dX4_renew_2 : decode cX4_renew 2 = .ok (.putfield 17, 3) := by decide +kernel
theorem dX4_renew_5 : decode cX4_renew 5 = .ok (.aload_n 0, 1) := by decide +kernel
theorem dX4_renew_6 : decode cX4_renew 6 = .ok (.iload_n 2, 1) := by decide +kernel
theorem dX4_renew_7 : decode cX4_renew 7 = .ok (.putfield 13, 3) := by decide +kernel
theorem dX4_renew_10 : decode cX4_renew 10 = .ok (.iconst 0, 1) := by decide +kernel
theorem dX4_renew_11 : decode cX4_renew 11 = .ok (.istore_n 3, 1) := by decide +kernel
theorem dX4_renew_12 : decode cX4_renew 12 = .ok (.iload_n 3, 1) := by decide +kernel
theorem dX4_renew_13 : decode cX4_renew 13 = .ok (.aload_n 0, 1) := by decide +kernel
theorem dX4_renew_14 : decode cX4_renew 14 = .ok (.getfield 9, 3) := by decide +kernel
theorem dX4_renew_17 : decode cX4_renew 17 = .ok (.arraylength, 1) := by decide +kernel
theorem dX4_renew_18 : decode cX4_renew 18 = .ok (.if_icmp .ge 16, 3) := by decide +kernel
theorem dX4_renew_21 : decode cX4_renew 21 = .ok (.aload_n 0, 1) := by decide +kernel
theorem dX4_renew_22 : decode cX4_renew 22 = .ok (.getfield 9, 3) := by decide +kernel
theorem dX4_renew_25 : decode cX4_renew 25 = .ok (.iload_n 3, 1) := by decide +kernel
theorem dX4_renew_26 : decode cX4_renew 26 = .ok (.iconst 0, 1) := by decide +kernel
theorem dX4_renew_27 : decode cX4_renew 27 = .ok (.iastore, 1) := by decide +kernel
theorem dX4_renew_28 : decode cX4_renew 28 = .ok (.iinc 3 1, 3) := by decide +kernel
theorem dX4_renew_31 : decode cX4_renew 31 = .ok (.goto (-19), 3) := by decide +kernel
theorem dX4_renew_34 : decode cX4_renew 34 = .ok (.return_, 1) := by decide +kernel
theorem dX4_put_0 : decode cX4_put 0 = .ok (.aload_n 0, 1) := by decide +kernel
theorem dX4_put_1 : decode cX4_put 1 = .ok (.invokevirtual 20, 3) := by decide +kernel
theorem dX4_put_4 : decode cX4_put 4 = .ok (.ifCond .ne 5, 3) := by decide +kernel
theorem dX4_put_7 : decode cX4_put 7 = .ok (.iconst 1, 1) := by decide +kernel
theorem dX4_put_8 : decode cX4_put 8 = .ok (.ireturn, 1) := by decide +kernel
theorem dX4_put_9 : decode cX4_put 9 = .ok (.iload_n 1, 1) := by decide +kernel
theorem dX4_put_10 : decode cX4_put 10 = .ok (.ifCond .lt 20, 3) := by decide +kernel
theorem dX4_put_13 : decode cX4_put 13 = .ok (.iload_n 1, 1) := by decide +kernel
theorem dX4_put_14 : decode cX4_put 14 = .ok (.aload_n 0, 1) := by decide +kernel
theorem dX4_put_15 : decode cX4_put 15 = .ok (.getfield 13, 3) := by decide +kernel
theorem dX4_put_18 : decode cX4_put 18 = .ok (.if_icmp .ge 12, 3) := by decide +kernel
theorem dX4_put_21 : decode cX4_put 21 = .ok (.iload_n 1, 1) := by decide +kernel
theorem dX4_put_22 : decode cX4_put 22 = .ok (.aload_n 0, 1) := by decide +kernel
theorem dX4_put_23 : decode cX4_put 23 = .ok (.getfield 9, 3) := by decide +kernel
theorem dX4_put_26 : decode cX4_put 26 = .ok (.arraylength, 1) := by decide +kernel
theorem dX4_put_27 : decode cX4_put 27 = .ok (.if_icmp .lt 5, 3) := by decide +kernel
theorem dX4_put_30 : decode cX4_put 30 = .ok (.iconst 2, 1) := by decide +kernel
theorem dX4_put_31 : decode cX4_put 31 = .ok (.ireturn, 1) := by decide +kernel
theorem dX4_put_32 : decode cX4_put 32 = .ok (.aload_n 0, 1) := by decide +kernel
theorem dX4_put_33 : decode cX4_put 33 = .ok (.getfield 9, 3) := by decide +kernel
theorem dX4_put_36 : decode cX4_put 36 = .ok (.iload_n 1, 1) := by decide +kernel
theorem dX4_put_37 : decode cX4_put 37 = .ok (.aload_n 0, 1) := by decide +kernel
theorem dX4_put_38 : decode cX4_put 38 = .ok (.getfield 17, 3) := by decide +kernel
theorem dX4_put_41 : decode cX4_put 41 = .ok (.ifCond .ne 8, 3) := by decide +kernel
theorem dX4_put_44 : decode cX4_put 44 = .ok (.iload_n 2, 1) := by decide +kernel
theorem dX4_put_45 : decode cX4_put 45 = .ok (.i2b, 1) := by decide +kernel
theorem dX4_put_46 : decode cX4_put 46 = .ok (.goto 17, 3) := by decide +kernel
theorem dX4_put_49 : decode cX4_put 49 = .ok (.aload_n 0, 1) := by decide +kernel
theorem dX4_put_50 : decode cX4_put 50 = .ok (.getfield 17, 3) := by decide +kernel
theorem dX4_put_53 : decode cX4_put 53 = .ok (.iconst 1, 1) := by decide +kernel
theorem dX4_put_54 : decode cX4_put 54 = .ok (.if_icmp .ne 8, 3) := by decide +kernel
theorem dX4_put_57 : decode cX4_put 57 = .ok (.iload_n 2, 1) := by decide +kernel
theorem dX4_put_58 : decode cX4_put 58 = .ok (.i2s, 1) := by decide +kernel
theorem dX4_put_59 : decode cX4_put 59 = .ok (.goto 4, 3) := by decide +kernel
theorem dX4_put_62 : decode cX4_put 62 = .ok (.iload_n 2, 1) := by decide +kernel
theorem dX4_put_63 : decode cX4_put 63 = .ok (.iastore, 1) := by decide +kernel
theorem dX4_put_64 : decode cX4_put 64 = .ok (.iconst 0, 1) := by decide +kernel
theorem dX4_put_65 : decode cX4_put 65 = .ok (.ireturn, 1) := by decide +kernel
theorem dX4_cellAt_0 : decode cX4_cellAt 0 = .ok (.iload_n 1, 1) := by decide +kernel
theorem dX4_cellAt_1 : decode cX4_cellAt 1 = .ok (.ifCond .lt 29, 3) := by decide +kernel
theorem dX4_cellAt_4 : decode cX4_cellAt 4 = .ok (.iload_n 1, 1) := by decide +kernel
theorem dX4_cellAt_5 : decode cX4_cellAt 5 = .ok (.aload_n 0, 1) := by decide +kernel
theorem dX4_cellAt_6 : decode cX4_cellAt 6 = .ok (.getfield 13, 3) := by decide +kernel
theorem dX4_cellAt_9 : decode cX4_cellAt 9 = .ok (.if_icmp .ge 21, 3) := by decide +kernel
theorem dX4_cellAt_12 : decode cX4_cellAt 12 = .ok (.iload_n 1, 1) := by decide +kernel
theorem dX4_cellAt_13 : decode cX4_cellAt 13 = .ok (.aload_n 0, 1) := by decide +kernel
theorem dX4_cellAt_14 : decode cX4_cellAt 14 = .ok (.getfield 9, 3) := by decide +kernel
theorem dX4_cellAt_17 : decode cX4_cellAt 17 = .ok (.arraylength, 1) := by decide +kernel
theorem dX4_cellAt_18 : decode cX4_cellAt 18 = .ok (.if_icmp .ge 12, 3) := by decide +kernel
theorem dX4_cellAt_21 : decode cX4_cellAt 21 = .ok (.aload_n 0, 1) := by decide +kernel
theorem dX4_cellAt_22 : decode cX4_cellAt 22 = .ok (.getfield 9, 3) := by decide +kernel
theorem dX4_cellAt_25 : decode cX4_cellAt 25 = .ok (.iload_n 1, 1) := by decide +kernel
theorem dX4_cellAt_26 : decode cX4_cellAt 26 = .ok (.iaload, 1) := by decide +kernel
theorem dX4_cellAt_27 : decode cX4_cellAt 27 = .ok (.goto 4, 3) := by decide +kernel
theorem dX4_cellAt_30 : decode cX4_cellAt 30 = .ok (.iconst 0, 1) := by decide +kernel
theorem dX4_cellAt_31 : decode cX4_cellAt 31 = .ok (.ireturn, 1) := by decide +kernel
theorem dX4_pairsWhole_0 : decode cX4_pairsWhole 0 = .ok (.aload_n 0, 1) := by decide +kernel
theorem dX4_pairsWhole_1 : decode cX4_pairsWhole 1 = .ok (.invokevirtual 20, 3) := by decide +kernel
theorem dX4_pairsWhole_4 : decode cX4_pairsWhole 4 = .ok (.ifCond .eq 23, 3) := by decide +kernel
theorem dX4_pairsWhole_7 : decode cX4_pairsWhole 7 = .ok (.aload_n 0, 1) := by decide +kernel
theorem dX4_pairsWhole_8 : decode cX4_pairsWhole 8 = .ok (.getfield 17, 3) := by decide +kernel
theorem dX4_pairsWhole_11 : decode cX4_pairsWhole 11 = .ok (.iload_n 1, 1) := by decide +kernel
theorem dX4_pairsWhole_12 : decode cX4_pairsWhole 12 = .ok (.if_icmp .ne 15, 3) := by decide +kernel
theorem dX4_pairsWhole_15 : decode cX4_pairsWhole 15 = .ok (.iload_n 2, 1) := by decide +kernel
theorem dX4_pairsWhole_16 : decode cX4_pairsWhole 16 = .ok (.ifCond .lt 11, 3) := by decide +kernel
theorem dX4_pairsWhole_19 : decode cX4_pairsWhole 19 = .ok (.iload_n 2, 1) := by decide +kernel
theorem dX4_pairsWhole_20 : decode cX4_pairsWhole 20 = .ok (.aload_n 0, 1) := by decide +kernel
theorem dX4_pairsWhole_21 : decode cX4_pairsWhole 21 = .ok (.getfield 13, 3) := by decide +kernel
theorem dX4_pairsWhole_24 : decode cX4_pairsWhole 24 = .ok (.if_icmp .lt 5, 3) := by decide +kernel
theorem dX4_pairsWhole_27 : decode cX4_pairsWhole 27 = .ok (.iconst 0, 1) := by decide +kernel
theorem dX4_pairsWhole_28 : decode cX4_pairsWhole 28 = .ok (.ireturn, 1) := by decide +kernel
theorem dX4_pairsWhole_29 : decode cX4_pairsWhole 29 = .ok (.iload_n 3, 1) := by decide +kernel
theorem dX4_pairsWhole_30 : decode cX4_pairsWhole 30 = .ok (.aload_n 0, 1) := by decide +kernel
theorem dX4_pairsWhole_31 : decode cX4_pairsWhole 31 = .ok (.getfield 13, 3) := by decide +kernel
theorem dX4_pairsWhole_34 : decode cX4_pairsWhole 34 = .ok (.iload_n 2, 1) := by decide +kernel
theorem dX4_pairsWhole_35 : decode cX4_pairsWhole 35 = .ok (.isub, 1) := by decide +kernel
theorem dX4_pairsWhole_36 : decode cX4_pairsWhole 36 = .ok (.iconst 2, 1) := by decide +kernel
theorem dX4_pairsWhole_37 : decode cX4_pairsWhole 37 = .ok (.idiv, 1) := by decide +kernel
theorem dX4_pairsWhole_38 : decode cX4_pairsWhole 38 = .ok (.invokestatic 24, 3) := by decide +kernel
theorem dX4_pairsWhole_41 : decode cX4_pairsWhole 41 = .ok (.ireturn, 1) := by decide +kernel
theorem dX4_faultAs_0 : decode cX4_faultAs 0 = .ok (.aload_n 0, 1) := by decide +kernel
theorem dX4_faultAs_1 : decode cX4_faultAs 1 = .ok (.invokevirtual 20, 3) := by decide +kernel
theorem dX4_faultAs_4 : decode cX4_faultAs 4 = .ok (.ifCond .ne 5, 3) := by decide +kernel
theorem dX4_faultAs_7 : decode cX4_faultAs 7 = .ok (.iconst 1, 1) := by decide +kernel
theorem dX4_faultAs_8 : decode cX4_faultAs 8 = .ok (.ireturn, 1) := by decide +kernel
theorem dX4_faultAs_9 : decode cX4_faultAs 9 = .ok (.aload_n 0, 1) := by decide +kernel
theorem dX4_faultAs_10 : decode cX4_faultAs 10 = .ok (.getfield 17, 3) := by decide +kernel
theorem dX4_faultAs_13 : decode cX4_faultAs 13 = .ok (.iload_n 1, 1) := by decide +kernel
theorem dX4_faultAs_14 : decode cX4_faultAs 14 = .ok (.if_icmp .ne 7, 3) := by decide +kernel
theorem dX4_faultAs_17 : decode cX4_faultAs 17 = .ok (.iconst 2, 1) := by decide +kernel
theorem dX4_faultAs_18 : decode cX4_faultAs 18 = .ok (.goto 4, 3) := by decide +kernel
theorem dX4_faultAs_21 : decode cX4_faultAs 21 = .ok (.iconst 3, 1) := by decide +kernel
theorem dX4_faultAs_22 : decode cX4_faultAs 22 = .ok (.ireturn, 1) := by decide +kernel
theorem dX6_init_0 : decode cX6_init 0 = .ok (.aload_n 0, 1) := by decide +kernel
theorem dX6_init_1 : decode cX6_init 1 = .ok (.invokespecial 1, 3) := by decide +kernel
theorem dX6_init_4 : decode cX6_init 4 = .ok (.aload_n 0, 1) := by decide +kernel
theorem dX6_init_5 : decode cX6_init 5 = .ok (.getstatic 7, 3) := by decide +kernel
theorem dX6_init_8 : decode cX6_init 8 = .ok (.invokevirtual 13, 3) := by decide +kernel
theorem dX6_init_11 : decode cX6_init 11 = .ok (.checkcast 14, 3) := by decide +kernel
theorem dX6_init_14 : decode cX6_init 14 = .ok (.putfield 18, 3) := by decide +kernel
theorem dX6_init_17 : decode cX6_init 17 = .ok (.aload_n 0, 1) := by decide +kernel
theorem dX6_init_18 : decode cX6_init 18 = .ok (.getstatic 21, 3) := by decide +kernel
theorem dX6_init_21 : decode cX6_init 21 = .ok (.invokevirtual 13, 3) := by decide +kernel
theorem dX6_init_24 : decode cX6_init 24 = .ok (.checkcast 14, 3) := by decide +kernel
theorem dX6_init_27 : decode cX6_init 27 = .ok (.putfield 24, 3) := by decide +kernel
theorem dX6_init_30 : decode cX6_init 30 = .ok (.aload_n 0, 1) := by decide +kernel
theorem dX6_init_31 : decode cX6_init 31 = .ok (.bipush 8, 2) := by decide +kernel
theorem dX6_init_33 : decode cX6_init 33 = .ok (.newarray .int, 2) := by decide +kernel
theorem dX6_init_35 : decode cX6_init 35 = .ok (.putfield 27, 3) := by decide +kernel
theorem dX6_init_38 : decode cX6_init 38 = .ok (.aload_n 0, 1) := by decide +kernel
theorem dX6_init_39 : decode cX6_init 39 = .ok (.bipush 8, 2) := by decide +kernel
theorem dX6_init_41 : decode cX6_init 41 = .ok (.newarray .int, 2) := by decide +kernel
theorem dX6_init_43 : decode cX6_init 43 = .ok (.putfield 30, 3) := by decide +kernel
theorem dX6_init_46 : decode cX6_init 46 = .ok (.return_, 1) := by decide +kernel
theorem dX6_becomeFirst_0 : decode cX6_becomeFirst 0 = .ok (.getstatic 7, 3) := by decide +kernel
theorem dX6_becomeFirst_3 : decode cX6_becomeFirst 3 = .ok (.iconst 0, 1) := by decide +kernel
theorem dX6_becomeFirst_4 : decode cX6_becomeFirst 4 = .ok (.aload_n 0, 1) := by decide +kernel
theorem dX6_becomeFirst_5 : decode cX6_becomeFirst 5 = .ok (.getfield 18, 3) := by decide +kernel
theorem dX6_becomeFirst_8 : decode cX6_becomeFirst 8 = .ok (.iconst 0, 1) := by decide +kernel
theorem dX6_becomeFirst_9 : decode cX6_becomeFirst 9 = .ok (.aload_n 0, 1) := by decide +kernel
theorem dX6_becomeFirst_10 : decode cX6_becomeFirst 10 = .ok (.getfield 18, 3) := by decide +kernel
theorem dX6_becomeFirst_13 : decode cX6_becomeFirst 13 = .ok (.arraylength, 1) := by decide +kernel
theorem dX6_becomeFirst_14 : decode cX6_becomeFirst 14 = .ok (.invokestatic 33, 3) := by decide +kernel
theorem dX6_becomeFirst_17 : decode cX6_becomeFirst 17 = .ok (.getstatic 21, 3) := by decide +kernel
theorem dX6_becomeFirst_20 : decode cX6_becomeFirst 20 = .ok (.iconst 0, 1) := by decide +kernel
theorem dX6_becomeFirst_21 : decode cX6_becomeFirst 21 = .ok (.aload_n 0, 1) := by decide +kernel
theorem dX6_becomeFirst_22 : decode cX6_becomeFirst 22 = .ok (.getfield 24, 3) := by decide +kernel
theorem dX6_becomeFirst_25 : decode cX6_becomeFirst 25 = .ok (.iconst 0, 1) := by decide +kernel
theorem dX6_becomeFirst_26 : decode cX6_becomeFirst 26 = .ok (.aload_n 0, 1) := by decide +kernel
theorem dX6_becomeFirst_27 : decode cX6_becomeFirst 27 = .ok (.getfield 24, 3) := by decide +kernel
theorem dX6_becomeFirst_30 : decode cX6_becomeFirst 30 = .ok (.arraylength, 1) := by decide +kernel
theorem dX6_becomeFirst_31 : decode cX6_becomeFirst 31 = .ok (.invokestatic 33, 3) := by decide +kernel
theorem dX6_becomeFirst_34 : decode cX6_becomeFirst 34 = .ok (.aload_n 0, 1) := by decide +kernel
theorem dX6_becomeFirst_35 : decode cX6_becomeFirst 35 = .ok (.iconst 0, 1) := by decide +kernel
theorem dX6_becomeFirst_36 : decode cX6_becomeFirst 36 = .ok (.putfield 39, 3) := by decide +kernel
theorem dX6_becomeFirst_39 : decode cX6_becomeFirst 39 = .ok (.return_, 1) := by decide +kernel
theorem dX6_becomeLike_0 : decode cX6_becomeLike 0 = .ok (.aload_n 1, 1) := by decide +kernel
theorem dX6_becomeLike_1 : decode cX6_becomeLike 1 = .ok (.getfield 18, 3) := by decide +kernel
theorem dX6_becomeLike_4 : decode cX6_becomeLike 4 = .ok (.iconst 0, 1) := by decide +kernel
theorem dX6_becomeLike_5 : decode cX6_becomeLike 5 = .ok (.aload_n 0, 1) := by decide +kernel
theorem dX6_becomeLike_6 : decode cX6_becomeLike 6 = .ok (.getfield 18, 3) := by decide +kernel
theorem dX6_becomeLike_9 : decode cX6_becomeLike 9 = .ok (.iconst 0, 1) := by decide +kernel
theorem dX6_becomeLike_10 : decode cX6_becomeLike 10 = .ok (.aload_n 0, 1) := by decide +kernel
theorem dX6_becomeLike_11 : decode cX6_becomeLike 11 = .ok (.getfield 18, 3) := by decide +kernel
theorem dX6_becomeLike_14 : decode cX6_becomeLike 14 = .ok (.arraylength, 1) := by decide +kernel
theorem dX6_becomeLike_15 : decode cX6_becomeLike 15 = .ok (.invokestatic 33, 3) := by decide +kernel
theorem dX6_becomeLike_18 : decode cX6_becomeLike 18 = .ok (.aload_n 1, 1) := by decide +kernel
theorem dX6_becomeLike_19 : decode cX6_becomeLike 19 = .ok (.getfield 24, 3) := by decide +kernel
theorem dX6_becomeLike_22 : decode cX6_becomeLike 22 = .ok (.iconst 0, 1) := by decide +kernel
theorem dX6_becomeLike_23 : decode cX6_becomeLike 23 = .ok (.aload_n 0, 1) := by decide +kernel
theorem dX6_becomeLike_24 : decode cX6_becomeLike 24 = .ok (.getfield 24, 3) := by decide +kernel
theorem dX6_becomeLike_27 : decode cX6_becomeLike 27 = .ok (.iconst 0, 1) := by decide +kernel
theorem dX6_becomeLike_28 : decode cX6_becomeLike 28 = .ok (.aload_n 0, 1) := by decide +kernel
theorem dX6_becomeLike_29 : decode cX6_becomeLike 29 = .ok (.getfield 24, 3) := by decide +kernel
theorem dX6_becomeLike_32 : decode cX6_becomeLike 32 = .ok (.arraylength, 1) := by decide +kernel
theorem dX6_becomeLike_33 : decode cX6_becomeLike 33 = .ok (.invokestatic 33, 3) := by decide +kernel
theorem dX6_becomeLike_36 : decode cX6_becomeLike 36 = .ok (.aload_n 1, 1) := by decide +kernel
theorem dX6_becomeLike_37 : decode cX6_becomeLike 37 = .ok (.getfield 27, 3) := by decide +kernel
theorem dX6_becomeLike_40 : decode cX6_becomeLike 40 = .ok (.iconst 0, 1) := by decide +kernel
theorem dX6_becomeLike_41 : decode cX6_becomeLike 41 = .ok (.aload_n 0, 1) := by decide +kernel
theorem dX6_becomeLike_42 : decode cX6_becomeLike 42 = .ok (.getfield 27, 3) := by decide +kernel
theorem dX6_becomeLike_45 : decode cX6_becomeLike 45 = .ok (.iconst 0, 1) := by decide +kernel
theorem dX6_becomeLike_46 : decode cX6_becomeLike 46 = .ok (.aload_n 0, 1) := by decide +kernel
theorem dX6_becomeLike_47 : decode cX6_becomeLike 47 = .ok (.getfield 27, 3) := by decide +kernel
theorem dX6_becomeLike_50 : decode cX6_becomeLike 50 = .ok (.arraylength, 1) := by decide +kernel
theorem dX6_becomeLike_51 : decode cX6_becomeLike 51 = .ok (.invokestatic 33, 3) := by decide +kernel
theorem dX6_becomeLike_54 : decode cX6_becomeLike 54 = .ok (.aload_n 1, 1) := by decide +kernel
theorem dX6_becomeLike_55 : decode cX6_becomeLike 55 = .ok (.getfield 30, 3) := by decide +kernel
theorem dX6_becomeLike_58 : decode cX6_becomeLike 58 = .ok (.iconst 0, 1) := by decide +kernel
theorem dX6_becomeLike_59 : decode cX6_becomeLike 59 = .ok (.aload_n 0, 1) := by decide +kernel
theorem dX6_becomeLike_60 : decode cX6_becomeLike 60 = .ok (.getfield 30, 3) := by decide +kernel
theorem dX6_becomeLike_63 : decode cX6_becomeLike 63 = .ok (.iconst 0, 1) := by decide +kernel
theorem dX6_becomeLike_64 : decode cX6_becomeLike 64 = .ok (.aload_n 0, 1) := by decide +kernel
theorem dX6_becomeLike_65 : decode cX6_becomeLike 65 = .ok (.getfield 30, 3) := by decide +kernel
theorem dX6_becomeLike_68 : decode cX6_becomeLike 68 = .ok (.arraylength, 1) := by decide +kernel
theorem dX6_becomeLike_69 : decode cX6_becomeLike 69 = .ok (.invokestatic 33, 3) := by decide +kernel
theorem dX6_becomeLike_72 : decode cX6_becomeLike 72 = .ok (.aload_n 0, 1) := by decide +kernel
theorem dX6_becomeLike_73 : decode cX6_becomeLike 73 = .ok (.aload_n 1, 1) := by decide +kernel
theorem dX6_becomeLike_74 : decode cX6_becomeLike 74 = .ok (.getfield 39, 3) := by decide +kernel
theorem dX6_becomeLike_77 : decode cX6_becomeLike 77 = .ok (.putfield 39, 3) := by decide +kernel
theorem dX6_becomeLike_80 : decode cX6_becomeLike 80 = .ok (.return_, 1) := by decide +kernel
theorem dX6_hasAllCows_0 : decode cX6_hasAllCows 0 = .ok (.aload_n 0, 1) := by decide +kernel
theorem dX6_hasAllCows_1 : decode cX6_hasAllCows 1 = .ok (.getfield 39, 3) := by decide +kernel
theorem dX6_hasAllCows_4 : decode cX6_hasAllCows 4 = .ok (.aload_n 0, 1) := by decide +kernel
theorem dX6_hasAllCows_5 : decode cX6_hasAllCows 5 = .ok (.getfield 27, 3) := by decide +kernel
theorem dX6_hasAllCows_8 : decode cX6_hasAllCows 8 = .ok (.arraylength, 1) := by decide +kernel
theorem dX6_hasAllCows_9 : decode cX6_hasAllCows 9 = .ok (.if_icmp .ge 15, 3) := by decide +kernel
theorem dX6_hasAllCows_12 : decode cX6_hasAllCows 12 = .ok (.aload_n 0, 1) := by decide +kernel
theorem dX6_hasAllCows_13 : decode cX6_hasAllCows 13 = .ok (.getfield 39, 3) := by decide +kernel
theorem dX6_hasAllCows_16 : decode cX6_hasAllCows 16 = .ok (.aload_n 0, 1) := by decide +kernel
theorem dX6_hasAllCows_17 : decode cX6_hasAllCows 17 = .ok (.getfield 30, 3) := by decide +kernel
theorem dX6_hasAllCows_20 : decode cX6_hasAllCows 20 = .ok (.arraylength, 1) := by decide +kernel
theorem dX6_hasAllCows_21 : decode cX6_hasAllCows 21 = .ok (.if_icmp .lt 7, 3) := by decide +kernel
theorem dX6_hasAllCows_24 : decode cX6_hasAllCows 24 = .ok (.iconst 1, 1) := by decide +kernel
theorem dX6_hasAllCows_25 : decode cX6_hasAllCows 25 = .ok (.goto 4, 3) := by decide +kernel
theorem dX6_hasAllCows_28 : decode cX6_hasAllCows 28 = .ok (.iconst 0, 1) := by decide +kernel
theorem dX6_hasAllCows_29 : decode cX6_hasAllCows 29 = .ok (.ireturn, 1) := by decide +kernel
theorem dX6_put_0 : decode cX6_put 0 = .ok (.iload_n 1, 1) := by decide +kernel
theorem dX6_put_1 : decode cX6_put 1 = .ok (.bipush 6, 2) := by decide +kernel
theorem dX6_put_3 : decode cX6_put 3 = .ok (.if_icmp .lt 28, 3) := by decide +kernel
theorem dX6_put_6 : decode cX6_put 6 = .ok (.iload_n 1, 1) := by decide +kernel
theorem dX6_put_7 : decode cX6_put 7 = .ok (.bipush 6, 2) := by decide +kernel
theorem dX6_put_9 : decode cX6_put 9 = .ok (.isub, 1) := by decide +kernel
theorem dX6_put_10 : decode cX6_put 10 = .ok (.aload_n 0, 1) := by decide +kernel
theorem dX6_put_11 : decode cX6_put 11 = .ok (.getfield 18, 3) := by decide +kernel
theorem dX6_put_14 : decode cX6_put 14 = .ok (.arraylength, 1) := by decide +kernel
theorem dX6_put_15 : decode cX6_put 15 = .ok (.if_icmp .ge 16, 3) := by decide +kernel
theorem dX6_put_18 : decode cX6_put 18 = .ok (.aload_n 0, 1) := by decide +kernel
theorem dX6_put_19 : decode cX6_put 19 = .ok (.getfield 18, 3) := by decide +kernel
theorem dX6_put_22 : decode cX6_put 22 = .ok (.iload_n 1, 1) := by decide +kernel
theorem dX6_put_23 : decode cX6_put 23 = .ok (.bipush 6, 2) := by decide +kernel
theorem dX6_put_25 : decode cX6_put 25 = .ok (.isub, 1) := by decide +kernel
theorem dX6_put_26 : decode cX6_put 26 = .ok (.iload_n 2, 1) := by decide +kernel
theorem dX6_put_27 : decode cX6_put 27 = .ok (.iastore, 1) := by decide +kernel
theorem dX6_put_28 : decode cX6_put 28 = .ok (.goto 87, 3) := by decide +kernel
theorem dX6_put_31 : decode cX6_put 31 = .ok (.iload_n 1, 1) := by decide +kernel
theorem dX6_put_32 : decode cX6_put 32 = .ok (.iconst 2, 1) := by decide +kernel
theorem dX6_put_33 : decode cX6_put 33 = .ok (.if_icmp .lt 26, 3) := by decide +kernel
theorem dX6_put_36 : decode cX6_put 36 = .ok (.iload_n 1, 1) := by decide +kernel
theorem dX6_put_37 : decode cX6_put 37 = .ok (.iconst 2, 1) := by decide +kernel
theorem dX6_put_38 : decode cX6_put 38 = .ok (.isub, 1) := by decide +kernel
theorem dX6_put_39 : decode cX6_put 39 = .ok (.aload_n 0, 1) := by decide +kernel
theorem dX6_put_40 : decode cX6_put 40 = .ok (.getfield 24, 3) := by decide +kernel
theorem dX6_put_43 : decode cX6_put 43 = .ok (.arraylength, 1) := by decide +kernel
theorem dX6_put_44 : decode cX6_put 44 = .ok (.if_icmp .ge 15, 3) := by decide +kernel
theorem dX6_put_47 : decode cX6_put 47 = .ok (.aload_n 0, 1) := by decide +kernel
theorem dX6_put_48 : decode cX6_put 48 = .ok (.getfield 24, 3) := by decide +kernel
theorem dX6_put_51 : decode cX6_put 51 = .ok (.iload_n 1, 1) := by decide +kernel
theorem dX6_put_52 : decode cX6_put 52 = .ok (.iconst 2, 1) := by decide +kernel
theorem dX6_put_53 : decode cX6_put 53 = .ok (.isub, 1) := by decide +kernel
theorem dX6_put_54 : decode cX6_put 54 = .ok (.iload_n 2, 1) := by decide +kernel
theorem dX6_put_55 : decode cX6_put 55 = .ok (.iastore, 1) := by decide +kernel
theorem dX6_put_56 : decode cX6_put 56 = .ok (.goto 59, 3) := by decide +kernel
theorem dX6_put_59 : decode cX6_put 59 = .ok (.iload_n 1, 1) := by decide +kernel
theorem dX6_put_60 : decode cX6_put 60 = .ok (.iconst 1, 1) := by decide +kernel
theorem dX6_put_61 : decode cX6_put 61 = .ok (.if_icmp .ne 28, 3) := by decide +kernel
theorem dX6_put_64 : decode cX6_put 64 = .ok (.aload_n 0, 1) := by decide +kernel
theorem dX6_put_65 : decode cX6_put 65 = .ok (.getfield 39, 3) := by decide +kernel
theorem dX6_put_68 : decode cX6_put 68 = .ok (.aload_n 0, 1) := by decide +kernel
theorem dX6_put_69 : decode cX6_put 69 = .ok (.getfield 30, 3) := by decide +kernel
theorem dX6_put_72 : decode cX6_put 72 = .ok (.arraylength, 1) := by decide +kernel
theorem dX6_put_73 : decode cX6_put 73 = .ok (.if_icmp .ge 16, 3) := by decide +kernel
theorem dX6_put_76 : decode cX6_put 76 = .ok (.aload_n 0, 1) := by decide +kernel
theorem dX6_put_77 : decode cX6_put 77 = .ok (.getfield 30, 3) := by decide +kernel
theorem dX6_put_80 : decode cX6_put 80 = .ok (.aload_n 0, 1) := by decide +kernel
theorem dX6_put_81 : decode cX6_put 81 = .ok (.getfield 39, 3) := by decide +kernel
theorem dX6_put_84 : decode cX6_put 84 = .ok (.iload_n 2, 1) := by decide +kernel
theorem dX6_put_85 : decode cX6_put 85 = .ok (.iastore, 1) := by decide +kernel
theorem dX6_put_86 : decode cX6_put 86 = .ok (.goto 29, 3) := by decide +kernel
theorem dX6_put_89 : decode cX6_put 89 = .ok (.iload_n 1, 1) := by decide +kernel
theorem dX6_put_90 : decode cX6_put 90 = .ok (.ifCond .ne 25, 3) := by decide +kernel
theorem dX6_put_93 : decode cX6_put 93 = .ok (.aload_n 0, 1) := by decide +kernel
theorem dX6_put_94 : decode cX6_put 94 = .ok (.getfield 39, 3) := by decide +kernel
theorem dX6_put_97 : decode cX6_put 97 = .ok (.aload_n 0, 1) := by decide +kernel
theorem dX6_put_98 : decode cX6_put 98 = .ok (.getfield 27, 3) := by decide +kernel
theorem dX6_put_101 : decode cX6_put 101 = .ok (.arraylength, 1) := by decide +kernel
theorem dX6_put_102 : decode cX6_put 102 = .ok (.if_icmp .ge 13, 3) := by decide +kernel
theorem dX6_put_105 : decode cX6_put 105 = .ok (.aload_n 0, 1) := by decide +kernel
theorem dX6_put_106 : decode cX6_put 106 = .ok (.getfield 27, 3) := by decide +kernel
theorem dX6_put_109 : decode cX6_put 109 = .ok (.aload_n 0, 1) := by decide +kernel
theorem dX6_put_110 : decode cX6_put 110 = .ok (.getfield 39, 3) := by decide +kernel
theorem dX6_put_113 : decode cX6_put 113 = .ok (.iload_n 2, 1) := by decide +kernel
theorem dX6_put_114 : decode cX6_put 114 = .ok (.iastore, 1) := by decide +kernel
theorem dX6_put_115 : decode cX6_put 115 = .ok (.return_, 1) := by decide +kernel
theorem dX6_base_0 : decode cX6_base 0 = .ok (.aload_n 0, 1) := by decide +kernel
theorem dX6_base_1 : decode cX6_base 1 = .ok (.getfield 18, 3) := by decide +kernel
theorem dX6_base_4 : decode cX6_base 4 = .ok (.iconst 1, 1) := by decide +kernel
theorem dX6_base_5 : decode cX6_base 5 = .ok (.iaload, 1) := by decide +kernel
theorem dX6_base_6 : decode cX6_base 6 = .ok (.ireturn, 1) := by decide +kernel
theorem dX6_isGood_0 : decode cX6_isGood 0 = .ok (.iload_n 1, 1) := by decide +kernel
theorem dX6_isGood_1 : decode cX6_isGood 1 = .ok (.aload_n 0, 1) := by decide +kernel
theorem dX6_isGood_2 : decode cX6_isGood 2 = .ok (.getfield 18, 3) := by decide +kernel
theorem dX6_isGood_5 : decode cX6_isGood 5 = .ok (.bipush 7, 2) := by decide +kernel
theorem dX6_isGood_7 : decode cX6_isGood 7 = .ok (.iaload, 1) := by decide +kernel
theorem dX6_isGood_8 : decode cX6_isGood 8 = .ok (.if_icmp .lt 18, 3) := by decide +kernel
theorem dX6_isGood_11 : decode cX6_isGood 11 = .ok (.iload_n 1, 1) := by decide +kernel
theorem dX6_isGood_12 : decode cX6_isGood 12 = .ok (.aload_n 0, 1) := by decide +kernel
theorem dX6_isGood_13 : decode cX6_isGood 13 = .ok (.getfield 18, 3) := by decide +kernel
theorem dX6_isGood_16 : decode cX6_isGood 16 = .ok (.bipush 8, 2) := by decide +kernel
theorem dX6_isGood_18 : decode cX6_isGood 18 = .ok (.iaload, 1) := by decide +kernel
theorem dX6_isGood_19 : decode cX6_isGood 19 = .ok (.if_icmp .gt 7, 3) := by decide +kernel
theorem dX6_isGood_22 : decode cX6_isGood 22 = .ok (.iconst 1, 1) := by decide +kernel
theorem dX6_isGood_23 : decode cX6_isGood 23 = .ok (.goto 4, 3) := by decide +kernel
theorem dX6_isGood_26 : decode cX6_isGood 26 = .ok (.iconst 0, 1) := by decide +kernel
theorem dX6_isGood_27 : decode cX6_isGood 27 = .ok (.ireturn, 1) := by decide +kernel
theorem dX6_hasCow_0 : decode cX6_hasCow 0 = .ok (.iload_n 1, 1) := by decide +kernel
theorem dX6_hasCow_1 : decode cX6_hasCow 1 = .ok (.ifCond .lt 33, 3) := by decide +kernel
theorem dX6_hasCow_4 : decode cX6_hasCow 4 = .ok (.iload_n 1, 1) := by decide +kernel
theorem dX6_hasCow_5 : decode cX6_hasCow 5 = .ok (.aload_n 0, 1) := by decide +kernel
theorem dX6_hasCow_6 : decode cX6_hasCow 6 = .ok (.getfield 39, 3) := by decide +kernel
theorem dX6_hasCow_9 : decode cX6_hasCow 9 = .ok (.if_icmp .ge 25, 3) := by decide +kernel
theorem dX6_hasCow_12 : decode cX6_hasCow 12 = .ok (.iload_n 1, 1) := by decide +kernel
theorem dX6_hasCow_13 : decode cX6_hasCow 13 = .ok (.aload_n 0, 1) := by decide +kernel
theorem dX6_hasCow_14 : decode cX6_hasCow 14 = .ok (.getfield 27, 3) := by decide +kernel
theorem dX6_hasCow_17 : decode cX6_hasCow 17 = .ok (.arraylength, 1) := by decide +kernel
theorem dX6_hasCow_18 : decode cX6_hasCow 18 = .ok (.if_icmp .ge 16, 3) := by decide +kernel
theorem dX6_hasCow_21 : decode cX6_hasCow 21 = .ok (.iload_n 1, 1) := by decide +kernel
theorem dX6_hasCow_22 : decode cX6_hasCow 22 = .ok (.aload_n 0, 1) := by decide +kernel
theorem dX6_hasCow_23 : decode cX6_hasCow 23 = .ok (.getfield 30, 3) := by decide +kernel
theorem dX6_hasCow_26 : decode cX6_hasCow 26 = .ok (.arraylength, 1) := by decide +kernel
theorem dX6_hasCow_27 : decode cX6_hasCow 27 = .ok (.if_icmp .ge 7, 3) := by decide +kernel
theorem dX6_hasCow_30 : decode cX6_hasCow 30 = .ok (.iconst 1, 1) := by decide +kernel
theorem dX6_hasCow_31 : decode cX6_hasCow 31 = .ok (.goto 4, 3) := by decide +kernel
theorem dX6_hasCow_34 : decode cX6_hasCow 34 = .ok (.iconst 0, 1) := by decide +kernel
theorem dX6_hasCow_35 : decode cX6_hasCow 35 = .ok (.ireturn, 1) := by decide +kernel
theorem dX6_allCows_0 : decode cX6_allCows 0 = .ok (.iconst 1, 1) := by decide +kernel
theorem dX6_allCows_1 : decode cX6_allCows 1 = .ok (.aload_n 0, 1) := by decide +kernel
theorem dX6_allCows_2 : decode cX6_allCows 2 = .ok (.getfield 39, 3) := by decide +kernel
theorem dX6_allCows_5 : decode cX6_allCows 5 = .ok (.ishl, 1) := by decide +kernel
theorem dX6_allCows_6 : decode cX6_allCows 6 = .ok (.iconst 1, 1) := by decide +kernel
theorem dX6_allCows_7 : decode cX6_allCows 7 = .ok (.isub, 1) := by decide +kernel
theorem dX6_allCows_8 : decode cX6_allCows 8 = .ok (.ireturn, 1) := by decide +kernel
theorem dX6_hasCows_0 : decode cX6_hasCows 0 = .ok (.iload_n 1, 1) := by decide +kernel
theorem dX6_hasCows_1 : decode cX6_hasCows 1 = .ok (.ifCond .lt 15, 3) := by decide +kernel
theorem dX6_hasCows_4 : decode cX6_hasCows 4 = .ok (.iload_n 1, 1) := by decide +kernel
theorem dX6_hasCows_5 : decode cX6_hasCows 5 = .ok (.aload_n 0, 1) := by decide +kernel
theorem dX6_hasCows_6 : decode cX6_hasCows 6 = .ok (.invokevirtual 43, 3) := by decide +kernel
theorem dX6_hasCows_9 : decode cX6_hasCows 9 = .ok (.if_icmp .gt 7, 3) := by decide +kernel
theorem dX6_hasCows_12 : decode cX6_hasCows 12 = .ok (.iconst 1, 1) := by decide +kernel
theorem dX6_hasCows_13 : decode cX6_hasCows 13 = .ok (.goto 4, 3) := by decide +kernel
theorem dX6_hasCows_16 : decode cX6_hasCows 16 = .ok (.iconst 0, 1) := by decide +kernel
theorem dX6_hasCows_17 : decode cX6_hasCows 17 = .ok (.ireturn, 1) := by decide +kernel
theorem dX6_litresOf_0 : decode cX6_litresOf 0 = .ok (.iconst 0, 1) := by decide +kernel
theorem dX6_litresOf_1 : decode cX6_litresOf 1 = .ok (.istore_n 2, 1) := by decide +kernel
theorem dX6_litresOf_2 : decode cX6_litresOf 2 = .ok (.iconst 0, 1) := by decide +kernel
theorem dX6_litresOf_3 : decode cX6_litresOf 3 = .ok (.istore_n 3, 1) := by decide +kernel
theorem dX6_litresOf_4 : decode cX6_litresOf 4 = .ok (.iload_n 3, 1) := by decide +kernel
theorem dX6_litresOf_5 : decode cX6_litresOf 5 = .ok (.aload_n 0, 1) := by decide +kernel
theorem dX6_litresOf_6 : decode cX6_litresOf 6 = .ok (.getfield 27, 3) := by decide +kernel
theorem dX6_litresOf_9 : decode cX6_litresOf 9 = .ok (.arraylength, 1) := by decide +kernel
theorem dX6_litresOf_10 : decode cX6_litresOf 10 = .ok (.if_icmp .ge 26, 3) := by decide +kernel
theorem dX6_litresOf_13 : decode cX6_litresOf 13 = .ok (.iload_n 1, 1) := by decide +kernel
theorem dX6_litresOf_14 : decode cX6_litresOf 14 = .ok (.iload_n 3, 1) := by decide +kernel
theorem dX6_litresOf_15 : decode cX6_litresOf 15 = .ok (.ishr, 1) := by decide +kernel
theorem dX6_litresOf_16 : decode cX6_litresOf 16 = .ok (.iconst 1, 1) := by decide +kernel
theorem dX6_litresOf_17 : decode cX6_litresOf 17 = .ok (.iand, 1) := by decide +kernel
theorem dX6_litresOf_18 : decode cX6_litresOf 18 = .ok (.ifCond .eq 12, 3) := by decide +kernel
theorem dX6_litresOf_21 : decode cX6_litresOf 21 = .ok (.iload_n 2, 1) := by decide +kernel
theorem dX6_litresOf_22 : decode cX6_litresOf 22 = .ok (.aload_n 0, 1) := by decide +kernel
theorem dX6_litresOf_23 : decode cX6_litresOf 23 = .ok (.getfield 27, 3) := by decide +kernel
theorem dX6_litresOf_26 : decode cX6_litresOf 26 = .ok (.iload_n 3, 1) := by decide +kernel
theorem dX6_litresOf_27 : decode cX6_litresOf 27 = .ok (.iaload, 1) := by decide +kernel
theorem dX6_litresOf_28 : decode cX6_litresOf 28 = .ok (.iadd, 1) := by decide +kernel
theorem dX6_litresOf_29 : decode cX6_litresOf 29 = .ok (.istore_n 2, 1) := by decide +kernel
theorem dX6_litresOf_30 : decode cX6_litresOf 30 = .ok (.iinc 3 1, 3) := by decide +kernel
theorem dX6_litresOf_33 : decode cX6_litresOf 33 = .ok (.goto (-29), 3) := by decide +kernel
theorem dX6_litresOf_36 : decode cX6_litresOf 36 = .ok (.iload_n 2, 1) := by decide +kernel
theorem dX6_litresOf_37 : decode cX6_litresOf 37 = .ok (.ireturn, 1) := by decide +kernel
theorem dX6_hardOf_0 : decode cX6_hardOf 0 = .ok (.iconst 0, 1) := by decide +kernel
theorem dX6_hardOf_1 : decode cX6_hardOf 1 = .ok (.istore_n 2, 1) := by decide +kernel
theorem dX6_hardOf_2 : decode cX6_hardOf 2 = .ok (.iconst 0, 1) := by decide +kernel
theorem dX6_hardOf_3 : decode cX6_hardOf 3 = .ok (.istore_n 3, 1) := by decide +kernel
theorem dX6_hardOf_4 : decode cX6_hardOf 4 = .ok (.iload_n 3, 1) := by decide +kernel
theorem dX6_hardOf_5 : decode cX6_hardOf 5 = .ok (.aload_n 0, 1) := by decide +kernel
theorem dX6_hardOf_6 : decode cX6_hardOf 6 = .ok (.getfield 27, 3) := by decide +kernel
theorem dX6_hardOf_9 : decode cX6_hardOf 9 = .ok (.arraylength, 1) := by decide +kernel
theorem dX6_hardOf_10 : decode cX6_hardOf 10 = .ok (.if_icmp .ge 42, 3) := by decide +kernel
theorem dX6_hardOf_13 : decode cX6_hardOf 13 = .ok (.iload_n 3, 1) := by decide +kernel
theorem dX6_hardOf_14 : decode cX6_hardOf 14 = .ok (.aload_n 0, 1) := by decide +kernel
theorem dX6_hardOf_15 : decode cX6_hardOf 15 = .ok (.getfield 30, 3) := by decide +kernel
theorem dX6_hardOf_18 : decode cX6_hardOf 18 = .ok (.arraylength, 1) := by decide +kernel
theorem dX6_hardOf_19 : decode cX6_hardOf 19 = .ok (.if_icmp .ge 33, 3) := by decide +kernel
theorem dX6_hardOf_22 : decode cX6_hardOf 22 = .ok (.iload_n 1, 1) := by decide +kernel
theorem dX6_hardOf_23 : decode cX6_hardOf 23 = .ok (.iload_n 3, 1) := by decide +kernel
theorem dX6_hardOf_24 : decode cX6_hardOf 24 = .ok (.ishr, 1) := by decide +kernel
theorem dX6_hardOf_25 : decode cX6_hardOf 25 = .ok (.iconst 1, 1) := by decide +kernel
theorem dX6_hardOf_26 : decode cX6_hardOf 26 = .ok (.iand, 1) := by decide +kernel
theorem dX6_hardOf_27 : decode cX6_hardOf 27 = .ok (.ifCond .eq 19, 3) := by decide +kernel
theorem dX6_hardOf_30 : decode cX6_hardOf 30 = .ok (.iload_n 2, 1) := by decide +kernel
theorem dX6_hardOf_31 : decode cX6_hardOf 31 = .ok (.aload_n 0, 1) := by decide +kernel
theorem dX6_hardOf_32 : decode cX6_hardOf 32 = .ok (.getfield 27, 3) := by decide +kernel
theorem dX6_hardOf_35 : decode cX6_hardOf 35 = .ok (.iload_n 3, 1) := by decide +kernel
theorem dX6_hardOf_36 : decode cX6_hardOf 36 = .ok (.iaload, 1) := by decide +kernel
theorem dX6_hardOf_37 : decode cX6_hardOf 37 = .ok (.aload_n 0, 1) := by decide +kernel
theorem dX6_hardOf_38 : decode cX6_hardOf 38 = .ok (.getfield 30, 3) := by decide +kernel
theorem dX6_hardOf_41 : decode cX6_hardOf 41 = .ok (.iload_n 3, 1) := by decide +kernel
theorem dX6_hardOf_42 : decode cX6_hardOf 42 = .ok (.iaload, 1) := by decide +kernel
theorem dX6_hardOf_43 : decode cX6_hardOf 43 = .ok (.imul, 1) := by decide +kernel
theorem dX6_hardOf_44 : decode cX6_hardOf 44 = .ok (.iadd, 1) := by decide +kernel
theorem dX6_hardOf_45 : decode cX6_hardOf 45 = .ok (.istore_n 2, 1) := by decide +kernel
theorem dX6_hardOf_46 : decode cX6_hardOf 46 = .ok (.iinc 3 1, 3) := by decide +kernel
theorem dX6_hardOf_49 : decode cX6_hardOf 49 = .ok (.goto (-45), 3) := by decide +kernel
theorem dX6_hardOf_52 : decode cX6_hardOf 52 = .ok (.aload_n 0, 1) := by decide +kernel
theorem dX6_hardOf_53 : decode cX6_hardOf 53 = .ok (.iload_n 1, 1) := by decide +kernel
theorem dX6_hardOf_54 : decode cX6_hardOf 54 = .ok (.invokevirtual 47, 3) := by decide +kernel
theorem dX6_hardOf_57 : decode cX6_hardOf 57 = .ok (.istore_n 3, 1) := by decide +kernel
theorem dX6_hardOf_58 : decode cX6_hardOf 58 = .ok (.iload_n 3, 1) := by decide +kernel
theorem dX6_hardOf_59 : decode cX6_hardOf 59 = .ok (.ifCond .le 9, 3) := by decide +kernel
theorem dX6_hardOf_62 : decode cX6_hardOf 62 = .ok (.iload_n 2, 1) := by decide +kernel
theorem dX6_hardOf_63 : decode cX6_hardOf 63 = .ok (.iload_n 3, 1) := by decide +kernel
theorem dX6_hardOf_64 : decode cX6_hardOf 64 = .ok (.idiv, 1) := by decide +kernel
theorem dX6_hardOf_65 : decode cX6_hardOf 65 = .ok (.goto 4, 3) := by decide +kernel
theorem dX6_hardOf_68 : decode cX6_hardOf 68 = .ok (.iconst 0, 1) := by decide +kernel
theorem dX6_hardOf_69 : decode cX6_hardOf 69 = .ok (.ireturn, 1) := by decide +kernel
theorem dJ6_bitCount_0f7a4_0 : decode cJ6_bitCount_0f7a4 0 = .ok (.iload_n 0, 1) := by decide +kernel
theorem dJ6_bitCount_0f7a4_1 : decode cJ6_bitCount_0f7a4 1 = .ok (.iload_n 0, 1) := by decide +kernel
theorem dJ6_bitCount_0f7a4_2 : decode cJ6_bitCount_0f7a4 2 = .ok (.iconst 1, 1) := by decide +kernel
theorem dJ6_bitCount_0f7a4_3 : decode cJ6_bitCount_0f7a4 3 = .ok (.iushr, 1) := by decide +kernel
theorem dJ6_bitCount_0f7a4_4 : decode cJ6_bitCount_0f7a4 4 = .ok (.ldc_w 265, 3) := by decide +kernel
theorem dJ6_bitCount_0f7a4_7 : decode cJ6_bitCount_0f7a4 7 = .ok (.iand, 1) := by decide +kernel
theorem dJ6_bitCount_0f7a4_8 : decode cJ6_bitCount_0f7a4 8 = .ok (.isub, 1) := by decide +kernel
theorem dJ6_bitCount_0f7a4_9 : decode cJ6_bitCount_0f7a4 9 = .ok (.istore_n 0, 1) := by decide +kernel
theorem dJ6_bitCount_0f7a4_10 : decode cJ6_bitCount_0f7a4 10 = .ok (.iload_n 0, 1) := by decide +kernel
theorem dJ6_bitCount_0f7a4_11 : decode cJ6_bitCount_0f7a4 11 = .ok (.ldc_w 266, 3) := by decide +kernel
theorem dJ6_bitCount_0f7a4_14 : decode cJ6_bitCount_0f7a4 14 = .ok (.iand, 1) := by decide +kernel
theorem dJ6_bitCount_0f7a4_15 : decode cJ6_bitCount_0f7a4 15 = .ok (.iload_n 0, 1) := by decide +kernel
theorem dJ6_bitCount_0f7a4_16 : decode cJ6_bitCount_0f7a4 16 = .ok (.iconst 2, 1) := by decide +kernel
theorem dJ6_bitCount_0f7a4_17 : decode cJ6_bitCount_0f7a4 17 = .ok (.iushr, 1) := by decide +kernel
theorem dJ6_bitCount_0f7a4_18 : decode cJ6_bitCount_0f7a4 18 = .ok (.ldc_w 266, 3) := by decide +kernel
theorem dJ6_bitCount_0f7a4_21 : decode cJ6_bitCount_0f7a4 21 = .ok (.iand, 1) := by decide +kernel
theorem dJ6_bitCount_0f7a4_22 : decode cJ6_bitCount_0f7a4 22 = .ok (.iadd, 1) := by decide +kernel
theorem dJ6_bitCount_0f7a4_23 : decode cJ6_bitCount_0f7a4 23 = .ok (.istore_n 0, 1) := by decide +kernel
theorem dJ6_bitCount_0f7a4_24 : decode cJ6_bitCount_0f7a4 24 = .ok (.iload_n 0, 1) := by decide +kernel
theorem dJ6_bitCount_0f7a4_25 : decode cJ6_bitCount_0f7a4 25 = .ok (.iload_n 0, 1) := by decide +kernel
theorem dJ6_bitCount_0f7a4_26 : decode cJ6_bitCount_0f7a4 26 = .ok (.iconst 4, 1) := by decide +kernel
theorem dJ6_bitCount_0f7a4_27 : decode cJ6_bitCount_0f7a4 27 = .ok (.iushr, 1) := by decide +kernel
theorem dJ6_bitCount_0f7a4_28 : decode cJ6_bitCount_0f7a4 28 = .ok (.iadd, 1) := by decide +kernel
theorem dJ6_bitCount_0f7a4_29 : decode cJ6_bitCount_0f7a4 29 = .ok (.ldc_w 267, 3) := by decide +kernel
theorem dJ6_bitCount_0f7a4_32 : decode cJ6_bitCount_0f7a4 32 = .ok (.iand, 1) := by decide +kernel
theorem dJ6_bitCount_0f7a4_33 : decode cJ6_bitCount_0f7a4 33 = .ok (.istore_n 0, 1) := by decide +kernel
theorem dJ6_bitCount_0f7a4_34 : decode cJ6_bitCount_0f7a4 34 = .ok (.iload_n 0, 1) := by decide +kernel
theorem dJ6_bitCount_0f7a4_35 : decode cJ6_bitCount_0f7a4 35 = .ok (.iload_n 0, 1) := by decide +kernel
theorem dJ6_bitCount_0f7a4_36 : decode cJ6_bitCount_0f7a4 36 = .ok (.bipush 8, 2) := by decide +kernel
theorem dJ6_bitCount_0f7a4_38 : decode cJ6_bitCount_0f7a4 38 = .ok (.iushr, 1) := by decide +kernel
theorem dJ6_bitCount_0f7a4_39 : decode cJ6_bitCount_0f7a4 39 = .ok (.iadd, 1) := by decide +kernel
theorem dJ6_bitCount_0f7a4_40 : decode cJ6_bitCount_0f7a4 40 = .ok (.istore_n 0, 1) := by decide +kernel
theorem dJ6_bitCount_0f7a4_41 : decode cJ6_bitCount_0f7a4 41 = .ok (.iload_n 0, 1) := by decide +kernel
theorem dJ6_bitCount_0f7a4_42 : decode cJ6_bitCount_0f7a4 42 = .ok (.iload_n 0, 1) := by decide +kernel
theorem dJ6_bitCount_0f7a4_43 : decode cJ6_bitCount_0f7a4 43 = .ok (.bipush 16, 2) := by decide +kernel
theorem dJ6_bitCount_0f7a4_45 : decode cJ6_bitCount_0f7a4 45 = .ok (.iushr, 1) := by decide +kernel
theorem dJ6_bitCount_0f7a4_46 : decode cJ6_bitCount_0f7a4 46 = .ok (.iadd, 1) := by decide +kernel
theorem dJ6_bitCount_0f7a4_47 : decode cJ6_bitCount_0f7a4 47 = .ok (.istore_n 0, 1) := by decide +kernel
theorem dJ6_bitCount_0f7a4_48 : decode cJ6_bitCount_0f7a4 48 = .ok (.iload_n 0, 1) := by decide +kernel
theorem dJ6_bitCount_0f7a4_49 : decode cJ6_bitCount_0f7a4 49 = .ok (.bipush 63, 2) := by decide +kernel
theorem dJ6_bitCount_0f7a4_51 : decode cJ6_bitCount_0f7a4 51 = .ok (.iand, 1) := by decide +kernel
theorem dJ6_bitCount_0f7a4_52 : decode cJ6_bitCount_0f7a4 52 = .ok (.ireturn, 1) := by decide +kernel
theorem dJ9_floorDiv_7cf53_0 : decode cJ9_floorDiv_7cf53 0 = .ok (.iload_n 0, 1) := by decide +kernel
theorem dJ9_floorDiv_7cf53_1 : decode cJ9_floorDiv_7cf53 1 = .ok (.iload_n 1, 1) := by decide +kernel
theorem dJ9_floorDiv_7cf53_2 : decode cJ9_floorDiv_7cf53 2 = .ok (.idiv, 1) := by decide +kernel
theorem dJ9_floorDiv_7cf53_3 : decode cJ9_floorDiv_7cf53 3 = .ok (.istore_n 2, 1) := by decide +kernel
theorem dJ9_floorDiv_7cf53_4 : decode cJ9_floorDiv_7cf53 4 = .ok (.iload_n 0, 1) := by decide +kernel
theorem dJ9_floorDiv_7cf53_5 : decode cJ9_floorDiv_7cf53 5 = .ok (.iload_n 1, 1) := by decide +kernel
theorem dJ9_floorDiv_7cf53_6 : decode cJ9_floorDiv_7cf53 6 = .ok (.ixor, 1) := by decide +kernel
theorem dJ9_floorDiv_7cf53_7 : decode cJ9_floorDiv_7cf53 7 = .ok (.ifCond .ge 14, 3) := by decide +kernel
theorem dJ9_floorDiv_7cf53_10 : decode cJ9_floorDiv_7cf53 10 = .ok (.iload_n 2, 1) := by decide +kernel
theorem dJ9_floorDiv_7cf53_11 : decode cJ9_floorDiv_7cf53 11 = .ok (.iload_n 1, 1) := by decide +kernel
theorem dJ9_floorDiv_7cf53_12 : decode cJ9_floorDiv_7cf53 12 = .ok (.imul, 1) := by decide +kernel
theorem dJ9_floorDiv_7cf53_13 : decode cJ9_floorDiv_7cf53 13 = .ok (.iload_n 0, 1) := by decide +kernel
theorem dJ9_floorDiv_7cf53_14 : decode cJ9_floorDiv_7cf53 14 = .ok (.if_icmp .eq 7, 3) := by decide +kernel
theorem dJ9_floorDiv_7cf53_17 : decode cJ9_floorDiv_7cf53 17 = .ok (.iload_n 2, 1) := by decide +kernel
theorem dJ9_floorDiv_7cf53_18 : decode cJ9_floorDiv_7cf53 18 = .ok (.iconst 1, 1) := by decide +kernel
theorem dJ9_floorDiv_7cf53_19 : decode cJ9_floorDiv_7cf53 19 = .ok (.isub, 1) := by decide +kernel
theorem dJ9_floorDiv_7cf53_20 : decode cJ9_floorDiv_7cf53 20 = .ok (.ireturn, 1) := by decide +kernel
theorem dJ9_floorDiv_7cf53_21 : decode cJ9_floorDiv_7cf53 21 = .ok (.iload_n 2, 1) := by decide +kernel
theorem dJ9_floorDiv_7cf53_22 : decode cJ9_floorDiv_7cf53 22 = .ok (.ireturn, 1) := by decide +kernel
theorem dJ9_max_7cf53_0 : decode cJ9_max_7cf53 0 = .ok (.iload_n 0, 1) := by decide +kernel
theorem dJ9_max_7cf53_1 : decode cJ9_max_7cf53 1 = .ok (.iload_n 1, 1) := by decide +kernel
theorem dJ9_max_7cf53_2 : decode cJ9_max_7cf53 2 = .ok (.if_icmp .lt 7, 3) := by decide +kernel
theorem dJ9_max_7cf53_5 : decode cJ9_max_7cf53 5 = .ok (.iload_n 0, 1) := by decide +kernel
theorem dJ9_max_7cf53_6 : decode cJ9_max_7cf53 6 = .ok (.goto 4, 3) := by decide +kernel
theorem dJ9_max_7cf53_9 : decode cJ9_max_7cf53 9 = .ok (.iload_n 1, 1) := by decide +kernel
theorem dJ9_max_7cf53_10 : decode cJ9_max_7cf53 10 = .ok (.ireturn, 1) := by decide +kernel
theorem dJ9_min_7cf53_0 : decode cJ9_min_7cf53 0 = .ok (.iload_n 0, 1) := by decide +kernel
theorem dJ9_min_7cf53_1 : decode cJ9_min_7cf53 1 = .ok (.iload_n 1, 1) := by decide +kernel
theorem dJ9_min_7cf53_2 : decode cJ9_min_7cf53 2 = .ok (.if_icmp .gt 7, 3) := by decide +kernel
theorem dJ9_min_7cf53_5 : decode cJ9_min_7cf53 5 = .ok (.iload_n 0, 1) := by decide +kernel
theorem dJ9_min_7cf53_6 : decode cJ9_min_7cf53 6 = .ok (.goto 4, 3) := by decide +kernel
theorem dJ9_min_7cf53_9 : decode cJ9_min_7cf53 9 = .ok (.iload_n 1, 1) := by decide +kernel
theorem dJ9_min_7cf53_10 : decode cJ9_min_7cf53 10 = .ok (.ireturn, 1) := by decide +kernel
theorem dJ0_length_8abf5_0 : decode cJ0_length_8abf5 0 = .ok (.aload_n 0, 1) := by decide +kernel
theorem dJ0_length_8abf5_1 : decode cJ0_length_8abf5 1 = .ok (.getfield 9, 3) := by decide +kernel
theorem dJ0_length_8abf5_4 : decode cJ0_length_8abf5 4 = .ok (.arraylength, 1) := by decide +kernel
theorem dJ0_length_8abf5_5 : decode cJ0_length_8abf5 5 = .ok (.aload_n 0, 1) := by decide +kernel
theorem dJ0_length_8abf5_6 : decode cJ0_length_8abf5 6 = .ok (.invokevirtual 335, 3) := by decide +kernel
theorem dJ0_length_8abf5_9 : decode cJ0_length_8abf5 9 = .ok (.ishr, 1) := by decide +kernel
theorem dJ0_length_8abf5_10 : decode cJ0_length_8abf5 10 = .ok (.ireturn, 1) := by decide +kernel
theorem dJ0_charAt_5068e_0 : decode cJ0_charAt_5068e 0 = .ok (.aload_n 0, 1) := by decide +kernel
theorem dJ0_charAt_5068e_1 : decode cJ0_charAt_5068e 1 = .ok (.invokevirtual 492, 3) := by decide +kernel
theorem dJ0_charAt_5068e_4 : decode cJ0_charAt_5068e 4 = .ok (.ifCond .eq 12, 3) := by decide +kernel
theorem dJ0_charAt_5068e_7 : decode cJ0_charAt_5068e 7 = .ok (.aload_n 0, 1) := by decide +kernel
theorem dJ0_charAt_5068e_8 : decode cJ0_charAt_5068e 8 = .ok (.getfield 9, 3) := by decide +kernel
theorem dJ0_charAt_5068e_11 : decode cJ0_charAt_5068e 11 = .ok (.iload_n 1, 1) := by decide +kernel
theorem dJ0_charAt_5068e_12 : decode cJ0_charAt_5068e 12 = .ok (.invokestatic 495, 3) := by decide +kernel
theorem dJ0_charAt_5068e_15 : decode cJ0_charAt_5068e 15 = .ok (.ireturn, 1) := by decide +kernel
theorem dJ0_charAt_5068e_16 : decode cJ0_charAt_5068e 16 = .ok (.aload_n 0, 1) := by decide +kernel
theorem dJ0_charAt_5068e_17 : decode cJ0_charAt_5068e 17 = .ok (.getfield 9, 3) := by decide +kernel
theorem dJ0_charAt_5068e_20 : decode cJ0_charAt_5068e 20 = .ok (.iload_n 1, 1) := by decide +kernel
theorem dJ0_charAt_5068e_21 : decode cJ0_charAt_5068e 21 = .ok (.invokestatic 498, 3) := by decide +kernel
theorem dJ0_charAt_5068e_24 : decode cJ0_charAt_5068e 24 = .ok (.ireturn, 1) := by decide +kernel
theorem dJ0_coder_7d493_0 : decode cJ0_coder_7d493 0 = .ok (.getstatic 38, 3) := by decide +kernel
theorem dJ0_coder_7d493_3 : decode cJ0_coder_7d493 3 = .ok (.ifCond .eq 10, 3) := by decide +kernel
theorem dJ0_coder_7d493_6 : decode cJ0_coder_7d493 6 = .ok (.aload_n 0, 1) := by decide +kernel
theorem dJ0_coder_7d493_7 : decode cJ0_coder_7d493 7 = .ok (.getfield 15, 3) := by decide +kernel
theorem dJ0_coder_7d493_10 : decode cJ0_coder_7d493 10 = .ok (.goto 4, 3) := by decide +kernel
theorem dJ0_coder_7d493_13 : decode cJ0_coder_7d493 13 = .ok (.iconst 1, 1) := by decide +kernel
theorem dJ0_coder_7d493_14 : decode cJ0_coder_7d493 14 = .ok (.ireturn, 1) := by decide +kernel
theorem dJ0_isLatin1_aae02_0 : decode cJ0_isLatin1_aae02 0 = .ok (.getstatic 38, 3) := by decide +kernel
theorem dJ0_isLatin1_aae02_3 : decode cJ0_isLatin1_aae02 3 = .ok (.ifCond .eq 14, 3) := by decide +kernel
theorem dJ0_isLatin1_aae02_6 : decode cJ0_isLatin1_aae02 6 = .ok (.aload_n 0, 1) := by decide +kernel
theorem dJ0_isLatin1_aae02_7 : decode cJ0_isLatin1_aae02 7 = .ok (.getfield 15, 3) := by decide +kernel
theorem dJ0_isLatin1_aae02_10 : decode cJ0_isLatin1_aae02 10 = .ok (.ifCond .ne 7, 3) := by decide +kernel
theorem dJ0_isLatin1_aae02_13 : decode cJ0_isLatin1_aae02 13 = .ok (.iconst 1, 1) := by decide +kernel
theorem dJ0_isLatin1_aae02_14 : decode cJ0_isLatin1_aae02 14 = .ok (.goto 4, 3) := by decide +kernel
theorem dJ0_isLatin1_aae02_17 : decode cJ0_isLatin1_aae02 17 = .ok (.iconst 0, 1) := by decide +kernel
theorem dJ0_isLatin1_aae02_18 : decode cJ0_isLatin1_aae02 18 = .ok (.ireturn, 1) := by decide +kernel
theorem dJ0_checkIndex_df160_0 : decode cJ0_checkIndex_df160 0 = .ok (.iload_n 0, 1) := by decide +kernel
theorem dJ0_checkIndex_df160_1 : decode cJ0_checkIndex_df160 1 = .ok (.iload_n 1, 1) := by decide +kernel
theorem dJ0_checkIndex_df160_2 : decode cJ0_checkIndex_df160 2 = .ok (.getstatic 1053, 3) := by decide +kernel
theorem dJ0_checkIndex_df160_5 : decode cJ0_checkIndex_df160 5 = .ok (.invokestatic 1059, 3) := by decide +kernel
theorem dJ0_checkIndex_df160_8 : decode cJ0_checkIndex_df160 8 = .ok (.pop, 1) := by decide +kernel
theorem dJ0_checkIndex_df160_9 : decode cJ0_checkIndex_df160 9 = .ok (.return_, 1) := by decide +kernel
theorem dJ1_charAt_3b067_0 : decode cJ1_charAt_3b067 0 = .ok (.iload_n 1, 1) := by decide +kernel
theorem dJ1_charAt_3b067_1 : decode cJ1_charAt_3b067 1 = .ok (.aload_n 0, 1) := by decide +kernel
theorem dJ1_charAt_3b067_2 : decode cJ1_charAt_3b067 2 = .ok (.arraylength, 1) := by decide +kernel
theorem dJ1_charAt_3b067_3 : decode cJ1_charAt_3b067 3 = .ok (.invokestatic 9, 3) := by decide +kernel
theorem dJ1_charAt_3b067_6 : decode cJ1_charAt_3b067 6 = .ok (.aload_n 0, 1) := by decide +kernel
theorem dJ1_charAt_3b067_7 : decode cJ1_charAt_3b067 7 = .ok (.iload_n 1, 1) := by decide +kernel
theorem dJ1_charAt_3b067_8 : decode cJ1_charAt_3b067 8 = .ok (.baload, 1) := by decide +kernel
theorem dJ1_charAt_3b067_9 : decode cJ1_charAt_3b067 9 = .ok (.sipush 255, 3) := by decide +kernel
theorem dJ1_charAt_3b067_12 : decode cJ1_charAt_3b067 12 = .ok (.iand, 1) := by decide +kernel
theorem dJ1_charAt_3b067_13 : decode cJ1_charAt_3b067 13 = .ok (.i2c, 1) := by decide +kernel
theorem dJ1_charAt_3b067_14 : decode cJ1_charAt_3b067 14 = .ok (.ireturn, 1) := by decide +kernel
theorem dJ2_getChar_3b067_0 : decode cJ2_getChar_3b067 0 = .ok (.getstatic 44, 3) := by decide +kernel
theorem dJ2_getChar_3b067_3 : decode cJ2_getChar_3b067 3 = .ok (.ifCond .ne 25, 3) := by decide +kernel
theorem dJ2_getChar_3b067_6 : decode cJ2_getChar_3b067 6 = .ok (.iload_n 1, 1) := by decide +kernel
theorem dJ2_getChar_3b067_7 : decode cJ2_getChar_3b067 7 = .ok (.ifCond .lt 11, 3) := by decide +kernel
theorem dJ2_getChar_3b067_10 : decode cJ2_getChar_3b067 10 = .ok (.iload_n 1, 1) := by decide +kernel
theorem dJ2_getChar_3b067_11 : decode cJ2_getChar_3b067 11 = .ok (.aload_n 0, 1) := by decide +kernel
theorem dJ2_getChar_3b067_12 : decode cJ2_getChar_3b067 12 = .ok (.invokestatic 48, 3) := by decide +kernel
theorem dJ2_getChar_3b067_15 : decode cJ2_getChar_3b067 15 = .ok (.if_icmp .lt 13, 3) := by decide +kernel
theorem dJ2_getChar_3b067_18 : decode cJ2_getChar_3b067 18 = .ok (.new 52, 3) := by decide +kernel
theorem dJ2_getChar_3b067_21 : decode cJ2_getChar_3b067 21 = .ok (.dup, 1) := by decide +kernel
theorem dJ2_getChar_3b067_22 : decode cJ2_getChar_3b067 22 = .ok (.ldc 54, 2) := by decide +kernel
theorem dJ2_getChar_3b067_24 : decode cJ2_getChar_3b067 24 = .ok (.invokespecial 56, 3) := by decide +kernel
theorem dJ2_getChar_3b067_27 : decode cJ2_getChar_3b067 27 = .ok (.athrow, 1) := by decide +kernel
theorem dJ2_getChar_3b067_28 : decode cJ2_getChar_3b067 28 = .ok (.iload_n 1, 1) := by decide +kernel
theorem dJ2_getChar_3b067_29 : decode cJ2_getChar_3b067 29 = .ok (.iconst 1, 1) := by decide +kernel
theorem dJ2_getChar_3b067_30 : decode cJ2_getChar_3b067 30 = .ok (.ishl, 1) := by decide +kernel
theorem dJ2_getChar_3b067_31 : decode cJ2_getChar_3b067 31 = .ok (.istore_n 1, 1) := by decide +kernel
theorem dJ2_getChar_3b067_32 : decode cJ2_getChar_3b067 32 = .ok (.aload_n 0, 1) := by decide +kernel
theorem dJ2_getChar_3b067_33 : decode cJ2_getChar_3b067 33 = .ok (.iload_n 1, 1) := by decide +kernel
theorem dJ2_getChar_3b067_34 : decode cJ2_getChar_3b067 34 = .ok (.iinc 1 1, 3) := by decide +kernel
theorem dJ2_getChar_3b067_37 : decode cJ2_getChar_3b067 37 = .ok (.baload, 1) := by decide +kernel
theorem dJ2_getChar_3b067_38 : decode cJ2_getChar_3b067 38 = .ok (.sipush 255, 3) := by decide +kernel
theorem dJ2_getChar_3b067_41 : decode cJ2_getChar_3b067 41 = .ok (.iand, 1) := by decide +kernel
theorem dJ2_getChar_3b067_42 : decode cJ2_getChar_3b067 42 = .ok (.getstatic 59, 3) := by decide +kernel
theorem dJ2_getChar_3b067_45 : decode cJ2_getChar_3b067 45 = .ok (.ishl, 1) := by decide +kernel
theorem dJ2_getChar_3b067_46 : decode cJ2_getChar_3b067 46 = .ok (.aload_n 0, 1) := by decide +kernel
theorem dJ2_getChar_3b067_47 : decode cJ2_getChar_3b067 47 = .ok (.iload_n 1, 1) := by decide +kernel
theorem dJ2_getChar_3b067_48 : decode cJ2_getChar_3b067 48 = .ok (.baload, 1) := by decide +kernel
theorem dJ2_getChar_3b067_49 : decode cJ2_getChar_3b067 49 = .ok (.sipush 255, 3) := by decide +kernel
theorem dJ2_getChar_3b067_52 : decode cJ2_getChar_3b067 52 = .ok (.iand, 1) := by decide +kernel
theorem dJ2_getChar_3b067_53 : decode cJ2_getChar_3b067 53 = .ok (.getstatic 63, 3) := by decide +kernel
theorem dJ2_getChar_3b067_56 : decode cJ2_getChar_3b067 56 = .ok (.ishl, 1) := by decide +kernel
theorem dJ2_getChar_3b067_57 : decode cJ2_getChar_3b067 57 = .ok (.ior, 1) := by decide +kernel
theorem dJ2_getChar_3b067_58 : decode cJ2_getChar_3b067 58 = .ok (.i2c, 1) := by decide +kernel
theorem dJ2_getChar_3b067_59 : decode cJ2_getChar_3b067 59 = .ok (.ireturn, 1) := by decide +kernel
theorem dJ2_length_9d52b_0 : decode cJ2_length_9d52b 0 = .ok (.aload_n 0, 1) := by decide +kernel
theorem dJ2_length_9d52b_1 : decode cJ2_length_9d52b 1 = .ok (.arraylength, 1) := by decide +kernel
theorem dJ2_length_9d52b_2 : decode cJ2_length_9d52b 2 = .ok (.iconst 1, 1) := by decide +kernel
theorem dJ2_length_9d52b_3 : decode cJ2_length_9d52b 3 = .ok (.ishr, 1) := by decide +kernel
theorem dJ2_length_9d52b_4 : decode cJ2_length_9d52b 4 = .ok (.ireturn, 1) := by decide +kernel
theorem dJ2_charAt_3b067_0 : decode cJ2_charAt_3b067 0 = .ok (.iload_n 1, 1) := by decide +kernel
theorem dJ2_charAt_3b067_1 : decode cJ2_charAt_3b067 1 = .ok (.aload_n 0, 1) := by decide +kernel
theorem dJ2_charAt_3b067_2 : decode cJ2_charAt_3b067 2 = .ok (.invokestatic 67, 3) := by decide +kernel
theorem dJ2_charAt_3b067_5 : decode cJ2_charAt_3b067 5 = .ok (.aload_n 0, 1) := by decide +kernel
theorem dJ2_charAt_3b067_6 : decode cJ2_charAt_3b067 6 = .ok (.iload_n 1, 1) := by decide +kernel
theorem dJ2_charAt_3b067_7 : decode cJ2_charAt_3b067 7 = .ok (.invokestatic 71, 3) := by decide +kernel
theorem dJ2_charAt_3b067_10 : decode cJ2_charAt_3b067 10 = .ok (.ireturn, 1) := by decide +kernel
theorem dJ2_checkIndex_2214a_0 : decode cJ2_checkIndex_2214a 0 = .ok (.iload_n 0, 1) := by decide +kernel
theorem dJ2_checkIndex_2214a_1 : decode cJ2_checkIndex_2214a 1 = .ok (.aload_n 1, 1) := by decide +kernel
theorem dJ2_checkIndex_2214a_2 : decode cJ2_checkIndex_2214a 2 = .ok (.invokestatic 48, 3) := by decide +kernel
theorem dJ2_checkIndex_2214a_5 : decode cJ2_checkIndex_2214a 5 = .ok (.invokestatic 414, 3) := by decide +kernel
theorem dJ2_checkIndex_2214a_8 : decode cJ2_checkIndex_2214a 8 = .ok (.return_, 1) := by decide +kernel
theorem dJ3_checkIndex_8e157_0 : decode cJ3_checkIndex_8e157 0 = .ok (.iload_n 0, 1) := by decide +kernel
theorem dJ3_checkIndex_8e157_1 : decode cJ3_checkIndex_8e157 1 = .ok (.ifCond .lt 8, 3) := by decide +kernel
theorem dJ3_checkIndex_8e157_4 : decode cJ3_checkIndex_8e157 4 = .ok (.iload_n 0, 1) := by decide +kernel
theorem dJ3_checkIndex_8e157_5 : decode cJ3_checkIndex_8e157 5 = .ok (.iload_n 1, 1) := by decide +kernel
theorem dJ3_checkIndex_8e157_6 : decode cJ3_checkIndex_8e157 6 = .ok (.if_icmp .lt 10, 3) := by decide +kernel
theorem dJ3_checkIndex_8e157_9 : decode cJ3_checkIndex_8e157 9 = .ok (.aload_n 2, 1) := by decide +kernel
theorem dJ3_checkIndex_8e157_10 : decode cJ3_checkIndex_8e157 10 = .ok (.iload_n 0, 1) := by decide +kernel
theorem dJ3_checkIndex_8e157_11 : decode cJ3_checkIndex_8e157 11 = .ok (.iload_n 1, 1) := by decide +kernel
theorem dJ3_checkIndex_8e157_12 : decode cJ3_checkIndex_8e157 12 = .ok (.invokestatic 95, 3) := by decide +kernel
theorem dJ3_checkIndex_8e157_15 : decode cJ3_checkIndex_8e157 15 = .ok (.athrow, 1) := by decide +kernel
theorem dJ3_checkIndex_8e157_16 : decode cJ3_checkIndex_8e157 16 = .ok (.iload_n 0, 1) := by decide +kernel
theorem dJ3_checkIndex_8e157_17 : decode cJ3_checkIndex_8e157 17 = .ok (.ireturn, 1) := by decide +kernel
